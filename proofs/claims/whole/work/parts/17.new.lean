/-! THE SIMULATION, its rows -/
section AMB
variable {p : Program} {l : Launch} {e : Env} {R : Room} {s : State} {m : MethodId} {args : Array Value} {below : List Frame} {meth : Method} {c : Code} {H : Heap} {locs : List Loc} {cells slots : Nat} {Q : State → Prop}
variable {cc : ByteArray} {D : va_G} {cs : am_C4} {base b sn : Nat} {xs : Nat → Int32} {S : Nat → Nat} {own nm : String}
variable {n a : Nat} {z : Int} {pc pc' : Nat} {L L' st st' : List am_V} {sh sh' : am_Sh} {g g' : am_G} {ls : Array Slot}
theorem am_ws_app (o : Nat × Nat × List Nat) : am_ws base cs (sh ++ [o]) (am_cl g sh.length) = am_ws base cs sh g ++ [(base + sh.length, am_en base cs (fun _ => 0) o)] := by
  unfold am_ws
  rw [List.mapIdx_concat]
  have e1 : am_cl g sh.length sh.length = fun _ => 0 := by
    funext j
    simp [am_cl]
  rw [e1]
  congr 1
  refine List.ext_getElem? fun i => ?_
  rw [List.getElem?_mapIdx, List.getElem?_mapIdx]
  cases h : sh[i]? with
  | none => rfl
  | some o =>
    have h1 := am_lt h
    have e2 : am_cl g sh.length i = g i := by
      funext j
      have : i ≠ sh.length := by omega
      simp [am_cl, this]
    rw [e2]
theorem am_dflt {ci : Nat} {q : vw_C} (hq : vwCl[ci]? = some q) {j : Nat} (hj : j < q.2.2) : defaultValue (am_ty ci j) = vp_V ((am_cls.getD ci []).mapIdx (am_fv base (fun _ => 0) (List.replicate (am_cls.getD ci []).length 0))) j := by
  obtain ⟨o1, o2, o3, o4, o5⟩ := am_cl_ok hq
  have h5 := o5 j hj
  rw [List.getD_eq_getElem?_getD (l := am_cls.getD ci [])] at h5
  unfold vp_V
  rw [List.getD_eq_getElem?_getD, List.getElem?_mapIdx]
  have hl : j < (am_cls.getD ci []).length := by omega
  rw [List.getElem?_eq_getElem hl] at h5 ⊢
  simp only [Option.getD_some] at h5
  have e1 : am_rf base (List.replicate (am_cls.getD ci []).length 0) j = none := by
    unfold am_rf
    rw [List.getElem?_replicate, if_pos hl]
  simp only [Option.map_some, Option.getD_some]
  unfold am_fv
  rcases am_tag h5 with ⟨w, v⟩ | ⟨w, v⟩ | ⟨w, v⟩ | ⟨w, v⟩
  · rw [w, v]; rfl
  · rw [w, v]; rfl
  · rw [w, v]; rfl
  · rw [w, e1]
    rcases v with ⟨C, v⟩ | ⟨u, v⟩ <;> (rw [v]; rfl)
set_option maxHeartbeats 4000000 in
theorem am_newS {en : am_E} (hx : p.tables.exec = Jvm.exec) (hb : c.code = cc) (hown : s.vm.findClass own = some m.cls) (hts : ∀ w ∈ am_good, w.before args s = true) (hF : am_F base b sn xs D cs S s) (h : am_new en pc st sh g = some (pc', st', sh', g')) (hdg : decode cc pc = .ok (en.1, en.2.1)) (hok : am_okI own nm pc en) (hok2 : am_okN own en)
    (hP : va_P D vwCl (am_ws base cs sh g) H) (hz : H.size = base + sh.length) (hS : va_S (am_AA base) s.heap H locs) (hc1 : cells + (sh'.length - sh.length) ≤ R.cells) (hc2 : slots + (am_tot sh' - am_tot sh) ≤ R.slots)
    (kk : ∀ H1 : Heap, va_P D vwCl (am_ws base cs sh' g') H1 → H1.size = base + sh'.length → va_S (am_AA base) s.heap H1 locs → W p l e R s m args below meth c H1 locs (cells + (sh'.length - sh.length)) (slots + (am_tot sh' - am_tot sh)) Q (F0 m pc' ls (st'.map (am_cv base b S)))) : W p l e R s m args below meth c H locs cells slots Q (F0 m pc ls (st.map (am_cv base b S))) := by
  obtain ⟨hK, hX, hbb, hbs, hSR, hN, hO, hZ1, hZ2, hV⟩ := hF
  obtain ⟨hlen, -⟩ := hok
  obtain ⟨I, n, a, z⟩ := en
  cases I
  case new k =>
    have hn : n = 3 := hlen (fun q => by cases q)
    subst hn
    replace h := Option.some.inj h
    simp only [Prod.mk.injEq] at h
    obtain ⟨rfl, rfl, rfl, rfl⟩ := h
    obtain ⟨q, q1, q2, q3, q4⟩ := hok2
    obtain ⟨C, T, N⟩ := q
    obtain ⟨o1, o2, o3, o4, o5⟩ := am_cl_ok q1
    simp only at q1 q2 q3 q4 o4
    simp only [am_tot_app, List.length_append, List.length_singleton, o4] at hc2 hc1 kk
    have e1 : sh.length + 1 - sh.length = 1 := by omega
    have e2 : am_tot sh + N - am_tot sh = N := by omega
    simp only [e1, e2] at hc1 hc2 kk
    refine am_r_new hx hb hts o1 (am_ty a) o2 hown (hts _ q2) (hts _ q3) (hts _ q4) hK hP hS q1 (fun j hj => am_dflt (base := base) q1 hj) hc1 hc2 hdg (fun H1 hP1 hz1 hS1 => ?_)
    have e3 : (am_ws base cs sh g ++ [(H.size, (Sum.inr (a, (am_cls.getD a []).mapIdx (am_fv base (fun _ => 0) (List.replicate (am_cls.getD a []).length 0))) : va_E))]) = am_ws base cs (sh ++ [(4 + a, (am_cls.getD a []).length, List.replicate (am_cls.getD a []).length 0)]) (am_cl g sh.length) := by
      rw [am_ws_app, am_en4, hz]
    rw [e3] at hP1
    have hk := kk H1 (by rw [← o4]; exact hP1) (by omega) hS1
    rw [hz]
    simp only [List.map_cons, am_cv, Int.toNat_natCast] at hk
    exact hk
  case newarray t =>
    have hn : n = 2 := hlen (fun q => by cases q)
    subst hn
    replace h := Option.bind_eq_some_iff.mp h
    obtain ⟨⟨x, t1⟩, h1, h⟩ := h
    replace h1 := am_pp_iff.mp h1
    simp only at h1 h
    subst h1
    by_cases hc : 0 ≤ w32 x ∧ w32 x ≤ 100000
    case neg => rw [if_neg hc] at h; cases h
    rw [if_pos hc] at h
    replace h := Option.bind_eq_some_iff.mp h
    obtain ⟨kd, h2, h⟩ := h
    replace h := Option.some.inj h
    simp only [Prod.mk.injEq] at h
    obtain ⟨rfl, rfl, rfl, rfl⟩ := h
    simp only [am_tot_app, List.length_append, List.length_singleton] at hc2 hc1 kk
    have e1 : sh.length + 1 - sh.length = 1 := by omega
    have e2 : am_tot sh + (w32 x).toNat - am_tot sh = (w32 x).toNat := by omega
    simp only [e1, e2] at hc1 hc2 kk
    have hn : ¬ Int32.ofInt x < 0 := by rw [← w32_0, w32_lt]; show ¬ w32 x < 0; omega
    have hN : (Int32.ofInt x).toNatClampNeg = (w32 x).toNat := by
      show (Int32.ofInt x).toInt.toNat = _
      rw [w32_toInt]
    have K0 := (hK.2 0 _ rfl).2
    have K1 := (hK.2 1 _ rfl).2
    have K2 := (hK.2 2 _ rfl).2
    have fin : ∀ (kd : Nat) (H1 : Heap), va_P D vwCl (am_ws base cs sh g ++ [(H.size, am_en base cs (fun _ => 0) (kd, (w32 x).toNat, []))]) H1 → va_P D vwCl (am_ws base cs (sh ++ [(kd, (w32 x).toNat, [])]) (am_cl g sh.length)) H1 := fun kd H1 hP1 => by
      rw [am_ws_app, ← hz]; exact hP1
    cases t <;> simp only [Option.some.injEq, reduceCtorEq] at h2
    case int =>
      subst h2
      refine am_r_newa (ty := .int) (a0 := ((w32 x).toNat, .inl fun _ => Int32.ofInt 0)) hx hb (hts _ hok2) rfl hP hS K0 rfl hn hN (by show _ * 4 ≤ _; omega) hc1 hc2 hdg (fun H1 hP1 hz1 hS1 => ?_)
      have hk := kk H1 (fin 0 H1 hP1) (by omega) hS1
      rw [hz]
      simp only [List.map_cons, am_cv, Int.toNat_natCast] at hk
      exact hk
    case long =>
      subst h2
      refine am_r_newa (ty := .long) (a0 := ((w32 x).toNat, .inr (.inl fun _ => Int64.ofInt 0))) hx hb (hts _ hok2) rfl hP hS K1 rfl hn hN (by show _ * 8 ≤ _; omega) hc1 hc2 hdg (fun H1 hP1 hz1 hS1 => ?_)
      have hk := kk H1 (fin 1 H1 hP1) (by omega) hS1
      rw [hz]
      simp only [List.map_cons, am_cv, Int.toNat_natCast] at hk
      exact hk
    case boolean =>
      subst h2
      refine am_r_newa (ty := .boolean) (a0 := ((w32 x).toNat, .inl fun _ => Int32.ofInt 0)) hx hb (hts _ hok2) rfl hP hS K2 rfl hn hN (by show _ * 1 ≤ _; omega) hc1 hc2 hdg (fun H1 hP1 hz1 hS1 => ?_)
      have hk := kk H1 (fin 2 H1 hP1) (by omega) hS1
      rw [hz]
      simp only [List.map_cons, am_cv, Int.toNat_natCast] at hk
      exact hk
  case anewarray k =>
    have hn : n = 3 := hlen (fun q => by cases q)
    subst hn
    replace h := Option.bind_eq_some_iff.mp h
    obtain ⟨⟨x, t1⟩, h1, h⟩ := h
    replace h1 := am_pp_iff.mp h1
    simp only at h1 h
    subst h1
    by_cases hc : 0 ≤ w32 x ∧ w32 x ≤ 100000
    case neg => rw [if_neg hc] at h; cases h
    rw [if_pos hc] at h
    replace h := Option.some.inj h
    simp only [Prod.mk.injEq] at h
    obtain ⟨rfl, rfl, rfl, rfl⟩ := h
    simp only [am_tot_app, List.length_append, List.length_singleton] at hc2 hc1 kk
    have e1 : sh.length + 1 - sh.length = 1 := by omega
    have e2 : am_tot sh + (w32 x).toNat - am_tot sh = (w32 x).toNat := by omega
    simp only [e1, e2] at hc1 hc2 kk
    have hn : ¬ Int32.ofInt x < 0 := by rw [← w32_0, w32_lt]; show ¬ w32 x < 0; omega
    have hN : (Int32.ofInt x).toNatClampNeg = (w32 x).toNat := by
      show (Int32.ofInt x).toInt.toNat = _
      rw [w32_toInt]
    obtain ⟨kA, comp, -, -, -, K3⟩ := (hK.2 3 _ rfl).2
    refine am_r_anew (f := am_rf base (List.replicate (w32 x).toNat 0)) hx hb hown (hts _ hok2) hO hP hS K3 (fun j hj => by unfold am_rf; rw [List.getElem?_replicate, if_pos hj]) hn hN (by omega) hc1 hc2 hdg (fun H1 hP1 hz1 hS1 => ?_)
    have hk := kk H1 (by rw [am_ws_app, ← hz]; exact hP1) (by omega) hS1
    rw [hz]
    simp only [List.map_cons, am_cv, Int.toNat_natCast] at hk
    exact hk
  all_goals (simp [am_new] at h)
end AMB
