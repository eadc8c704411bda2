/-! one step, the instructions on cells -/
theorem am_xs_iff {len : Nat} {x : Int} {j : Nat} (hj : j < len) (hx : w32 x = (j : Int)) : am_xs len x = some j := by
  unfold am_xs
  rw [if_pos (by omega)]
  congr 1
  omega
theorem am_en0 {base : Nat} {cs : am_C4} {gk : Nat → Int} {o : Nat × List Nat} : am_en base cs gk (0, o) = .inl (cs.1, o.1, .inl fun j => Int32.ofInt (gk j)) := rfl
theorem am_en1 {base : Nat} {cs : am_C4} {gk : Nat → Int} {o : Nat × List Nat} : am_en base cs gk (1, o) = .inl (cs.2.1, o.1, .inr (.inl fun j => Int64.ofInt (gk j))) := rfl
theorem am_en2 {base : Nat} {cs : am_C4} {gk : Nat → Int} {o : Nat × List Nat} : am_en base cs gk (2, o) = .inl (cs.2.2.1, o.1, .inl fun j => Int32.ofInt (gk j)) := rfl
theorem am_en3 {base : Nat} {cs : am_C4} {gk : Nat → Int} {o : Nat × List Nat} : am_en base cs gk (3, o) = .inl (cs.2.2.2, o.1, .inr (.inr (.inr (.inr (am_rf base o.2))))) := rfl
theorem am_en4 {base : Nat} {cs : am_C4} {gk : Nat → Int} {ci : Nat} {o : Nat × List Nat} : am_en base cs gk (4 + ci, o) = .inr (ci, (am_cls.getD ci []).mapIdx (am_fv base gk o.2)) := by
  unfold am_en
  have h0 : ¬ (4 + ci = 0) := by omega
  have h1 : ¬ (4 + ci = 1) := by omega
  have h2 : ¬ (4 + ci = 2) := by omega
  have h3 : ¬ (4 + ci = 3) := by omega
  have h4 : 4 + ci - 4 = ci := by omega
  simp only [h0, h1, h2, h3, if_false, h4]
theorem am_lt {sh : am_Sh} {k : Nat} {o : Nat × Nat × List Nat} (h : sh[k]? = some o) : k < sh.length := (List.getElem?_eq_some_iff.mp h).1
theorem am_updE {f : Nat → Int} {j : Nat} {x : Int} : upd (fun i => Int32.ofInt (f i)) j (Int32.ofInt x) = fun i => Int32.ofInt (if i = j then x else f i) := by
  funext i
  unfold upd
  split <;> rfl
theorem am_updL {f : Nat → Int} {j : Nat} {x : Int} : vp_updL (fun i => Int64.ofInt (f i)) j (Int64.ofInt x) = fun i => Int64.ofInt (if i = j then x else f i) := by
  funext i
  unfold vp_updL
  split <;> rfl
theorem am_tag {t : Nat} {ty : FieldType} (h : am_tyOK t ty = true) : (t = 0 ∧ ty = .int) ∨ (t = 1 ∧ ty = .long) ∨ (t = 3 ∧ ty = .boolean) ∨ (t = 2 ∧ ((∃ C, ty = .object C) ∨ ∃ u, ty = .array u)) := by
  cases ty <;> simp [am_tyOK] at h <;> subst h <;> simp
/-! stores, with what they leave of the heap's size -/
section AMR
variable {p : Program} {l : Launch} {e : Env} {R : Room} {s : State} {m : MethodId} {args : Array Value} {below : List Frame} {meth : Method} {c : Code} {H : Heap} {locs : List Loc} {cells slots : Nat} {Q : State → Prop}
variable {cc : ByteArray} {pc : Nat} {ls : Array Slot} {rest : List Value} {D : va_G} {cl : List vw_C} {A : Nat → Prop} {a : Nat} {tys : List (ClassId × FieldType)} {ws : va_W} {H0 : Heap}
theorem am_r_iast (hx : p.tables.exec = Jvm.exec) (hb : c.code = cc) (hK : va_K D cl tys s) (hP : va_P D cl ws H) (hD : va_D A ws) (hS : va_S A H0 H locs) (q0 t0 : Nat) {cA : ClassId} {n : Nat} {f : Nat → Int32} (ha : ws[q0]? = some (a, .inl (cA, n, .inl f))) (ht : tys[t0]? = some (cA, .int)) {i x : Int32} (hin : vp_in i n) (hdg : decode cc pc = .ok (.iastore, 1))
    (kk : ∀ (H1 : Heap) (locs1 : List Loc), va_P D cl (ws.set q0 (a, .inl (cA, n, .inl (upd f i.toNatClampNeg x)))) H1 → H1.size = H.size → va_S A H0 H1 locs1 → W p l e R s m args below meth c H1 locs1 cells slots Q (F0 m (pc + 1) ls rest)) : W p l e R s m args below meth c H locs cells slots Q (F0 m pc ls (.int x :: .int i :: .ref a :: rest)) := by
  refine W.iast hx hb (hP q0 _ ha) ((hK.2 t0 _ ht).1 n (fun j => .int (f j))) (fun q => by cases q) (by show ¬ (i < 0 ∨ (arrV _ _ _).slots.size ≤ _); rw [arrV_size]; exact hin) rfl rfl hdg fun H1 e1 z oq => ?_
  refine kk H1 _ (hP.set hD ha ?_ oq) z (hS.put z oq (hD.2 q0 _ ha))
  show H1[a]? = some (vp_cell _ _)
  rw [e1, vp_cell_i, vp_cell_i, arrV_store]
  congr 2
  funext q
  by_cases hq : q = i.toNatClampNeg
  · subst hq; simp [updV, upd]
  · simp [updV, upd, hq]
theorem am_r_zast (hx : p.tables.exec = Jvm.exec) (hb : c.code = cc) (hK : va_K D cl tys s) (hP : va_P D cl ws H) (hD : va_D A ws) (hS : va_S A H0 H locs) (q0 t0 : Nat) {cA : ClassId} {n : Nat} {f : Nat → Int32} (ha : ws[q0]? = some (a, .inl (cA, n, .inl f))) (ht : tys[t0]? = some (cA, .boolean)) {i x : Int32} (hin : vp_in i n) (hdg : decode cc pc = .ok (.bastore, 1))
    (kk : ∀ (H1 : Heap) (locs1 : List Loc), va_P D cl (ws.set q0 (a, .inl (cA, n, .inl (upd f i.toNatClampNeg (vp_nar .boolean x))))) H1 → H1.size = H.size → va_S A H0 H1 locs1 → W p l e R s m args below meth c H1 locs1 cells slots Q (F0 m (pc + 1) ls rest)) : W p l e R s m args below meth c H locs cells slots Q (F0 m pc ls (.int x :: .int i :: .ref a :: rest)) := by
  refine W.zast hx hb (hP q0 _ ha) ((hK.2 t0 _ ht).1 n (fun j => .int (f j))) (fun q => by cases q) (by show ¬ (i < 0 ∨ (arrV _ _ _).slots.size ≤ _); rw [arrV_size]; exact hin) rfl rfl hdg fun H1 e1 z oq => ?_
  refine kk H1 _ (hP.set hD ha ?_ oq) z (hS.put z oq (hD.2 q0 _ ha))
  show H1[a]? = some (vp_cell _ _)
  rw [e1, vp_cell_i, vp_cell_i, arrV_store]
  congr 2
  funext q
  by_cases hq : q = i.toNatClampNeg
  · subst hq
    simp [updV, upd, vp_nar]
    try rfl
  · simp [updV, upd, hq]
theorem am_r_last (hx : p.tables.exec = Jvm.exec) (hb : c.code = cc) (hK : va_K D cl tys s) (hP : va_P D cl ws H) (hD : va_D A ws) (hS : va_S A H0 H locs) (q0 t0 : Nat) {cA : ClassId} {n : Nat} {f : Nat → Int64} (ha : ws[q0]? = some (a, .inl (cA, n, .inr (.inl f)))) (ht : tys[t0]? = some (cA, .long)) {i : Int32} {x : Int64} (hin : vp_in i n) (hdg : decode cc pc = .ok (.lastore, 1))
    (kk : ∀ (H1 : Heap) (locs1 : List Loc), va_P D cl (ws.set q0 (a, .inl (cA, n, .inr (.inl (vp_updL f i.toNatClampNeg x))))) H1 → H1.size = H.size → va_S A H0 H1 locs1 → W p l e R s m args below meth c H1 locs1 cells slots Q (F0 m (pc + 1) ls rest)) : W p l e R s m args below meth c H locs cells slots Q (F0 m pc ls (.long x :: .int i :: .ref a :: rest)) := by
  refine W.last hx hb (hP q0 _ ha) ((hK.2 t0 _ ht).1 n (fun j => .long (f j))) (fun q => by cases q) (by show ¬ (i < 0 ∨ (arrV _ _ _).slots.size ≤ _); rw [arrV_size]; exact hin) rfl rfl hdg fun H1 e1 z oq => ?_
  refine kk H1 _ (hP.set hD ha ?_ oq) z (hS.put z oq (hD.2 q0 _ ha))
  show H1[a]? = some (vp_cell _ _)
  rw [e1, vp_cell_l, vp_cell_l, arrV_store]
  congr 2
  funext q
  by_cases hq : q = i.toNatClampNeg
  · subst hq; simp [updV, vp_updL]
  · simp [updV, vp_updL, hq]
theorem am_r_astq (hx : p.tables.exec = Jvm.exec) (hb : c.code = cc) (hK : va_K D cl tys s) (hP : va_P D cl ws H) (hD : va_D A ws) (hS : va_S A H0 H locs) (q0 t0 qk ci : Nat) {cA : ClassId} {r : vw_C} {n v : Nat} {vs : List Value} {f : Nat → Option Nat} (ha : ws[q0]? = some (a, .inl (cA, n, .inr (.inr (.inr (.inr f)))))) (ht : tys[t0]? = some (cA, .object r.1)) (hv : ws[qk]? = some (v, .inr (ci, vs))) (hc : cl[ci]? = some r) {i : Int32} (hin : vp_in i n) (hdg : decode cc pc = .ok (.aastore, 1))
    (kk : ∀ (H1 : Heap) (locs1 : List Loc), va_P D cl (ws.set q0 (a, .inl (cA, n, .inr (.inr (.inr (.inr (va_up f i.toNatClampNeg (some v)))))))) H1 → H1.size = H.size → va_S A H0 H1 locs1 → W p l e R s m args below meth c H1 locs1 cells slots Q (F0 m (pc + 1) ls rest)) : W p l e R s m args below meth c H locs cells slots Q (F0 m pc ls (.ref v :: .int i :: .ref a :: rest)) := by
  have hlt : i.toNatClampNeg < n := Nat.not_le.mp fun q => hin (Or.inr q)
  have h0 : ¬ i < 0 := fun q => hin (Or.inl q)
  obtain ⟨r', hr', cellV, g1, g2, g3, -⟩ := hP qk _ hv
  have hcls := (hK.1 ci r hc).2
  obtain ⟨kA, comp, k1, k2, k3, -⟩ := (hK.2 t0 _ ht).2
  have hcomp : comp = D.1 ci := Option.some.inj (k3.symm.trans hcls.1)
  subst hcomp
  obtain ⟨kC, hkC, -⟩ := hcls.2
  refine W.aast hx hb (hP q0 _ ha) (fun q h => by cases h) (fun h => by cases h) k1 k2 rfl hkC ⟨h0, by show _ < (arrV _ _ _).slots.size; rw [arrV_size]; exact hlt⟩ g1 (fun q h => by rw [g3] at h; cases h) (by rw [g2]; exact hkC) (by rw [g2]; exact va_assign hcls) rfl rfl hdg fun H1 e1 z oq => ?_
  refine kk H1 _ (hP.set hD ha ?_ oq) z (hS.put z oq (hD.2 q0 _ ha))
  show H1[a]? = some (vp_cell _ _)
  rw [e1, vp_cell_q, vp_cell_q, arrV_store]
  congr 2
  funext q
  by_cases hq : q = i.toNatClampNeg
  · subst hq; simp [updV, va_up, va_rf]
  · simp [updV, va_up, hq]
theorem am_r_put (hx : p.tables.exec = Jvm.exec) (hb : c.code = cc) {own C : String} {T : u_T} {N ci index : Nat} {Ts : List Cond} (hts : ∀ w ∈ Ts, w.before args s = true) (hin : ∀ w ∈ u_ws C T N, w ∈ Ts) (ty0 : Nat → FieldType) (hty : ∀ k, k < N → parseFieldDescriptor (T k).2.2.1 = some (ty0 k)) (hnm : ∀ a, a < N → ∀ b, b < N → a ≠ b → (T a).2.1 ≠ (T b).2.1) (hown : s.vm.findClass own = some m.cls) (hK : va_K D cl tys s) (hP : va_P D cl ws H) (hD : va_D A ws) (hS0 : va_S A H0 H locs) (q0 : Nat) {fs : List Value} (he : ws[q0]? = some (a, .inr (ci, fs))) (hc : cl[ci]? = some (C, T, N)) (k : Nat) (hk : k < N) (hlink : (Cond.fieldLink own index (T k).1 (T k).2.1 (T k).2.2.1).before args s = true) (hfin : (T k).2.2.2 = true → meth.name = "<init>" ∧ (T k).1 = own) {v : Value} (hn : narrow (ty0 k) v = v) (hfit : fits (ty0 k) v = true) (hl : k < fs.length)
    (hdg : decode cc pc = .ok (.putfield index, 3)) (kk : ∀ (H1 : Heap) (locs1 : List Loc), va_P D cl (ws.set q0 (a, .inr (ci, fs.set k v))) H1 → H1.size = H.size → va_S A H0 H1 locs1 → W p l e R s m args below meth c H1 locs1 cells slots Q (F0 m (pc + 3) ls rest)) : W p l e R s m args below meth c H locs cells slots Q (F0 m pc ls (v :: .ref a :: rest)) := by
  have hd := hty k hk
  have hap := va_apart (own := own) hts hin ty0 hty hnm hK hc
  obtain ⟨r, h1, cell, q1, q2, q3, q4⟩ := hP q0 _ he
  have hr : r = (C, T, N) := Option.some.inj (h1.symm.trans hc)
  subst hr
  obtain ⟨hS, hfc, kC, hkC, hkind⟩ := hK.1 ci _ hc
  obtain ⟨cf, kf, fi, f, hi, hsl⟩ := hS k hk
  have hlay := hts _ (hin _ (u_in_lay hk))
  unfold u_lay at hlay
  have hst := (u_facts hfc hkC (u_lays hts hin hk) hi).1
  by_cases hF : (T k).2.2.2 = true
  · rw [if_pos hF] at hlay
    obtain ⟨hin2, hdecl⟩ := hfin hF
    have hcf : m.cls = cf := by
      obtain ⟨_, _, c', _, _, _, -, -, hf', -, -, -, hown2, -⟩ := Cond.laysFinal_spec hlay
      have e1 : c' = cf := by have := hi.symm.trans hf'; simp at this; exact this.1.symm
      rw [hdecl] at hown2
      rw [← e1]; exact Option.some.inj (hown.symm.trans hown2)
    have h6 := u_fits hfc hkC hkind (Or.inr hlay) hi hd hn hfit
    refine W.putFinK hx hb hown hlink hi hst hcf hin2 (by rw [q2]; exact h6) q1 q3 (by rw [hsl]; exact k2_hasslot (q4 k hk)) rfl rfl hdg fun H' e1 e2 e3 => ?_
    rw [hsl] at e1 ⊢
    exact kk H' _ (hP.set hD he ⟨_, hc, t_OB.to (V := updV (vp_V fs) k v) ⟨_, e1, q2, q3, t_set q4 hap hk v⟩ (fun j _ => vp_updV_set hl v j)⟩ e3) e2 (hS0.put e2 e3 (hD.2 q0 _ he))
  · rw [if_neg hF] at hlay
    have h6 := u_store hfc hkC hkind hlay hi hd hn hfit
    refine W.putK hx hb (f := f) ⟨hown, hlink, ⟨_, _, _, hi⟩, hst⟩ (by rw [q2]; exact h6) q1 q3 (by rw [hsl]; exact k2_hasslot (q4 k hk)) rfl rfl hdg fun H' e1 e2 e3 => ?_
    rw [hsl] at e1 ⊢
    exact kk H' _ (hP.set hD he ⟨_, hc, t_OB.to (V := updV (vp_V fs) k v) ⟨_, e1, q2, q3, t_set q4 hap hk v⟩ (fun j _ => vp_updV_set hl v j)⟩ e3) e2 (hS0.put e2 e3 (hD.2 q0 _ he))
end AMR
section AMS
variable {p : Program} {l : Launch} {e : Env} {R : Room} {s : State} {m : MethodId} {args : Array Value} {below : List Frame} {meth : Method} {c : Code} {H : Heap} {locs : List Loc} {cells slots : Nat} {Q : State → Prop}
variable {cc : ByteArray} {D : va_G} {cs : am_C4} {base b sn : Nat} {xs : Nat → Int32} {S : Nat → Nat} {own nm : String}
variable {n a : Nat} {z : Int} {pc pc' : Nat} {L L' st st' : List am_V} {sh sh' : am_Sh} {g g' : am_G} {ls : Array Slot}
set_option maxHeartbeats 4000000 in
theorem am_t_arraylength  (hx : p.tables.exec = Jvm.exec) (hb : c.code = cc) (hown : s.vm.findClass own = some m.cls) (hts : ∀ w ∈ am_good, w.before args s = true) (hnm : meth.name = nm) (hK : va_K D vwCl (am_tys cs) s) (hX : va_X b sn xs s s.heap) (hbb : b < base) (hbs : base ≤ s.heap.size) (hSR : am_SR S s) (h : am_stp sn (fun j => (xs j).toInt) (.arraylength, n, a, z) pc L st sh g = some (pc', L', st', sh', g')) (hdg : decode cc pc = .ok (.arraylength, n)) (hok : am_okI own nm pc (.arraylength, n, a, z)) (hl : am_LR base b S ls L) (hP : va_P D vwCl (am_ws base cs sh g) H) (hS : va_S (am_AA base) s.heap H locs) (kk : ∀ (H1 : Heap) (locs1 : List Loc) (ls1 : Array Slot), va_P D vwCl (am_ws base cs sh' g') H1 → H1.size = H.size → va_S (am_AA base) s.heap H1 locs1 → am_LR base b S ls1 L' → W p l e R s m args below meth c H1 locs1 cells slots Q (F0 m pc' ls1 (st'.map (am_cv base b S)))) : W p l e R s m args below meth c H locs cells slots Q (F0 m pc ls (st.map (am_cv base b S))) := by
  obtain ⟨hlen, hlk⟩ := hok
  have hn : n = 1 := hlen (fun q => by cases q)
  subst hn
  have hbA : ¬ am_AA base b := Nat.not_le.mpr hbb
  cases st with
  | nil => cases h
  | cons v t =>
    obtain ⟨k, x⟩ := v
    simp only [am_stp] at h
    by_cases h5 : k = 5
    · rw [if_pos h5] at h
      subst h5
      replace h := Option.some.inj h
      simp only [Prod.mk.injEq] at h
      obtain ⟨rfl, rfl, rfl, rfl, rfl⟩ := h
      exact va_slen hx hb hX (by omega) hbA hS hdg (by rw [← Int32.ofInt_eq_ofNat]; exact kk H locs ls hP rfl hS hl)
    · rw [if_neg h5] at h
      by_cases h2 : k = 2
      case neg => rw [if_neg h2] at h; cases h
      rw [if_pos h2] at h
      subst h2
      replace h := Option.bind_eq_some_iff.mp h
      obtain ⟨⟨kd, len, rs⟩, h3, h⟩ := h
      simp only at h
      by_cases h4 : kd < 4
      case neg => rw [if_neg h4] at h; cases h
      rw [if_pos h4] at h
      replace h := Option.some.inj h
      simp only [Prod.mk.injEq] at h
      obtain ⟨rfl, rfl, rfl, rfl, rfl⟩ := h
      have hg := am_ws_get (base := base) (cs := cs) (g := g) h3
      have hkk := kk H locs ls hP rfl hS hl
      rcases (by omega : kd = 0 ∨ kd = 1 ∨ kd = 2 ∨ kd = 3) with rfl | rfl | rfl | rfl
      · exact va_alen (v := Int32.ofInt (len : Int)) hx hb hK hP x.toNat 0 hg rfl Int32.ofInt_eq_ofNat.symm hdg hkk
      · exact va_alen (v := Int32.ofInt (len : Int)) hx hb hK hP x.toNat 1 hg rfl Int32.ofInt_eq_ofNat.symm hdg hkk
      · exact va_alen (v := Int32.ofInt (len : Int)) hx hb hK hP x.toNat 2 hg rfl Int32.ofInt_eq_ofNat.symm hdg hkk
      · exact va_alen (v := Int32.ofInt (len : Int)) hx hb hK hP x.toNat 3 hg rfl Int32.ofInt_eq_ofNat.symm hdg hkk
set_option maxHeartbeats 4000000 in
theorem am_t_iaload  (hx : p.tables.exec = Jvm.exec) (hb : c.code = cc) (hown : s.vm.findClass own = some m.cls) (hts : ∀ w ∈ am_good, w.before args s = true) (hnm : meth.name = nm) (hK : va_K D vwCl (am_tys cs) s) (hX : va_X b sn xs s s.heap) (hbb : b < base) (hbs : base ≤ s.heap.size) (hSR : am_SR S s) (h : am_stp sn (fun j => (xs j).toInt) (.iaload, n, a, z) pc L st sh g = some (pc', L', st', sh', g')) (hdg : decode cc pc = .ok (.iaload, n)) (hok : am_okI own nm pc (.iaload, n, a, z)) (hl : am_LR base b S ls L) (hP : va_P D vwCl (am_ws base cs sh g) H) (hS : va_S (am_AA base) s.heap H locs) (kk : ∀ (H1 : Heap) (locs1 : List Loc) (ls1 : Array Slot), va_P D vwCl (am_ws base cs sh' g') H1 → H1.size = H.size → va_S (am_AA base) s.heap H1 locs1 → am_LR base b S ls1 L' → W p l e R s m args below meth c H1 locs1 cells slots Q (F0 m pc' ls1 (st'.map (am_cv base b S)))) : W p l e R s m args below meth c H locs cells slots Q (F0 m pc ls (st.map (am_cv base b S))) := by
  obtain ⟨hlen, hlk⟩ := hok
  have hn : n = 1 := hlen (fun q => by cases q)
  subst hn
  replace h := Option.bind_eq_some_iff.mp h
  obtain ⟨⟨i, t1⟩, h1, h⟩ := h
  replace h1 := am_pp_iff.mp h1
  simp only at h1 h
  subst h1
  have hbA : ¬ am_AA base b := Nat.not_le.mpr hbb
  cases t1 with
  | nil => cases h
  | cons v t =>
    obtain ⟨k, x⟩ := v
    simp only at h
    by_cases h5 : k = 5
    · rw [if_pos h5] at h
      subst h5
      replace h := Option.bind_eq_some_iff.mp h
      obtain ⟨j, h6, h⟩ := h
      replace h := Option.some.inj h
      simp only [Prod.mk.injEq] at h
      obtain ⟨rfl, rfl, rfl, rfl, rfl⟩ := h
      obtain ⟨hin, hj⟩ := am_xs_in h6
      exact va_sld hx hb hX (by omega) hbA hS hin hdg (by rw [hj]; have hkk := kk H locs ls hP rfl hS hl; simp only [List.map_cons, am_cv, if_true, Int32.ofInt_toInt] at hkk; exact hkk)
    · rw [if_neg h5] at h
      by_cases h2 : k = 2
      case neg => rw [if_neg h2] at h; cases h
      rw [if_pos h2] at h
      subst h2
      replace h := Option.bind_eq_some_iff.mp h
      obtain ⟨⟨len, rs⟩, h3, h⟩ := h
      replace h := Option.bind_eq_some_iff.mp h
      obtain ⟨j, h6, h⟩ := h
      replace h := Option.some.inj h
      simp only [Prod.mk.injEq] at h
      obtain ⟨rfl, rfl, rfl, rfl, rfl⟩ := h
      obtain ⟨hin, hj⟩ := am_xs_in h6
      exact va_iald hx hb hK hP x.toNat 0 (am_ws_get (am_arr_i h3)) rfl hin hdg (by rw [hj]; exact kk H locs ls hP rfl hS hl)
set_option maxHeartbeats 4000000 in
theorem am_t_laload  (hx : p.tables.exec = Jvm.exec) (hb : c.code = cc) (hown : s.vm.findClass own = some m.cls) (hts : ∀ w ∈ am_good, w.before args s = true) (hnm : meth.name = nm) (hK : va_K D vwCl (am_tys cs) s) (hX : va_X b sn xs s s.heap) (hbb : b < base) (hbs : base ≤ s.heap.size) (hSR : am_SR S s) (h : am_stp sn (fun j => (xs j).toInt) (.laload, n, a, z) pc L st sh g = some (pc', L', st', sh', g')) (hdg : decode cc pc = .ok (.laload, n)) (hok : am_okI own nm pc (.laload, n, a, z)) (hl : am_LR base b S ls L) (hP : va_P D vwCl (am_ws base cs sh g) H) (hS : va_S (am_AA base) s.heap H locs) (kk : ∀ (H1 : Heap) (locs1 : List Loc) (ls1 : Array Slot), va_P D vwCl (am_ws base cs sh' g') H1 → H1.size = H.size → va_S (am_AA base) s.heap H1 locs1 → am_LR base b S ls1 L' → W p l e R s m args below meth c H1 locs1 cells slots Q (F0 m pc' ls1 (st'.map (am_cv base b S)))) : W p l e R s m args below meth c H locs cells slots Q (F0 m pc ls (st.map (am_cv base b S))) := by
  obtain ⟨hlen, hlk⟩ := hok
  have hn : n = 1 := hlen (fun q => by cases q)
  subst hn
  replace h := Option.bind_eq_some_iff.mp h
  obtain ⟨⟨i, t1⟩, h1, h⟩ := h
  replace h1 := am_pp_iff.mp h1
  simp only at h1 h
  subst h1
  replace h := Option.bind_eq_some_iff.mp h
  obtain ⟨⟨x, t⟩, h1, h⟩ := h
  replace h1 := am_pp_iff.mp h1
  simp only at h1 h
  subst h1
  replace h := Option.bind_eq_some_iff.mp h
  obtain ⟨⟨len, rs⟩, h3, h⟩ := h
  replace h := Option.bind_eq_some_iff.mp h
  obtain ⟨j, h6, h⟩ := h
  replace h := Option.some.inj h
  simp only [Prod.mk.injEq] at h
  obtain ⟨rfl, rfl, rfl, rfl, rfl⟩ := h
  obtain ⟨hin, hj⟩ := am_xs_in h6
  exact va_lald hx hb hK hP x.toNat 1 (am_ws_get (am_arr_i h3)) rfl hin hdg (by rw [hj]; exact kk H locs ls hP rfl hS hl)
set_option maxHeartbeats 4000000 in
theorem am_t_baload  (hx : p.tables.exec = Jvm.exec) (hb : c.code = cc) (hown : s.vm.findClass own = some m.cls) (hts : ∀ w ∈ am_good, w.before args s = true) (hnm : meth.name = nm) (hK : va_K D vwCl (am_tys cs) s) (hX : va_X b sn xs s s.heap) (hbb : b < base) (hbs : base ≤ s.heap.size) (hSR : am_SR S s) (h : am_stp sn (fun j => (xs j).toInt) (.baload, n, a, z) pc L st sh g = some (pc', L', st', sh', g')) (hdg : decode cc pc = .ok (.baload, n)) (hok : am_okI own nm pc (.baload, n, a, z)) (hl : am_LR base b S ls L) (hP : va_P D vwCl (am_ws base cs sh g) H) (hS : va_S (am_AA base) s.heap H locs) (kk : ∀ (H1 : Heap) (locs1 : List Loc) (ls1 : Array Slot), va_P D vwCl (am_ws base cs sh' g') H1 → H1.size = H.size → va_S (am_AA base) s.heap H1 locs1 → am_LR base b S ls1 L' → W p l e R s m args below meth c H1 locs1 cells slots Q (F0 m pc' ls1 (st'.map (am_cv base b S)))) : W p l e R s m args below meth c H locs cells slots Q (F0 m pc ls (st.map (am_cv base b S))) := by
  obtain ⟨hlen, hlk⟩ := hok
  have hn : n = 1 := hlen (fun q => by cases q)
  subst hn
  replace h := Option.bind_eq_some_iff.mp h
  obtain ⟨⟨i, t1⟩, h1, h⟩ := h
  replace h1 := am_pp_iff.mp h1
  simp only at h1 h
  subst h1
  replace h := Option.bind_eq_some_iff.mp h
  obtain ⟨⟨x, t⟩, h1, h⟩ := h
  replace h1 := am_pp_iff.mp h1
  simp only at h1 h
  subst h1
  replace h := Option.bind_eq_some_iff.mp h
  obtain ⟨⟨len, rs⟩, h3, h⟩ := h
  replace h := Option.bind_eq_some_iff.mp h
  obtain ⟨j, h6, h⟩ := h
  replace h := Option.some.inj h
  simp only [Prod.mk.injEq] at h
  obtain ⟨rfl, rfl, rfl, rfl, rfl⟩ := h
  obtain ⟨hin, hj⟩ := am_xs_in h6
  exact va_zald hx hb hK hP x.toNat 2 (am_ws_get (am_arr_i h3)) rfl hin hdg (by rw [hj]; exact kk H locs ls hP rfl hS hl)
set_option maxHeartbeats 4000000 in
theorem am_t_aaload  (hx : p.tables.exec = Jvm.exec) (hb : c.code = cc) (hown : s.vm.findClass own = some m.cls) (hts : ∀ w ∈ am_good, w.before args s = true) (hnm : meth.name = nm) (hK : va_K D vwCl (am_tys cs) s) (hX : va_X b sn xs s s.heap) (hbb : b < base) (hbs : base ≤ s.heap.size) (hSR : am_SR S s) (h : am_stp sn (fun j => (xs j).toInt) (.aaload, n, a, z) pc L st sh g = some (pc', L', st', sh', g')) (hdg : decode cc pc = .ok (.aaload, n)) (hok : am_okI own nm pc (.aaload, n, a, z)) (hl : am_LR base b S ls L) (hP : va_P D vwCl (am_ws base cs sh g) H) (hS : va_S (am_AA base) s.heap H locs) (kk : ∀ (H1 : Heap) (locs1 : List Loc) (ls1 : Array Slot), va_P D vwCl (am_ws base cs sh' g') H1 → H1.size = H.size → va_S (am_AA base) s.heap H1 locs1 → am_LR base b S ls1 L' → W p l e R s m args below meth c H1 locs1 cells slots Q (F0 m pc' ls1 (st'.map (am_cv base b S)))) : W p l e R s m args below meth c H locs cells slots Q (F0 m pc ls (st.map (am_cv base b S))) := by
  obtain ⟨hlen, hlk⟩ := hok
  have hn : n = 1 := hlen (fun q => by cases q)
  subst hn
  replace h := Option.bind_eq_some_iff.mp h
  obtain ⟨⟨i, t1⟩, h1, h⟩ := h
  replace h1 := am_pp_iff.mp h1
  simp only at h1 h
  subst h1
  replace h := Option.bind_eq_some_iff.mp h
  obtain ⟨⟨x, t⟩, h1, h⟩ := h
  replace h1 := am_pp_iff.mp h1
  simp only at h1 h
  subst h1
  replace h := Option.bind_eq_some_iff.mp h
  obtain ⟨⟨len, rs⟩, h3, h⟩ := h
  replace h := Option.bind_eq_some_iff.mp h
  obtain ⟨j, h6, h⟩ := h
  replace h := Option.bind_eq_some_iff.mp h
  obtain ⟨r, h7, h⟩ := h
  try simp only at h
  by_cases h8 : r = 0
  case pos => rw [if_pos h8] at h; cases h
  rw [if_neg h8] at h
  replace h := Option.some.inj h
  simp only [Prod.mk.injEq] at h
  obtain ⟨rfl, rfl, rfl, rfl, rfl⟩ := h
  obtain ⟨hin, hj⟩ := am_xs_in h6
  have e1 : am_rf base rs j = some (base + (r - 1)) := by
    unfold am_rf
    simp only at h7
    rw [h7]
    obtain ⟨r, rfl⟩ : ∃ q, r = q + 1 := ⟨r - 1, by omega⟩
    rfl
  exact va_aldq hx hb hK hP x.toNat 3 (am_ws_get (am_arr_i h3)) rfl hin hdg (by rw [hj, e1]; exact kk H locs ls hP rfl hS hl)
set_option maxHeartbeats 4000000 in
theorem am_t_iastore  (hx : p.tables.exec = Jvm.exec) (hb : c.code = cc) (hown : s.vm.findClass own = some m.cls) (hts : ∀ w ∈ am_good, w.before args s = true) (hnm : meth.name = nm) (hK : va_K D vwCl (am_tys cs) s) (hX : va_X b sn xs s s.heap) (hbb : b < base) (hbs : base ≤ s.heap.size) (hSR : am_SR S s) (h : am_stp sn (fun j => (xs j).toInt) (.iastore, n, a, z) pc L st sh g = some (pc', L', st', sh', g')) (hdg : decode cc pc = .ok (.iastore, n)) (hok : am_okI own nm pc (.iastore, n, a, z)) (hl : am_LR base b S ls L) (hP : va_P D vwCl (am_ws base cs sh g) H) (hS : va_S (am_AA base) s.heap H locs) (kk : ∀ (H1 : Heap) (locs1 : List Loc) (ls1 : Array Slot), va_P D vwCl (am_ws base cs sh' g') H1 → H1.size = H.size → va_S (am_AA base) s.heap H1 locs1 → am_LR base b S ls1 L' → W p l e R s m args below meth c H1 locs1 cells slots Q (F0 m pc' ls1 (st'.map (am_cv base b S)))) : W p l e R s m args below meth c H locs cells slots Q (F0 m pc ls (st.map (am_cv base b S))) := by
  obtain ⟨hlen, hlk⟩ := hok
  have hn : n = 1 := hlen (fun q => by cases q)
  subst hn
  replace h := Option.bind_eq_some_iff.mp h
  obtain ⟨⟨y, t2⟩, h1, h⟩ := h
  replace h1 := am_pp_iff.mp h1
  simp only at h1 h
  subst h1
  replace h := Option.bind_eq_some_iff.mp h
  obtain ⟨⟨i, t1⟩, h1, h⟩ := h
  replace h1 := am_pp_iff.mp h1
  simp only at h1 h
  subst h1
  replace h := Option.bind_eq_some_iff.mp h
  obtain ⟨⟨x, t⟩, h1, h⟩ := h
  replace h1 := am_pp_iff.mp h1
  simp only at h1 h
  subst h1
  replace h := Option.bind_eq_some_iff.mp h
  obtain ⟨⟨len, rs⟩, h3, h⟩ := h
  replace h := Option.bind_eq_some_iff.mp h
  obtain ⟨j, h6, h⟩ := h
  replace h := Option.some.inj h
  simp only [Prod.mk.injEq] at h
  obtain ⟨rfl, rfl, rfl, rfl, rfl⟩ := h
  obtain ⟨hin, hj⟩ := am_xs_in h6
  have hk := am_arr_i h3
  refine am_r_iast hx hb hK hP (am_D _ _ _ _) hS x.toNat 0 (am_ws_get hk) rfl hin hdg (fun H1 locs1 hP1 hz1 hS1 => ?_)
  rw [hj, am_updE] at hP1
  have e2 : (fun q => Int32.ofInt (if q = j then y else g x.toNat q)) = fun q => Int32.ofInt (am_up g x.toNat j y x.toNat q) := by rw [am_up_at]
  rw [e2] at hP1
  have e1 := am_ws_set (base := base) (cs := cs) (g := g) (g' := am_up g x.toNat j y) (am_lt hk) (am_set_same hk) (fun q hq => am_up_ne hq)
  rw [am_en0] at e1
  rw [e1] at hP1
  exact kk H1 locs1 ls hP1 hz1 hS1 hl
set_option maxHeartbeats 4000000 in
theorem am_t_lastore  (hx : p.tables.exec = Jvm.exec) (hb : c.code = cc) (hown : s.vm.findClass own = some m.cls) (hts : ∀ w ∈ am_good, w.before args s = true) (hnm : meth.name = nm) (hK : va_K D vwCl (am_tys cs) s) (hX : va_X b sn xs s s.heap) (hbb : b < base) (hbs : base ≤ s.heap.size) (hSR : am_SR S s) (h : am_stp sn (fun j => (xs j).toInt) (.lastore, n, a, z) pc L st sh g = some (pc', L', st', sh', g')) (hdg : decode cc pc = .ok (.lastore, n)) (hok : am_okI own nm pc (.lastore, n, a, z)) (hl : am_LR base b S ls L) (hP : va_P D vwCl (am_ws base cs sh g) H) (hS : va_S (am_AA base) s.heap H locs) (kk : ∀ (H1 : Heap) (locs1 : List Loc) (ls1 : Array Slot), va_P D vwCl (am_ws base cs sh' g') H1 → H1.size = H.size → va_S (am_AA base) s.heap H1 locs1 → am_LR base b S ls1 L' → W p l e R s m args below meth c H1 locs1 cells slots Q (F0 m pc' ls1 (st'.map (am_cv base b S)))) : W p l e R s m args below meth c H locs cells slots Q (F0 m pc ls (st.map (am_cv base b S))) := by
  obtain ⟨hlen, hlk⟩ := hok
  have hn : n = 1 := hlen (fun q => by cases q)
  subst hn
  replace h := Option.bind_eq_some_iff.mp h
  obtain ⟨⟨y, t2⟩, h1, h⟩ := h
  replace h1 := am_pp_iff.mp h1
  simp only at h1 h
  subst h1
  replace h := Option.bind_eq_some_iff.mp h
  obtain ⟨⟨i, t1⟩, h1, h⟩ := h
  replace h1 := am_pp_iff.mp h1
  simp only at h1 h
  subst h1
  replace h := Option.bind_eq_some_iff.mp h
  obtain ⟨⟨x, t⟩, h1, h⟩ := h
  replace h1 := am_pp_iff.mp h1
  simp only at h1 h
  subst h1
  replace h := Option.bind_eq_some_iff.mp h
  obtain ⟨⟨len, rs⟩, h3, h⟩ := h
  replace h := Option.bind_eq_some_iff.mp h
  obtain ⟨j, h6, h⟩ := h
  replace h := Option.some.inj h
  simp only [Prod.mk.injEq] at h
  obtain ⟨rfl, rfl, rfl, rfl, rfl⟩ := h
  obtain ⟨hin, hj⟩ := am_xs_in h6
  have hk := am_arr_i h3
  refine am_r_last hx hb hK hP (am_D _ _ _ _) hS x.toNat 1 (am_ws_get hk) rfl hin hdg (fun H1 locs1 hP1 hz1 hS1 => ?_)
  rw [hj, am_updL] at hP1
  have e2 : (fun q => Int64.ofInt (if q = j then y else g x.toNat q)) = fun q => Int64.ofInt (am_up g x.toNat j y x.toNat q) := by rw [am_up_at]
  rw [e2] at hP1
  have e1 := am_ws_set (base := base) (cs := cs) (g := g) (g' := am_up g x.toNat j y) (am_lt hk) (am_set_same hk) (fun q hq => am_up_ne hq)
  rw [am_en1] at e1
  rw [e1] at hP1
  exact kk H1 locs1 ls hP1 hz1 hS1 hl
set_option maxHeartbeats 4000000 in
theorem am_t_bastore  (hx : p.tables.exec = Jvm.exec) (hb : c.code = cc) (hown : s.vm.findClass own = some m.cls) (hts : ∀ w ∈ am_good, w.before args s = true) (hnm : meth.name = nm) (hK : va_K D vwCl (am_tys cs) s) (hX : va_X b sn xs s s.heap) (hbb : b < base) (hbs : base ≤ s.heap.size) (hSR : am_SR S s) (h : am_stp sn (fun j => (xs j).toInt) (.bastore, n, a, z) pc L st sh g = some (pc', L', st', sh', g')) (hdg : decode cc pc = .ok (.bastore, n)) (hok : am_okI own nm pc (.bastore, n, a, z)) (hl : am_LR base b S ls L) (hP : va_P D vwCl (am_ws base cs sh g) H) (hS : va_S (am_AA base) s.heap H locs) (kk : ∀ (H1 : Heap) (locs1 : List Loc) (ls1 : Array Slot), va_P D vwCl (am_ws base cs sh' g') H1 → H1.size = H.size → va_S (am_AA base) s.heap H1 locs1 → am_LR base b S ls1 L' → W p l e R s m args below meth c H1 locs1 cells slots Q (F0 m pc' ls1 (st'.map (am_cv base b S)))) : W p l e R s m args below meth c H locs cells slots Q (F0 m pc ls (st.map (am_cv base b S))) := by
  obtain ⟨hlen, hlk⟩ := hok
  have hn : n = 1 := hlen (fun q => by cases q)
  subst hn
  replace h := Option.bind_eq_some_iff.mp h
  obtain ⟨⟨y, t2⟩, h1, h⟩ := h
  replace h1 := am_pp_iff.mp h1
  simp only at h1 h
  subst h1
  replace h := Option.bind_eq_some_iff.mp h
  obtain ⟨⟨i, t1⟩, h1, h⟩ := h
  replace h1 := am_pp_iff.mp h1
  simp only at h1 h
  subst h1
  replace h := Option.bind_eq_some_iff.mp h
  obtain ⟨⟨x, t⟩, h1, h⟩ := h
  replace h1 := am_pp_iff.mp h1
  simp only at h1 h
  subst h1
  replace h := Option.bind_eq_some_iff.mp h
  obtain ⟨⟨len, rs⟩, h3, h⟩ := h
  replace h := Option.bind_eq_some_iff.mp h
  obtain ⟨j, h6, h⟩ := h
  by_cases h01 : y = 0 ∨ y = 1
  case neg => rw [if_neg h01] at h; cases h
  rw [if_pos h01] at h
  replace h := Option.some.inj h
  simp only [Prod.mk.injEq] at h
  obtain ⟨rfl, rfl, rfl, rfl, rfl⟩ := h
  obtain ⟨hin, hj⟩ := am_xs_in h6
  have hk := am_arr_i h3
  refine am_r_zast hx hb hK hP (am_D _ _ _ _) hS x.toNat 2 (am_ws_get hk) rfl hin hdg (fun H1 locs1 hP1 hz1 hS1 => ?_)
  have e9 : vp_nar .boolean (Int32.ofInt y) = Int32.ofInt y := by rcases h01 with rfl | rfl <;> decide
  rw [e9] at hP1
  rw [hj, am_updE] at hP1
  have e2 : (fun q => Int32.ofInt (if q = j then y else g x.toNat q)) = fun q => Int32.ofInt (am_up g x.toNat j y x.toNat q) := by rw [am_up_at]
  rw [e2] at hP1
  have e1 := am_ws_set (base := base) (cs := cs) (g := g) (g' := am_up g x.toNat j y) (am_lt hk) (am_set_same hk) (fun q hq => am_up_ne hq)
  rw [am_en2] at e1
  rw [e1] at hP1
  exact kk H1 locs1 ls hP1 hz1 hS1 hl
set_option maxHeartbeats 4000000 in
theorem am_t_aastore  (hx : p.tables.exec = Jvm.exec) (hb : c.code = cc) (hown : s.vm.findClass own = some m.cls) (hts : ∀ w ∈ am_good, w.before args s = true) (hnm : meth.name = nm) (hK : va_K D vwCl (am_tys cs) s) (hX : va_X b sn xs s s.heap) (hbb : b < base) (hbs : base ≤ s.heap.size) (hSR : am_SR S s) (h : am_stp sn (fun j => (xs j).toInt) (.aastore, n, a, z) pc L st sh g = some (pc', L', st', sh', g')) (hdg : decode cc pc = .ok (.aastore, n)) (hok : am_okI own nm pc (.aastore, n, a, z)) (hl : am_LR base b S ls L) (hP : va_P D vwCl (am_ws base cs sh g) H) (hS : va_S (am_AA base) s.heap H locs) (kk : ∀ (H1 : Heap) (locs1 : List Loc) (ls1 : Array Slot), va_P D vwCl (am_ws base cs sh' g') H1 → H1.size = H.size → va_S (am_AA base) s.heap H1 locs1 → am_LR base b S ls1 L' → W p l e R s m args below meth c H1 locs1 cells slots Q (F0 m pc' ls1 (st'.map (am_cv base b S)))) : W p l e R s m args below meth c H locs cells slots Q (F0 m pc ls (st.map (am_cv base b S))) := by
  obtain ⟨hlen, hlk⟩ := hok
  have hn : n = 1 := hlen (fun q => by cases q)
  subst hn
  replace h := Option.bind_eq_some_iff.mp h
  obtain ⟨⟨y, t2⟩, h1, h⟩ := h
  replace h1 := am_pp_iff.mp h1
  simp only at h1 h
  subst h1
  replace h := Option.bind_eq_some_iff.mp h
  obtain ⟨⟨i, t1⟩, h1, h⟩ := h
  replace h1 := am_pp_iff.mp h1
  simp only at h1 h
  subst h1
  replace h := Option.bind_eq_some_iff.mp h
  obtain ⟨⟨x, t⟩, h1, h⟩ := h
  replace h1 := am_pp_iff.mp h1
  simp only at h1 h
  subst h1
  replace h := Option.bind_eq_some_iff.mp h
  obtain ⟨⟨len, rs⟩, h3, h⟩ := h
  replace h := Option.bind_eq_some_iff.mp h
  obtain ⟨j, h6, h⟩ := h
  replace h := Option.bind_eq_some_iff.mp h
  obtain ⟨⟨len5, rs5⟩, h7, h⟩ := h
  try simp only at h
  by_cases h8 : j < rs.length
  case neg => rw [if_neg h8] at h; cases h
  rw [if_pos h8] at h
  replace h := Option.some.inj h
  simp only [Prod.mk.injEq] at h
  obtain ⟨rfl, rfl, rfl, rfl, rfl⟩ := h
  obtain ⟨hin, hj⟩ := am_xs_in h6
  have hk := am_arr_i h3
  have hv := am_ws_get (base := base) (cs := cs) (g := g) (am_arr_i h7)
  rw [show (5 : Nat) = 4 + 1 from rfl, am_en4] at hv
  refine am_r_astq (r := (RX1, TX1, 2)) hx hb hK hP (am_D _ _ _ _) hS x.toNat 3 y.toNat 1 (am_ws_get hk) rfl hv rfl hin hdg (fun H1 locs1 hP1 hz1 hS1 => ?_)
  rw [hj] at hP1
  have e2 : va_up (am_rf base rs) j (some (base + y.toNat)) = am_rf base (rs.set j (y.toNat + 1)) := by
    funext q
    unfold va_up am_rf
    rw [List.getElem?_set]
    by_cases hq : q = j
    · subst hq
      rw [if_pos rfl, if_pos rfl, if_pos h8]
    · rw [if_neg hq, if_neg (fun w => hq w.symm)]
  simp only at hP1
  rw [e2] at hP1
  have e1 := am_ws_set (base := base) (cs := cs) (g := g) (g' := g) (o := (3, len, rs.set j (y.toNat + 1))) (am_lt hk) rfl (fun q hq => rfl)
  rw [am_en3] at e1
  simp only at e1
  rw [e1] at hP1
  exact kk H1 locs1 ls hP1 hz1 hS1 hl
set_option maxHeartbeats 4000000 in
theorem am_t_getfield {k : Nat} (hx : p.tables.exec = Jvm.exec) (hb : c.code = cc) (hown : s.vm.findClass own = some m.cls) (hts : ∀ w ∈ am_good, w.before args s = true) (hnm : meth.name = nm) (hK : va_K D vwCl (am_tys cs) s) (hX : va_X b sn xs s s.heap) (hbb : b < base) (hbs : base ≤ s.heap.size) (hSR : am_SR S s) (h : am_stp sn (fun j => (xs j).toInt) (.getfield k, n, a, z) pc L st sh g = some (pc', L', st', sh', g')) (hdg : decode cc pc = .ok (.getfield k, n)) (hok : am_okI own nm pc (.getfield k, n, a, z)) (hl : am_LR base b S ls L) (hP : va_P D vwCl (am_ws base cs sh g) H) (hS : va_S (am_AA base) s.heap H locs) (kk : ∀ (H1 : Heap) (locs1 : List Loc) (ls1 : Array Slot), va_P D vwCl (am_ws base cs sh' g') H1 → H1.size = H.size → va_S (am_AA base) s.heap H1 locs1 → am_LR base b S ls1 L' → W p l e R s m args below meth c H1 locs1 cells slots Q (F0 m pc' ls1 (st'.map (am_cv base b S)))) : W p l e R s m args below meth c H locs cells slots Q (F0 m pc ls (st.map (am_cv base b S))) := by
  obtain ⟨hlen, hlk⟩ := hok
  have hn : n = 3 := hlen (fun q => by cases q)
  subst hn
  obtain ⟨q, ⟨hq1, hq2, hq3⟩⟩ := hlk
  obtain ⟨C, T, N⟩ := q
  obtain ⟨o1, o2, o3, o4, o5⟩ := am_cl_ok hq1
  simp only at hq2 hq3 o1 o2 o3 o4 o5
  replace h := Option.bind_eq_some_iff.mp h
  obtain ⟨⟨x, t⟩, h1, h⟩ := h
  replace h1 := am_pp_iff.mp h1
  simp only at h1 h
  subst h1
  replace h := Option.bind_eq_some_iff.mp h
  obtain ⟨⟨len, rs⟩, h3, h⟩ := h
  replace h := Option.bind_eq_some_iff.mp h
  obtain ⟨t9, h4, h⟩ := h
  have hk := am_arr_i h3
  have hws := am_ws_get (base := base) (cs := cs) (g := g) hk
  rw [am_en4] at hws
  have hty := o5 z.toNat hq2
  rw [List.getD_eq_getElem?_getD (l := am_cls.getD a []), h4] at hty
  have hfv : ((am_cls.getD a []).mapIdx (am_fv base (g x.toNat) rs))[z.toNat]? = some (am_fv base (g x.toNat) rs z.toNat t9) := by
    rw [List.getElem?_mapIdx, h4]; rfl
  simp only at h
  by_cases t2 : t9 = 2
  · subst t2
    rw [if_pos rfl] at h
    replace h := Option.bind_eq_some_iff.mp h
    obtain ⟨r, h7, h⟩ := h
    by_cases h8 : r = 0
    case pos => rw [if_pos h8] at h; cases h
    rw [if_neg h8] at h
    replace h := Option.some.inj h
    simp only [Prod.mk.injEq] at h
    obtain ⟨rfl, rfl, rfl, rfl, rfl⟩ := h
    have e1 : am_fv base (g x.toNat) rs z.toNat 2 = .ref (base + (r - 1)) := by
      unfold am_fv am_rf
      rw [if_pos rfl, h7]
      obtain ⟨r, rfl⟩ : ∃ q, r = q + 1 := ⟨r - 1, by omega⟩
      rfl
    rw [e1] at hfv
    exact va_get hx hb hts o1 hown hK hP x.toNat hws hq1 z.toNat hq2 (hts _ hq3) (fun _ w => w) hfv hdg (kk H locs ls hP rfl hS hl)
  · rw [if_neg t2] at h
    by_cases t1 : t9 = 1
    · subst t1
      rw [if_pos rfl] at h
      replace h := Option.some.inj h
      simp only [Prod.mk.injEq] at h
      obtain ⟨rfl, rfl, rfl, rfl, rfl⟩ := h
      exact va_get hx hb hts o1 hown hK hP x.toNat hws hq1 z.toNat hq2 (hts _ hq3) (fun _ w => w) hfv hdg (kk H locs ls hP rfl hS hl)
    · rw [if_neg t1] at h
      replace h := Option.some.inj h
      simp only [Prod.mk.injEq] at h
      obtain ⟨rfl, rfl, rfl, rfl, rfl⟩ := h
      have e1 : am_fv base (g x.toNat) rs z.toNat t9 = .int (Int32.ofInt (g x.toNat z.toNat)) := by
        unfold am_fv
        rw [if_neg t2, if_neg t1]
      rw [e1] at hfv
      exact va_get hx hb hts o1 hown hK hP x.toNat hws hq1 z.toNat hq2 (hts _ hq3) (fun _ w => w) hfv hdg (kk H locs ls hP rfl hS hl)
set_option maxHeartbeats 4000000 in
theorem am_t_putfield {k : Nat} (hx : p.tables.exec = Jvm.exec) (hb : c.code = cc) (hown : s.vm.findClass own = some m.cls) (hts : ∀ w ∈ am_good, w.before args s = true) (hnm : meth.name = nm) (hK : va_K D vwCl (am_tys cs) s) (hX : va_X b sn xs s s.heap) (hbb : b < base) (hbs : base ≤ s.heap.size) (hSR : am_SR S s) (h : am_stp sn (fun j => (xs j).toInt) (.putfield k, n, a, z) pc L st sh g = some (pc', L', st', sh', g')) (hdg : decode cc pc = .ok (.putfield k, n)) (hok : am_okI own nm pc (.putfield k, n, a, z)) (hl : am_LR base b S ls L) (hP : va_P D vwCl (am_ws base cs sh g) H) (hS : va_S (am_AA base) s.heap H locs) (kk : ∀ (H1 : Heap) (locs1 : List Loc) (ls1 : Array Slot), va_P D vwCl (am_ws base cs sh' g') H1 → H1.size = H.size → va_S (am_AA base) s.heap H1 locs1 → am_LR base b S ls1 L' → W p l e R s m args below meth c H1 locs1 cells slots Q (F0 m pc' ls1 (st'.map (am_cv base b S)))) : W p l e R s m args below meth c H locs cells slots Q (F0 m pc ls (st.map (am_cv base b S))) := by
  obtain ⟨hlen, hlk⟩ := hok
  have hn : n = 3 := hlen (fun q => by cases q)
  subst hn
  obtain ⟨q, ⟨hq1, hq2, hq3⟩, hq4⟩ := hlk
  obtain ⟨C, T, N⟩ := q
  obtain ⟨o1, o2, o3, o4, o5⟩ := am_cl_ok hq1
  simp only at hq2 hq3 o1 o2 o3 o4 o5
  simp only at hq4
  cases st with
  | nil => cases h
  | cons w1 s1 =>
    obtain ⟨ky, y⟩ := w1
    simp only [am_stp] at h
    replace h := Option.bind_eq_some_iff.mp h
    obtain ⟨⟨x, t⟩, h1, h⟩ := h
    replace h1 := am_pp_iff.mp h1
    simp only at h1 h
    subst h1
    replace h := Option.bind_eq_some_iff.mp h
    obtain ⟨⟨len, rs⟩, h3, h⟩ := h
    replace h := Option.bind_eq_some_iff.mp h
    obtain ⟨t9, h4, h⟩ := h
    have hk := am_arr_i h3
    have hws := am_ws_get (base := base) (cs := cs) (g := g) hk
    rw [am_en4] at hws
    have hty := o5 z.toNat hq2
    rw [List.getD_eq_getElem?_getD (l := am_cls.getD a []), h4] at hty
    have hfv : ((am_cls.getD a []).mapIdx (am_fv base (g x.toNat) rs))[z.toNat]? = some (am_fv base (g x.toNat) rs z.toNat t9) := by
      rw [List.getElem?_mapIdx, h4]; rfl
    simp only at h
    by_cases t2 : t9 = 2
    · subst t2
      rw [if_pos rfl] at h
      by_cases h7 : ky = 2 ∧ z.toNat < rs.length
      case neg => rw [if_neg h7] at h; cases h
      rw [if_pos h7] at h
      replace h := Option.some.inj h
      simp only [Prod.mk.injEq] at h
      obtain ⟨rfl, rfl, rfl, rfl, rfl⟩ := h
      obtain ⟨rfl, h8⟩ := h7
      have e8 : (∃ C, am_ty a z.toNat = .object C) ∨ ∃ u, am_ty a z.toNat = .array u := by
        rcases am_tag hty with ⟨w, v⟩ | ⟨w, v⟩ | ⟨w, v⟩ | ⟨w, v⟩
        · exfalso; simp at w
        · exfalso; simp at w
        · exfalso; simp at w
        · exact v
      have e3 : ((am_cls.getD a []).mapIdx (am_fv base (g x.toNat) rs)).set z.toNat (.ref (base + y.toNat)) = (am_cls.getD a []).mapIdx (am_fv base (g x.toNat) (rs.set z.toNat (y.toNat + 1))) := by
        refine List.ext_getElem? fun i => ?_
        rw [List.getElem?_set, List.getElem?_mapIdx, List.getElem?_mapIdx, List.length_mapIdx]
        by_cases hi : z.toNat = i
        · subst hi
          rw [if_pos rfl, if_pos (List.getElem?_eq_some_iff.mp h4).1, h4]
          simp [am_fv, am_rf, va_rf, h8]
        · rw [if_neg hi]
          have e5 : ∀ tt, am_fv base (g x.toNat) rs i tt = am_fv base (g x.toNat) (rs.set z.toNat (y.toNat + 1)) i tt := fun tt => by
            unfold am_fv am_rf
            rw [List.getElem?_set, if_neg hi]
          exact congrArg (fun w => Option.map w _) (funext e5)
      have e1 := am_ws_set (base := base) (cs := cs) (g := g) (g' := g) (o := (4 + a, len, rs.set z.toNat (y.toNat + 1))) (am_lt hk) rfl (fun q hq => rfl)
      rw [am_en4] at e1
      simp only at e1
      refine am_r_put (v := .ref (base + y.toNat)) hx hb hts o1 (am_ty a) o2 o3 hown hK hP (am_D _ _ _ _) hS x.toNat hws hq1 z.toNat hq2 (hts _ hq3) (fun w => ⟨hnm.trans (hq4 w).1, (hq4 w).2⟩) (by rcases e8 with ⟨C, e8⟩ | ⟨u, e8⟩ <;> (rw [e8]; rfl)) (by rcases e8 with ⟨C, e8⟩ | ⟨u, e8⟩ <;> (rw [e8]; rfl)) (by rw [List.length_mapIdx, o4]; exact hq2) hdg (fun H1 locs1 hP1 hz1 hS1 => ?_)
      rw [e3, e1] at hP1
      exact kk H1 locs1 ls hP1 hz1 hS1 hl
    · rw [if_neg t2] at h
      by_cases t1 : t9 = 1
      · subst t1
        rw [if_pos rfl] at h
        by_cases h7 : ky = 1
        case neg => rw [if_neg h7] at h; cases h
        rw [if_pos h7] at h
        subst h7
        replace h := Option.some.inj h
        simp only [Prod.mk.injEq] at h
        obtain ⟨rfl, rfl, rfl, rfl, rfl⟩ := h
        have e8 : am_ty a z.toNat = .long := by
          rcases am_tag hty with ⟨w, v⟩ | ⟨w, v⟩ | ⟨w, v⟩ | ⟨w, v⟩ <;> first | exact v | (exfalso; simp at w; done) | (exfalso; simp at w; omega)
        have e3 : ((am_cls.getD a []).mapIdx (am_fv base (g x.toNat) rs)).set z.toNat (.long (Int64.ofInt y)) = (am_cls.getD a []).mapIdx (am_fv base (am_up g x.toNat z.toNat y x.toNat) rs) := by
          refine List.ext_getElem? fun i => ?_
          rw [List.getElem?_set, List.getElem?_mapIdx, List.getElem?_mapIdx, List.length_mapIdx]
          by_cases hi : z.toNat = i
          · subst hi
            rw [if_pos rfl, if_pos (List.getElem?_eq_some_iff.mp h4).1, h4]
            simp [am_fv, am_up_at]
          · rw [if_neg hi]
            have e5 : ∀ tt, am_fv base (g x.toNat) rs i tt = am_fv base (am_up g x.toNat z.toNat y x.toNat) rs i tt := fun tt => by
              unfold am_fv
              rw [am_up_at]
              simp only [if_neg (fun w => hi (Eq.symm w))]
            exact congrArg (fun w => Option.map w _) (funext e5)
        have e1 := am_ws_set (base := base) (cs := cs) (g := g) (g' := am_up g x.toNat z.toNat y) (am_lt hk) (am_set_same hk) (fun q hq => am_up_ne hq)
        rw [am_en4] at e1
        simp only at e1
        refine am_r_put (v := .long (Int64.ofInt y)) hx hb hts o1 (am_ty a) o2 o3 hown hK hP (am_D _ _ _ _) hS x.toNat hws hq1 z.toNat hq2 (hts _ hq3) (fun w => ⟨hnm.trans (hq4 w).1, (hq4 w).2⟩) (by rw [e8]; rfl) (by rw [e8]; rfl) (by rw [List.length_mapIdx, o4]; exact hq2) hdg (fun H1 locs1 hP1 hz1 hS1 => ?_)
        rw [e3, e1] at hP1
        exact kk H1 locs1 ls hP1 hz1 hS1 hl
      · rw [if_neg t1] at h
        by_cases t3 : t9 = 3
        · subst t3
          rw [if_pos rfl] at h
          by_cases h7 : ky = 0 ∧ (y = 0 ∨ y = 1)
          case neg => rw [if_neg h7] at h; cases h
          rw [if_pos h7] at h
          obtain ⟨rfl, h01⟩ := h7
          replace h := Option.some.inj h
          simp only [Prod.mk.injEq] at h
          obtain ⟨rfl, rfl, rfl, rfl, rfl⟩ := h
          have e8 : am_ty a z.toNat = .boolean := by
            rcases am_tag hty with ⟨w, v⟩ | ⟨w, v⟩ | ⟨w, v⟩ | ⟨w, v⟩ <;> first | exact v | (exfalso; simp at w; done) | (exfalso; simp at w; omega)
          have e3 : ((am_cls.getD a []).mapIdx (am_fv base (g x.toNat) rs)).set z.toNat (.int (Int32.ofInt y)) = (am_cls.getD a []).mapIdx (am_fv base (am_up g x.toNat z.toNat y x.toNat) rs) := by
            refine List.ext_getElem? fun i => ?_
            rw [List.getElem?_set, List.getElem?_mapIdx, List.getElem?_mapIdx, List.length_mapIdx]
            by_cases hi : z.toNat = i
            · subst hi
              rw [if_pos rfl, if_pos (List.getElem?_eq_some_iff.mp h4).1, h4]
              simp [am_fv, am_up_at]
            · rw [if_neg hi]
              have e5 : ∀ tt, am_fv base (g x.toNat) rs i tt = am_fv base (am_up g x.toNat z.toNat y x.toNat) rs i tt := fun tt => by
                unfold am_fv
                rw [am_up_at]
                simp only [if_neg (fun w => hi (Eq.symm w))]
              exact congrArg (fun w => Option.map w _) (funext e5)
          have e1 := am_ws_set (base := base) (cs := cs) (g := g) (g' := am_up g x.toNat z.toNat y) (am_lt hk) (am_set_same hk) (fun q hq => am_up_ne hq)
          rw [am_en4] at e1
          simp only at e1
          refine am_r_put (v := .int (Int32.ofInt y)) hx hb hts o1 (am_ty a) o2 o3 hown hK hP (am_D _ _ _ _) hS x.toNat hws hq1 z.toNat hq2 (hts _ hq3) (fun w => ⟨hnm.trans (hq4 w).1, (hq4 w).2⟩) (by rw [e8]; rcases h01 with rfl | rfl <;> decide) (by rw [e8]; rcases h01 with rfl | rfl <;> decide) (by rw [List.length_mapIdx, o4]; exact hq2) hdg (fun H1 locs1 hP1 hz1 hS1 => ?_)
          rw [e3, e1] at hP1
          exact kk H1 locs1 ls hP1 hz1 hS1 hl
        · rw [if_neg t3] at h
          by_cases h7 : ky = 0
          case neg => rw [if_neg h7] at h; cases h
          rw [if_pos h7] at h
          subst h7
          replace h := Option.some.inj h
          simp only [Prod.mk.injEq] at h
          obtain ⟨rfl, rfl, rfl, rfl, rfl⟩ := h
          have e8 : am_ty a z.toNat = .int := by
            rcases am_tag hty with ⟨w, v⟩ | ⟨w, v⟩ | ⟨w, v⟩ | ⟨w, v⟩ <;> first | exact v | (exfalso; simp at w; done) | (exfalso; simp at w; omega)
          have e3 : ((am_cls.getD a []).mapIdx (am_fv base (g x.toNat) rs)).set z.toNat (.int (Int32.ofInt y)) = (am_cls.getD a []).mapIdx (am_fv base (am_up g x.toNat z.toNat y x.toNat) rs) := by
            refine List.ext_getElem? fun i => ?_
            rw [List.getElem?_set, List.getElem?_mapIdx, List.getElem?_mapIdx, List.length_mapIdx]
            by_cases hi : z.toNat = i
            · subst hi
              rw [if_pos rfl, if_pos (List.getElem?_eq_some_iff.mp h4).1, h4]
              simp [am_fv, am_up_at, t2, t1]
            · rw [if_neg hi]
              have e5 : ∀ tt, am_fv base (g x.toNat) rs i tt = am_fv base (am_up g x.toNat z.toNat y x.toNat) rs i tt := fun tt => by
                unfold am_fv
                rw [am_up_at]
                simp only [if_neg (fun w => hi (Eq.symm w))]
              exact congrArg (fun w => Option.map w _) (funext e5)
          have e1 := am_ws_set (base := base) (cs := cs) (g := g) (g' := am_up g x.toNat z.toNat y) (am_lt hk) (am_set_same hk) (fun q hq => am_up_ne hq)
          rw [am_en4] at e1
          simp only at e1
          refine am_r_put (v := .int (Int32.ofInt y)) hx hb hts o1 (am_ty a) o2 o3 hown hK hP (am_D _ _ _ _) hS x.toNat hws hq1 z.toNat hq2 (hts _ hq3) (fun w => ⟨hnm.trans (hq4 w).1, (hq4 w).2⟩) (by rw [e8]; rfl) (by rw [e8]; rfl) (by rw [List.length_mapIdx, o4]; exact hq2) hdg (fun H1 locs1 hP1 hz1 hS1 => ?_)
          rw [e3, e1] at hP1
          exact kk H1 locs1 ls hP1 hz1 hS1 hl

end AMS
