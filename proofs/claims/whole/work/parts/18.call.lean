/-! THE SIMULATION: calls, bodies, methods -/
theorem am_nfw : nativeFrameWords "java/lang/System" "arraycopy" 5 ≤ 40 := by decide +kernel
section AMB
variable {p : Program} {l : Launch} {e : Env} {R : Room} {s : State} {m : MethodId} {args : Array Value} {below : List Frame} {meth : Method} {c : Code} {H : Heap} {locs : List Loc} {cells slots : Nat} {Q : State → Prop}
variable {cc : ByteArray} {D : va_G} {cs : am_C4} {base b sn : Nat} {xs : Nat → Int32} {S : Nat → Nat} {own nm : String}
variable {n a : Nat} {z : Int} {pc pc' : Nat} {L L' st st' : List am_V} {sh sh' : am_Sh} {g g' : am_G} {ls : Array Slot}
theorem am_cp_ne {src sp dst dp k i : Nat} (h : i ≠ dst) : am_cp g src sp dst dp k i = g i := by
  funext j
  simp [am_cp, h]
theorem am_nonneg {x : Int} (h : 0 ≤ w32 x) : ¬ Int32.ofInt x < 0 := by rw [← w32_0, w32_lt]; show ¬ w32 x < 0; omega
theorem am_clamp {x : Int} : (Int32.ofInt x).toNatClampNeg = (w32 x).toNat := by
  show (Int32.ofInt x).toInt.toNat = _
  rw [w32_toInt]
set_option maxHeartbeats 4000000 in
theorem am_cpyS {k : Nat} {q : List am_V × am_G} (hx : p.tables.exec = Jvm.exec) (hb : c.code = cc) (hml : c.maxLocals = ls.size) (hown : s.vm.findClass own = some m.cls) (hts : ∀ w ∈ am_good, w.before args s = true) (hF : am_F base b sn xs D cs S s) (h : am_cpy st sh g = some q) (hdg : decode cc pc = .ok (.invokestatic k, 3)) (hok : Cond.methodLink own k arraycopyName ∈ am_good ∧ Cond.native arraycopyName ∈ am_good ∧ Cond.static arraycopyName ∈ am_good ∧ Cond.initialized "java/lang/System" ∈ am_good) (hd1 : 1 ≤ R.frames) (hd2 : 64 ≤ R.locals)
    (hP : va_P D vwCl (am_ws base cs sh g) H) (hS : va_S (am_AA base) s.heap H locs) (kk : ∀ (H1 : Heap) (locs1 : List Loc), va_P D vwCl (am_ws base cs sh q.2) H1 → H1.size = H.size → va_S (am_AA base) s.heap H1 locs1 → W p l e R s m args below meth c H1 locs1 cells slots Q (F0 m (pc + 3) ls (q.1.map (am_cv base b S)))) : W p l e R s m args below meth c H locs cells slots Q (F0 m pc ls (st.map (am_cv base b S))) := by
  obtain ⟨hK, hX, hbb, hbs, hSR, hN, hO, hZ1, hZ2, hV⟩ := hF
  obtain ⟨k1, k2, k3, k4⟩ := hok
  unfold am_cpy at h
  obtain ⟨⟨n, t1⟩, h1, h⟩ := Option.bind_eq_some_iff.mp h
  obtain ⟨⟨dp, t2⟩, h2, h⟩ := Option.bind_eq_some_iff.mp h
  obtain ⟨⟨dst, t3⟩, h3, h⟩ := Option.bind_eq_some_iff.mp h
  obtain ⟨⟨sp, t4⟩, h4, h⟩ := Option.bind_eq_some_iff.mp h
  obtain ⟨⟨src, t5⟩, h5, h⟩ := Option.bind_eq_some_iff.mp h
  obtain ⟨⟨kd0, n0, r0⟩, h6, h⟩ := Option.bind_eq_some_iff.mp h
  obtain ⟨⟨kd1, n1, r1⟩, h7, h⟩ := Option.bind_eq_some_iff.mp h
  replace h1 := am_pp_iff.mp h1
  replace h2 := am_pp_iff.mp h2
  replace h3 := am_pp_iff.mp h3
  replace h4 := am_pp_iff.mp h4
  replace h5 := am_pp_iff.mp h5
  simp only at h1 h2 h3 h4 h5 h6 h7 h
  split at h
  case isFalse => cases h
  rename_i hc
  obtain ⟨c1, c2, c3, c4, c5, c6, c7, c8⟩ := hc
  subst c1
  have hq := Option.some.inj h
  subst h5; subst h4; subst h3; subst h2; subst h1
  subst hq
  have hcat : (((t5.map (am_cv base b S)).map fun v => v.category).sum) ≤ 8 := by rw [am_cat_cv]; exact c8
  have hw := am_nfw
  have c6 : w32 sp + w32 n ≤ (n0 : Int) := c6
  have c7 : w32 dp + w32 n ≤ (n1 : Int) := c7
  have w0 := am_ws_get (base := base) (cs := cs) (g := g) h6
  have w1 := am_ws_get (base := base) (cs := cs) (g := g) h7
  have key : ∀ (H1 : Heap) (L1 : List Loc), va_at D vwCl (base + dst.toNat, am_en base cs (am_cp g src.toNat (w32 sp).toNat dst.toNat (w32 dp).toNat (w32 n).toNat dst.toNat) (kd0, n1, r1)) H1 → H1.size = H.size → (∀ q : Nat, q ≠ base + dst.toNat → H1[q]? = H[q]?) → (∀ q ∈ L1, q.base = base + dst.toNat) → W p l e R s m args below meth c H1 (locs ++ L1) cells slots Q (F0 m (pc + 3) ls (t5.map (am_cv base b S))) := by
    intro H1 L1 e1 e2 e3 e4
    refine kk H1 _ ?_ e2 ⟨by rw [e2]; exact hS.1, fun q h1 h2 => ?_, fun q hq => ?_⟩
    · have hs := hP.set (am_D base cs sh g) w1 e1 e3
      rw [am_ws_set (g' := am_cp g src.toNat (w32 sp).toNat dst.toNat (w32 dp).toNat (w32 n).toNat) (am_lt h7) (am_set_same h7) (fun q hq => am_cp_ne hq)] at hs
      exact hs
    · rw [e3 q (fun z => h2 (by show base ≤ q; omega))]
      exact hS.2.1 q h1 h2
    · rcases List.mem_append.mp hq with w | w
      · exact hS.2.2 q w
      · rw [e4 q w]
        show base ≤ base + dst.toNat
        omega
  rcases c2 with rfl | rfl
  · refine am_r_cpy (fun x : Int32 => Value.int x) (f := fun j => Int32.ofInt (g src.toNat j)) (g := fun j => Int32.ofInt (g dst.toNat j)) (ty := .int) (c0 := cs.1) (c1 := cs.1) (n0 := n0) (n1 := n1) (sp := Int32.ofInt sp) (dp := Int32.ofInt dp) (n := Int32.ofInt n) hx hb hml hown (hts _ k1) (hts _ k2) (hts _ k3) (hts _ k4) (hP _ _ w0) (hP _ _ w1) (hK.2 0 _ rfl).1 (hK.2 0 _ rfl).1 rfl (am_nonneg c3) (am_nonneg c4) (am_nonneg c5) (by rw [am_clamp, am_clamp]; omega) (by rw [am_clamp, am_clamp]; omega) (fun _ => rfl) (fun _ _ w => by cases w) hd1 (by omega) hdg (fun H1 L1 e1 e2 e3 e4 => key H1 L1 ?_ e2 e3 e4)
    show H1[base + dst.toNat]? = some (arrV cs.1 n1 (fun j => .int (Int32.ofInt (am_cp g src.toNat (w32 sp).toNat dst.toNat (w32 dp).toNat (w32 n).toNat dst.toNat j))))
    rw [e1, am_clamp, am_clamp, am_clamp]
    refine congrArg some ?_
    refine am_arrV_congr fun j _ => ?_
    simp only [va_cpy, am_cp, if_true]
    split <;> rfl
  · refine am_r_cpy (fun x : Int64 => Value.long x) (f := fun j => Int64.ofInt (g src.toNat j)) (g := fun j => Int64.ofInt (g dst.toNat j)) (ty := .long) (c0 := cs.2.1) (c1 := cs.2.1) (n0 := n0) (n1 := n1) (sp := Int32.ofInt sp) (dp := Int32.ofInt dp) (n := Int32.ofInt n) hx hb hml hown (hts _ k1) (hts _ k2) (hts _ k3) (hts _ k4) (hP _ _ w0) (hP _ _ w1) (hK.2 1 _ rfl).1 (hK.2 1 _ rfl).1 rfl (am_nonneg c3) (am_nonneg c4) (am_nonneg c5) (by rw [am_clamp, am_clamp]; omega) (by rw [am_clamp, am_clamp]; omega) (fun _ => rfl) (fun _ _ w => by cases w) hd1 (by omega) hdg (fun H1 L1 e1 e2 e3 e4 => key H1 L1 ?_ e2 e3 e4)
    show H1[base + dst.toNat]? = some (arrV cs.2.1 n1 (fun j => .long (Int64.ofInt (am_cp g src.toNat (w32 sp).toNat dst.toNat (w32 dp).toNat (w32 n).toNat dst.toNat j))))
    rw [e1, am_clamp, am_clamp, am_clamp]
    refine congrArg some ?_
    refine am_arrV_congr fun j _ => ?_
    simp only [va_cpy, am_cp, if_true]
    split <;> rfl
/-- what callees do -/
def am_Cal (l : Launch) (base b sn : Nat) (xs : Nat → Int32) (D : va_G) (cs : am_C4) (S : Nat → Nat) (mi : Nat → Option am_M) (d : Nat) (cal : Nat → List am_V → am_Sh → am_G → Option am_R) : Prop := ∀ mid as sh g r M, mi mid = some M → cal mid as sh g = some r → Cond.code M.1 M.2.1 M.2.2.1 M.2.2.2.1 ∈ am_good ∧ am_Met l base b sn xs D cs S d M as sh g r
set_option maxHeartbeats 8000000 in
theorem am_callS {cal : Nat → List am_V → am_Sh → am_G → Option am_R} {mi : Nat → Option am_M} {d : Nat} {en : am_E} (hx : p.tables.exec = Jvm.exec) (hb : c.code = cc) (hml : c.maxLocals = ls.size) (hown : s.vm.findClass own = some m.cls) (hts : ∀ w ∈ am_good, w.before args s = true) (hF : am_F base b sn xs D cs S s) (hcal : am_Cal l base b sn xs D cs S mi d cal) (hd1 : d + 1 ≤ R.frames) (hd2 : 64 * (d + 1) ≤ R.locals) (h : am_call cal mi en st sh g = some (st', sh', g')) (hdg : decode cc pc = .ok (en.1, en.2.1)) (hok : am_okI own nm pc en) (hok2 : am_okC mi own en)
    (hP : va_P D vwCl (am_ws base cs sh g) H) (hz : H.size = base + sh.length) (hS : va_S (am_AA base) s.heap H locs) (hc1 : cells + (sh'.length - sh.length) ≤ R.cells) (hc2 : slots + (am_tot sh' - am_tot sh) ≤ R.slots)
    (kk : ∀ (H1 : Heap) (locs1 : List Loc), va_P D vwCl (am_ws base cs sh' g') H1 → H1.size = base + sh'.length → va_S (am_AA base) s.heap H1 locs1 → W p l e R s m args below meth c H1 locs1 (cells + (sh'.length - sh.length)) (slots + (am_tot sh' - am_tot sh)) Q (F0 m (pc + 3) ls (st'.map (am_cv base b S)))) : W p l e R s m args below meth c H locs cells slots Q (F0 m pc ls (st.map (am_cv base b S))) := by
  obtain ⟨hlen, -⟩ := hok
  obtain ⟨I, n, a, z⟩ := en
  have hFix : CallFix p m c cc ls.size s args am_good own := ⟨hx, hb, hml, hown, hts⟩
  have hPre : ∀ as : List am_V, ∀ U : State, U.heap = H → s.WarmedH U.vm → am_Pc base b sn xs D cs S as sh g (as.map (am_cv base b S)).toArray U := fun as U hU hW => ⟨rfl, am_F_moved hF hS hU hW, by rw [hU]; exact hP, by rw [hU]; exact hz⟩
  have hstk : ∀ q : List am_V × List am_V, st = q.1.reverse ++ q.2 → st.map (am_cv base b S) = (q.1.map (am_cv base b S)).reverse ++ q.2.map (am_cv base b S) := fun q hq => by rw [hq, List.map_append, List.map_reverse]
  have hroom : ∀ q : List am_V × List am_V, am_cat q.2 ≤ 8 → 2 * (F0 m pc ls (st.map (am_cv base b S))).monitorRoom + ((q.2.map (am_cv base b S)).map fun v => v.category).sum ≤ 8 := fun q hq => lv_room (by rw [am_cat_cv]; exact hq)
  cases I
  case invokestatic k =>
    have hn : n = 3 := hlen (fun q => by cases q)
    subst hn
    simp only [am_call] at h
    simp only [am_okC] at hok2
    by_cases h1 : a = 1001
    · rw [if_pos h1] at h hok2
      obtain ⟨q, h2, h3⟩ := Option.bind_eq_some_iff.mp h
      simp only [Option.some.injEq, Prod.mk.injEq] at h3
      obtain ⟨rfl, rfl, rfl⟩ := h3
      exact am_cpyS hx hb hml hown hts hF h2 hdg hok2 (by omega) (by omega) hP hS (fun H1 locs1 e1 e2 e3 => by
        have := kk H1 locs1 e1 (by omega) e3
        rw [Nat.sub_self, Nat.sub_self] at this
        exact this)
    · rw [if_neg h1] at h hok2
      obtain ⟨q, h2, h3⟩ := Option.bind_eq_some_iff.mp h
      obtain ⟨e1, e2⟩ := am_args_i h2
      split at h3
      case isFalse => cases h3
      rename_i hcat
      obtain ⟨r, h4, h5⟩ := Option.bind_eq_some_iff.mp h3
      simp only [Option.some.injEq, Prod.mk.injEq] at h5
      obtain ⟨rfl, rfl, rfl⟩ := h5
      obtain ⟨M, m1, ⟨m2, m3, m4, m5⟩, m6⟩ := hok2
      obtain ⟨g1, g2⟩ := hcal _ _ _ _ _ _ m1 h4
      have hn : (q.1.map (am_cv base b S)).length = z.toNat := by rw [List.length_map, e2]
      have hR : (am_rm d (r.2.1.length - sh.length) (am_tot r.2.1 - am_tot sh)).frames + 1 ≤ R.frames ∧ 8 + (M.2.2.1 + 11) + (am_rm d (r.2.1.length - sh.length) (am_tot r.2.1 - am_tot sh)).locals ≤ R.locals := ⟨hd1, by show 8 + (M.2.2.1 + 11) + 64 * d ≤ R.locals; omega⟩
      rcases m5 with m5 | ⟨host, m5⟩
      · exact am_after (va_runS hFix g2 ⟨callB_of z.toNat hts (am_goodIn M g1) rfl rfl rfl (hts _ m3) (hts _ m5) m2 hR, hts _ m6⟩ ⟨am_I_blind, hPre q.1⟩ rfl hn rfl (hstk q e1) (hroom q hcat) hdg ⟨hc1, hc2⟩) hS kk
      · exact am_after (va_runSN hFix g2 ⟨va_cnB z.toNat hts (am_goodIn M g1) rfl rfl rfl (hF.2.2.2.2.2.1 _ m5) (hts _ m3) m2 hR, hts _ m6, trivial⟩ ⟨am_I_blind, hPre q.1⟩ rfl hn rfl (hstk q e1) (hroom q hcat) hdg ⟨hc1, hc2⟩) hS kk
  case invokevirtual k =>
    have hn : n = 3 := hlen (fun q => by cases q)
    subst hn
    simp only [am_call] at h
    simp only [am_okC] at hok2
    obtain ⟨⟨as, rest⟩, h2, h3⟩ := Option.bind_eq_some_iff.mp h
    obtain ⟨e1, e2⟩ := am_args_i h2
    split at h3
    case isFalse => cases h3
    rename_i hcat
    obtain ⟨M, h6, h3⟩ := Option.bind_eq_some_iff.mp h3
    obtain ⟨v0, h7, h3⟩ := Option.bind_eq_some_iff.mp h3
    obtain ⟨r, h4, h5⟩ := Option.bind_eq_some_iff.mp h3
    simp only [Option.some.injEq, Prod.mk.injEq] at h5
    obtain ⟨rfl, rfl, rfl⟩ := h5
    obtain ⟨M', m1, ⟨m2, m3, m4, m5⟩, m6, m7, m8⟩ := hok2
    cases m1.symm.trans h6
    obtain ⟨g1, g2⟩ := hcal _ _ _ _ _ _ m1 h4
    cases as with
    | nil => cases h7
    | cons v as =>
      simp only [am_rcv] at h7
      have hn : (as.map (am_cv base b S)).length = z.toNat := by
        rw [List.length_map]
        simp only [List.length_cons] at e2
        omega
      have hR : (am_rm d (r.2.1.length - sh.length) (am_tot r.2.1 - am_tot sh)).frames + 1 ≤ R.frames ∧ 8 + (M.2.2.1 + 11) + (am_rm d (r.2.1.length - sh.length) (am_tot r.2.1 - am_tot sh)).locals ≤ R.locals := ⟨hd1, by show 8 + (M.2.2.1 + 11) + 64 * d ≤ R.locals; omega⟩
      have hv : ∃ a0 : Nat, am_cv base b S v = .ref a0 ∧ ∃ cell : Cell, H[a0]? = some cell ∧ cell.vm.isStatics = false ∧ s.vm.findClass M.1.cls = some cell.cls := by
        by_cases v2 : v.1 = 2
        · rw [if_pos v2] at h7
          split at h7
          case isTrue => cases h7
          rename_i h99
          obtain ⟨o5, h8, -⟩ := Option.bind_eq_some_iff.mp h7
          rcases m8 with ⟨m8, -⟩ | ⟨q, m8, m9⟩
          · exact absurd m8 h99
          · refine ⟨base + v.2.toNat, by simp [am_cv, v2], ?_⟩
            rw [← m9]
            exact am_recv hF.1 hP h8 m8
        · rw [if_neg v2] at h7
          split at h7
          case isFalse => cases h7
          rename_i h99
          obtain ⟨v4, v5, v6⟩ := h99
          rcases m8 with ⟨-, m8⟩ | ⟨q, m8, -⟩
          · refine ⟨S v.2.toNat, by simp [am_cv, v4], ?_⟩
            rw [m8]
            exact vk_recv hF.2.2.2.2.2.2.2.2.2 v5 hS
          · rw [v6] at m8
            cases m8
      obtain ⟨a0, v1, hcell⟩ := hv
      have hPre2 := hPre (v :: as)
      have hst2 := hstk (v :: as, rest) e1
      rw [List.map_cons, v1] at hPre2
      simp only [List.map_cons, v1, List.reverse_cons, List.append_assoc, List.singleton_append] at hst2
      rcases m5 with m5 | ⟨host, m5⟩
      · exact am_after (va_runV hFix g2 ⟨callB_of z.toNat hts (am_goodIn M g1) rfl rfl rfl (hts _ m3) (hts _ m5) m2 hR, hts _ m6, hts _ m7⟩ ⟨am_I_blind, hcell, hPre2⟩ rfl hn rfl hst2 (hroom (v :: as, rest) hcat) hdg ⟨hc1, hc2⟩) hS kk
      · exact am_after (va_runVN hFix g2 ⟨va_cnB z.toNat hts (am_goodIn M g1) rfl rfl rfl (hF.2.2.2.2.2.1 _ m5) (hts _ m3) m2 hR, hts _ m6, hts _ m7⟩ ⟨am_I_blind, hcell, hPre2⟩ rfl hn rfl hst2 (hroom (v :: as, rest) hcat) hdg ⟨hc1, hc2⟩) hS kk
  case invokespecial k =>
    have hn : n = 3 := hlen (fun q => by cases q)
    subst hn
    simp only [am_call] at h
    simp only [am_okC] at hok2
    by_cases h1 : a = 1000
    · rw [if_pos h1] at h hok2
      obtain ⟨⟨x, t⟩, h2, h3⟩ := Option.bind_eq_some_iff.mp h
      replace h2 := am_pp_iff.mp h2
      simp only at h2 h3
      subst h2
      split at h3
      case isFalse => cases h3
      rename_i hcat
      simp only [Option.some.injEq, Prod.mk.injEq] at h3
      obtain ⟨rfl, rfl, rfl⟩ := h3
      obtain ⟨m1, m2, m3⟩ := hok2
      have hcat2 : (((t.map (am_cv base b S)).map fun v => v.category).sum) ≤ 8 := by rw [am_cat_cv]; exact hcat
      refine W.objInit hx hb hown (hts _ m1) (hts _ m2) (hts _ m3) rfl hml.symm (a := base + x.toNat) (rest := t.map (am_cv base b S)) rfl hdg (by omega) (by show 2 * 0 + _ + 12 ≤ _; omega) ?_
      have := kk H locs hP hz hS
      rw [Nat.sub_self, Nat.sub_self] at this
      exact this
    · rw [if_neg h1] at h hok2
      obtain ⟨⟨as, rest⟩, h2, h3⟩ := Option.bind_eq_some_iff.mp h
      obtain ⟨e1, e2⟩ := am_args_i h2
      split at h3
      case isFalse => cases h3
      rename_i hcat
      obtain ⟨v0, h7, h3⟩ := Option.bind_eq_some_iff.mp h3
      obtain ⟨r, h4, h5⟩ := Option.bind_eq_some_iff.mp h3
      simp only [Option.some.injEq, Prod.mk.injEq] at h5
      obtain ⟨rfl, rfl, rfl⟩ := h5
      obtain ⟨M, m1, ⟨m2, m3, m4, m5⟩, m6, m7, m8⟩ := hok2
      obtain ⟨g1, g2⟩ := hcal _ _ _ _ _ _ m1 h4
      cases as with
      | nil => cases h7
      | cons v as =>
        simp only at h7
        split at h7
        case isFalse => cases h7
        rename_i v2
        have hn : (as.map (am_cv base b S)).length = z.toNat := by
          rw [List.length_map]
          simp only [List.length_cons] at e2
          omega
        have hR : (am_rm d (r.2.1.length - sh.length) (am_tot r.2.1 - am_tot sh)).frames + 1 ≤ R.frames ∧ 8 + (M.2.2.1 + 11) + (am_rm d (r.2.1.length - sh.length) (am_tot r.2.1 - am_tot sh)).locals ≤ R.locals := ⟨hd1, by show 8 + (M.2.2.1 + 11) + 64 * d ≤ R.locals; omega⟩
        have v1 : am_cv base b S v = .ref (base + v.2.toNat) := by simp [am_cv, v2]
        have hPre2 := hPre (v :: as)
        have hst2 := hstk (v :: as, rest) e1
        rw [List.map_cons, v1] at hPre2
        simp only [List.map_cons, v1, List.reverse_cons, List.append_assoc, List.singleton_append] at hst2
        have hret : (am_wd M) = Cond.code M.1 M.2.1 M.2.2.1 none :: am_good := by unfold am_wd; rw [m8]
        rcases m5 with m5 | ⟨host, m5⟩
        · exact am_after (va_runI hFix g2 ⟨callB_of z.toNat hts (am_goodIn M g1) hret rfl rfl (hts _ m3) (hts _ m5) m2 hR, m7, hts _ m6⟩ ⟨am_I_blind, hPre2⟩ rfl hn rfl hst2 (hroom (v :: as, rest) hcat) hdg ⟨hc1, hc2⟩) hS kk
        · exact am_after (va_runIN hFix g2 ⟨va_cnB z.toNat hts (am_goodIn M g1) hret rfl rfl (hF.2.2.2.2.2.1 _ m5) (hts _ m3) m2 hR, m7, hts _ m6⟩ ⟨am_I_blind, hPre2⟩ rfl hn rfl hst2 (hroom (v :: as, rest) hcat) hdg ⟨hc1, hc2⟩) hS kk
  all_goals (simp [am_call] at h)
end AMB
