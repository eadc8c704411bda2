/-! ONE STEP of the abstract machine is a step of the machine -/
def am_sidx : List Nat := [138, 140, 142, 144, 146, 148, 150, 152, 154, 156, 158, 160, 162, 164, 166, 168, 169]
def am_stx : List String := ["loss", "off", "stake", "on", "speed", "point", "tenth", "tilt", "side", "purse", "spin", "last", "lost", "most", "won", "min", "max"]
def am_SR (S : Nat → Nat) (U : State) : Prop := ∀ i, i < 17 → vk_R RX7 (am_sidx.getD i 0) (am_stx.getD i "") (S i) U
def am_len (I : Instr) : Nat := match I with
  | .bipush _ => 2
  | .ldc _ => 2
  | .iload _ => 2
  | .lload _ => 2
  | .aload _ => 2
  | .istore _ => 2
  | .lstore _ => 2
  | .astore _ => 2
  | .newarray _ => 2
  | .sipush _ => 3
  | .ldc_w _ => 3
  | .ldc2_w _ => 3
  | .iinc _ _ => 3
  | .goto _ => 3
  | .ifCond _ _ => 3
  | .if_icmp _ _ => 3
  | .getfield _ => 3
  | .putfield _ => 3
  | .new _ => 3
  | .anewarray _ => 3
  | .invokevirtual _ => 3
  | .invokespecial _ => 3
  | .invokestatic _ => 3
  | .tableswitch _ _ _ _ => 0
  | _ => 1
def am_fk (own : String) (idx : Nat) (e : am_E) (q : vw_C) : Prop := vwCl[e.2.2.1]? = some q ∧ e.2.2.2.toNat < q.2.2 ∧ Cond.fieldLink own idx (q.2.1 e.2.2.2.toNat).1 (q.2.1 e.2.2.2.toNat).2.1 (q.2.1 e.2.2.2.toNat).2.2.1 ∈ am_good
def am_okI (own nm : String) (pc : Nat) (e : am_E) : Prop := (am_len e.1 ≠ 0 → e.2.1 = am_len e.1) ∧ match e.1 with
  | .ldc idx => if e.2.2.1 = 4 then (own = RX7 ∧ e.2.2.2.toNat < 17 ∧ am_sidx.getD e.2.2.2.toNat 0 = idx) else Cond.constant own idx (Int32.ofInt e.2.2.2) ∈ am_good
  | .ldc_w idx => Cond.constant own idx (Int32.ofInt e.2.2.2) ∈ am_good
  | .ldc2_w idx => Cond.constantLong own idx (Int64.ofInt e.2.2.2) ∈ am_good
  | .goto off => (pc : Int) + off = (e.2.2.1 : Int)
  | .ifCond _ off => (pc : Int) + off = (e.2.2.1 : Int)
  | .if_icmp _ off => (pc : Int) + off = (e.2.2.1 : Int)
  | .getfield idx => ∃ q : vw_C, am_fk own idx e q
  | .putfield idx => ∃ q : vw_C, am_fk own idx e q ∧ ((q.2.1 e.2.2.2.toNat).2.2.2 = true → nm = "<init>" ∧ (q.2.1 e.2.2.2.toNat).1 = own)
  | _ => True
theorem am_nx_i {pc : Nat} {L : List am_V} {sh : am_Sh} {g : am_G} {o : Option (List am_V)} {s' : am_St} (h : am_nx pc L sh g o = some s') : ∃ st', o = some st' ∧ s' = (pc, L, st', sh, g) := by
  unfold am_nx at h
  obtain ⟨st', h1, h2⟩ := Option.bind_eq_some_iff.mp h
  exact ⟨st', h1, (Option.some.inj h2).symm⟩
theorem am_i1_i {f : Int → Int} {st st' : List am_V} (h : am_i1 f st = some st') : ∃ x t, st = (0, x) :: t ∧ st' = (0, f x) :: t := by
  obtain ⟨q, h1, h2⟩ := Option.bind_eq_some_iff.mp h
  exact ⟨q.1, q.2, am_pp_iff.mp h1, (Option.some.inj h2).symm⟩
theorem am_l1_i {f : Int → Int} {st st' : List am_V} (h : am_l1 f st = some st') : ∃ x t, st = (1, x) :: t ∧ st' = (1, f x) :: t := by
  obtain ⟨q, h1, h2⟩ := Option.bind_eq_some_iff.mp h
  exact ⟨q.1, q.2, am_pp_iff.mp h1, (Option.some.inj h2).symm⟩
theorem am_i2_i {f : Int → Int → Int} {st st' : List am_V} (h : am_i2 f st = some st') : ∃ x y t, st = (0, y) :: (0, x) :: t ∧ st' = (0, f x y) :: t := by
  obtain ⟨q, h1, h2⟩ := Option.bind_eq_some_iff.mp h
  obtain ⟨r, h3, h4⟩ := Option.bind_eq_some_iff.mp h2
  exact ⟨r.1, q.1, r.2, by rw [am_pp_iff.mp h1, am_pp_iff.mp h3], (Option.some.inj h4).symm⟩
theorem am_l2_i {f : Int → Int → Int} {st st' : List am_V} (h : am_l2 f st = some st') : ∃ x y t, st = (1, y) :: (1, x) :: t ∧ st' = (1, f x y) :: t := by
  obtain ⟨q, h1, h2⟩ := Option.bind_eq_some_iff.mp h
  obtain ⟨r, h3, h4⟩ := Option.bind_eq_some_iff.mp h2
  exact ⟨r.1, q.1, r.2, by rw [am_pp_iff.mp h1, am_pp_iff.mp h3], (Option.some.inj h4).symm⟩
theorem am_ls_i {f : Int → Int → Int} {st st' : List am_V} (h : am_ls f st = some st') : ∃ x y t, st = (0, y) :: (1, x) :: t ∧ st' = (1, f x y) :: t := by
  obtain ⟨q, h1, h2⟩ := Option.bind_eq_some_iff.mp h
  obtain ⟨r, h3, h4⟩ := Option.bind_eq_some_iff.mp h2
  exact ⟨r.1, q.1, r.2, by rw [am_pp_iff.mp h1, am_pp_iff.mp h3], (Option.some.inj h4).symm⟩
theorem am_ld_i {k : Nat} {L : List am_V} {i : Nat} {v : am_V} (h : am_ld k L i = some v) : L[i]? = some v ∧ v.1 = k := by
  obtain ⟨u, h1, h2⟩ := Option.bind_eq_some_iff.mp h
  by_cases hk : u.1 = k
  · rw [if_pos hk] at h2
    cases h2
    exact ⟨h1, hk⟩
  · rw [if_neg hk] at h2
    cases h2
theorem am_ldr_i {L : List am_V} {i : Nat} {v : am_V} (h : am_ldr L i = some v) : L[i]? = some v ∧ am_isr v.1 = true := by
  obtain ⟨u, h1, h2⟩ := Option.bind_eq_some_iff.mp h
  by_cases hk : am_isr u.1 = true
  · rw [if_pos hk] at h2
    cases h2
    exact ⟨h1, hk⟩
  · rw [if_neg hk] at h2
    cases h2
theorem am_xs_i {len : Nat} {i : Int} {j : Nat} (h : am_xs len i = some j) : w32 i = (j : Int) ∧ j < len := by
  unfold am_xs at h
  split at h
  · rename_i hc
    cases h
    omega
  · cases h
theorem am_xs_in {len : Nat} {i : Int} {j : Nat} (h : am_xs len i = some j) : vp_in (Int32.ofInt i) len ∧ (Int32.ofInt i).toNatClampNeg = j := by
  obtain ⟨h1, h2⟩ := am_xs_i h
  refine ⟨vp_in_iff.mpr ⟨by rw [w32_toInt]; omega, by rw [w32_toInt]; omega⟩, ?_⟩
  show (Int32.ofInt i).toInt.toNat = j
  rw [w32_toInt]
  omega
theorem am_arr_i {sh : am_Sh} {k : Int} {kind : Nat} {o : Nat × List Nat} (h : am_arr sh k kind = some o) : sh[k.toNat]? = some (kind, o) := by
  unfold am_arr at h
  obtain ⟨u, h1, h2⟩ := Option.bind_eq_some_iff.mp h
  by_cases hk : u.1 = kind
  · rw [if_pos hk] at h2
    cases h2
    rw [h1, ← hk]
  · rw [if_neg hk] at h2
    cases h2
section AMS
variable {p : Program} {l : Launch} {e : Env} {R : Room} {s : State} {m : MethodId} {args : Array Value} {below : List Frame} {meth : Method} {c : Code} {H : Heap} {locs : List Loc} {cells slots : Nat} {Q : State → Prop}
variable {cc : ByteArray} {D : va_G} {cs : am_C4} {base b sn : Nat} {xs : Nat → Int32} {S : Nat → Nat} {own nm : String}
variable {n a : Nat} {z : Int} {pc pc' : Nat} {L L' st st' : List am_V} {sh sh' : am_Sh} {g g' : am_G} {ls : Array Slot}
set_option maxHeartbeats 2000000 in
theorem am_t_iconst {k : Int} (hx : p.tables.exec = Jvm.exec) (hb : c.code = cc) (hown : s.vm.findClass own = some m.cls) (hts : ∀ w ∈ am_good, w.before args s = true) (hnm : meth.name = nm) (hK : va_K D vwCl (am_tys cs) s) (hX : va_X b sn xs s s.heap) (hbb : b < base) (hbs : base ≤ s.heap.size) (hSR : am_SR S s) (h : am_stp sn (fun j => (xs j).toInt) (.iconst k, n, a, z) pc L st sh g = some (pc', L', st', sh', g')) (hdg : decode cc pc = .ok (.iconst k, n)) (hok : am_okI own nm pc (.iconst k, n, a, z)) (hl : am_LR base b S ls L) (hP : va_P D vwCl (am_ws base cs sh g) H) (hS : va_S (am_AA base) s.heap H locs) (kk : ∀ (H1 : Heap) (locs1 : List Loc) (ls1 : Array Slot), va_P D vwCl (am_ws base cs sh' g') H1 → H1.size = H.size → va_S (am_AA base) s.heap H1 locs1 → am_LR base b S ls1 L' → W p l e R s m args below meth c H1 locs1 cells slots Q (F0 m pc' ls1 (st'.map (am_cv base b S)))) : W p l e R s m args below meth c H locs cells slots Q (F0 m pc ls (st.map (am_cv base b S))) := by
  obtain ⟨hlen, hlk⟩ := hok
  have hn : n = 1 := hlen (fun q => by cases q)
  subst hn
  replace h := Option.some.inj h
  simp only [Prod.mk.injEq] at h
  obtain ⟨rfl, rfl, rfl, rfl, rfl⟩ := h
  exact lv_iconst (v := Int32.ofInt k) hx hb hdg rfl (kk H locs ls hP rfl hS hl)
set_option maxHeartbeats 2000000 in
theorem am_t_bipush {k : Int} (hx : p.tables.exec = Jvm.exec) (hb : c.code = cc) (hown : s.vm.findClass own = some m.cls) (hts : ∀ w ∈ am_good, w.before args s = true) (hnm : meth.name = nm) (hK : va_K D vwCl (am_tys cs) s) (hX : va_X b sn xs s s.heap) (hbb : b < base) (hbs : base ≤ s.heap.size) (hSR : am_SR S s) (h : am_stp sn (fun j => (xs j).toInt) (.bipush k, n, a, z) pc L st sh g = some (pc', L', st', sh', g')) (hdg : decode cc pc = .ok (.bipush k, n)) (hok : am_okI own nm pc (.bipush k, n, a, z)) (hl : am_LR base b S ls L) (hP : va_P D vwCl (am_ws base cs sh g) H) (hS : va_S (am_AA base) s.heap H locs) (kk : ∀ (H1 : Heap) (locs1 : List Loc) (ls1 : Array Slot), va_P D vwCl (am_ws base cs sh' g') H1 → H1.size = H.size → va_S (am_AA base) s.heap H1 locs1 → am_LR base b S ls1 L' → W p l e R s m args below meth c H1 locs1 cells slots Q (F0 m pc' ls1 (st'.map (am_cv base b S)))) : W p l e R s m args below meth c H locs cells slots Q (F0 m pc ls (st.map (am_cv base b S))) := by
  obtain ⟨hlen, hlk⟩ := hok
  have hn : n = 2 := hlen (fun q => by cases q)
  subst hn
  simp only [am_stp] at h
  by_cases hc : -128 ≤ k ∧ k ≤ 127
  case neg => rw [if_neg hc] at h; cases h
  rw [if_pos hc] at h
  replace h := Option.some.inj h
  simp only [Prod.mk.injEq] at h
  obtain ⟨rfl, rfl, rfl, rfl, rfl⟩ := h
  exact lv_bipush (v := Int32.ofInt k) hx hb hdg (Int8.toInt32_ofInt (Int.le_trans (show Int8.minValue.toInt ≤ -128 by decide) hc.1) (Int.le_trans hc.2 (show (127 : Int) ≤ Int8.maxValue.toInt by decide))) (kk H locs ls hP rfl hS hl)
set_option maxHeartbeats 2000000 in
theorem am_t_sipush {k : Int} (hx : p.tables.exec = Jvm.exec) (hb : c.code = cc) (hown : s.vm.findClass own = some m.cls) (hts : ∀ w ∈ am_good, w.before args s = true) (hnm : meth.name = nm) (hK : va_K D vwCl (am_tys cs) s) (hX : va_X b sn xs s s.heap) (hbb : b < base) (hbs : base ≤ s.heap.size) (hSR : am_SR S s) (h : am_stp sn (fun j => (xs j).toInt) (.sipush k, n, a, z) pc L st sh g = some (pc', L', st', sh', g')) (hdg : decode cc pc = .ok (.sipush k, n)) (hok : am_okI own nm pc (.sipush k, n, a, z)) (hl : am_LR base b S ls L) (hP : va_P D vwCl (am_ws base cs sh g) H) (hS : va_S (am_AA base) s.heap H locs) (kk : ∀ (H1 : Heap) (locs1 : List Loc) (ls1 : Array Slot), va_P D vwCl (am_ws base cs sh' g') H1 → H1.size = H.size → va_S (am_AA base) s.heap H1 locs1 → am_LR base b S ls1 L' → W p l e R s m args below meth c H1 locs1 cells slots Q (F0 m pc' ls1 (st'.map (am_cv base b S)))) : W p l e R s m args below meth c H locs cells slots Q (F0 m pc ls (st.map (am_cv base b S))) := by
  obtain ⟨hlen, hlk⟩ := hok
  have hn : n = 3 := hlen (fun q => by cases q)
  subst hn
  simp only [am_stp] at h
  by_cases hc : -32768 ≤ k ∧ k ≤ 32767
  case neg => rw [if_neg hc] at h; cases h
  rw [if_pos hc] at h
  replace h := Option.some.inj h
  simp only [Prod.mk.injEq] at h
  obtain ⟨rfl, rfl, rfl, rfl, rfl⟩ := h
  exact lv_sipush (v := Int32.ofInt k) hx hb hdg (Int16.toInt32_ofInt (Int.le_trans (show Int16.minValue.toInt ≤ -32768 by decide) hc.1) (Int.le_trans hc.2 (show (32767 : Int) ≤ Int16.maxValue.toInt by decide))) (kk H locs ls hP rfl hS hl)
set_option maxHeartbeats 2000000 in
theorem am_t_lconst {k : Fin 2} (hx : p.tables.exec = Jvm.exec) (hb : c.code = cc) (hown : s.vm.findClass own = some m.cls) (hts : ∀ w ∈ am_good, w.before args s = true) (hnm : meth.name = nm) (hK : va_K D vwCl (am_tys cs) s) (hX : va_X b sn xs s s.heap) (hbb : b < base) (hbs : base ≤ s.heap.size) (hSR : am_SR S s) (h : am_stp sn (fun j => (xs j).toInt) (.lconst k, n, a, z) pc L st sh g = some (pc', L', st', sh', g')) (hdg : decode cc pc = .ok (.lconst k, n)) (hok : am_okI own nm pc (.lconst k, n, a, z)) (hl : am_LR base b S ls L) (hP : va_P D vwCl (am_ws base cs sh g) H) (hS : va_S (am_AA base) s.heap H locs) (kk : ∀ (H1 : Heap) (locs1 : List Loc) (ls1 : Array Slot), va_P D vwCl (am_ws base cs sh' g') H1 → H1.size = H.size → va_S (am_AA base) s.heap H1 locs1 → am_LR base b S ls1 L' → W p l e R s m args below meth c H1 locs1 cells slots Q (F0 m pc' ls1 (st'.map (am_cv base b S)))) : W p l e R s m args below meth c H locs cells slots Q (F0 m pc ls (st.map (am_cv base b S))) := by
  obtain ⟨hlen, hlk⟩ := hok
  have hn : n = 1 := hlen (fun q => by cases q)
  subst hn
  replace h := Option.some.inj h
  simp only [Prod.mk.injEq] at h
  obtain ⟨rfl, rfl, rfl, rfl, rfl⟩ := h
  exact lv_lconst (v := Int64.ofInt ((k : Nat) : Int)) hx hb hdg (Int64.ofInt_eq_ofNat).symm (kk H locs ls hP rfl hS hl)
set_option maxHeartbeats 2000000 in
theorem am_t_ldc {k : Nat} (hx : p.tables.exec = Jvm.exec) (hb : c.code = cc) (hown : s.vm.findClass own = some m.cls) (hts : ∀ w ∈ am_good, w.before args s = true) (hnm : meth.name = nm) (hK : va_K D vwCl (am_tys cs) s) (hX : va_X b sn xs s s.heap) (hbb : b < base) (hbs : base ≤ s.heap.size) (hSR : am_SR S s) (h : am_stp sn (fun j => (xs j).toInt) (.ldc k, n, a, z) pc L st sh g = some (pc', L', st', sh', g')) (hdg : decode cc pc = .ok (.ldc k, n)) (hok : am_okI own nm pc (.ldc k, n, a, z)) (hl : am_LR base b S ls L) (hP : va_P D vwCl (am_ws base cs sh g) H) (hS : va_S (am_AA base) s.heap H locs) (kk : ∀ (H1 : Heap) (locs1 : List Loc) (ls1 : Array Slot), va_P D vwCl (am_ws base cs sh' g') H1 → H1.size = H.size → va_S (am_AA base) s.heap H1 locs1 → am_LR base b S ls1 L' → W p l e R s m args below meth c H1 locs1 cells slots Q (F0 m pc' ls1 (st'.map (am_cv base b S)))) : W p l e R s m args below meth c H locs cells slots Q (F0 m pc ls (st.map (am_cv base b S))) := by
  obtain ⟨hlen, hlk⟩ := hok
  have hn : n = 2 := hlen (fun q => by cases q)
  subst hn
  simp only [am_stp] at h
  simp only at hlk
  by_cases h4 : a = 4
  · rw [if_pos h4] at h hlk
    obtain ⟨rfl, hz, hk⟩ := hlk
    replace h := Option.some.inj h
    simp only [Prod.mk.injEq] at h
    obtain ⟨rfl, rfl, rfl, rfl, rfl⟩ := h
    exact va_ldcS (q := S z.toNat) (tx := am_stx.getD z.toNat "") hx hb hown (by have := hSR z.toNat hz; rw [hk] at this; exact this) hdg (kk H locs ls hP rfl hS hl)
  · rw [if_neg h4] at h hlk
    by_cases h0 : a = 0
    case neg => rw [if_neg h0] at h; cases h
    rw [if_pos h0] at h
    replace h := Option.some.inj h
    simp only [Prod.mk.injEq] at h
    obtain ⟨rfl, rfl, rfl, rfl, rfl⟩ := h
    exact lv_ldc (v := Int32.ofInt z) hx hb hown (hts _ hlk) hdg (kk H locs ls hP rfl hS hl)
set_option maxHeartbeats 2000000 in
theorem am_t_ldc_w {k : Nat} (hx : p.tables.exec = Jvm.exec) (hb : c.code = cc) (hown : s.vm.findClass own = some m.cls) (hts : ∀ w ∈ am_good, w.before args s = true) (hnm : meth.name = nm) (hK : va_K D vwCl (am_tys cs) s) (hX : va_X b sn xs s s.heap) (hbb : b < base) (hbs : base ≤ s.heap.size) (hSR : am_SR S s) (h : am_stp sn (fun j => (xs j).toInt) (.ldc_w k, n, a, z) pc L st sh g = some (pc', L', st', sh', g')) (hdg : decode cc pc = .ok (.ldc_w k, n)) (hok : am_okI own nm pc (.ldc_w k, n, a, z)) (hl : am_LR base b S ls L) (hP : va_P D vwCl (am_ws base cs sh g) H) (hS : va_S (am_AA base) s.heap H locs) (kk : ∀ (H1 : Heap) (locs1 : List Loc) (ls1 : Array Slot), va_P D vwCl (am_ws base cs sh' g') H1 → H1.size = H.size → va_S (am_AA base) s.heap H1 locs1 → am_LR base b S ls1 L' → W p l e R s m args below meth c H1 locs1 cells slots Q (F0 m pc' ls1 (st'.map (am_cv base b S)))) : W p l e R s m args below meth c H locs cells slots Q (F0 m pc ls (st.map (am_cv base b S))) := by
  obtain ⟨hlen, hlk⟩ := hok
  have hn : n = 3 := hlen (fun q => by cases q)
  subst hn
  replace h := Option.some.inj h
  simp only [Prod.mk.injEq] at h
  obtain ⟨rfl, rfl, rfl, rfl, rfl⟩ := h
  exact lv_ldcw (v := Int32.ofInt z) hx hb hown (hts _ hlk) hdg (kk H locs ls hP rfl hS hl)
set_option maxHeartbeats 2000000 in
theorem am_t_ldc2_w {k : Nat} (hx : p.tables.exec = Jvm.exec) (hb : c.code = cc) (hown : s.vm.findClass own = some m.cls) (hts : ∀ w ∈ am_good, w.before args s = true) (hnm : meth.name = nm) (hK : va_K D vwCl (am_tys cs) s) (hX : va_X b sn xs s s.heap) (hbb : b < base) (hbs : base ≤ s.heap.size) (hSR : am_SR S s) (h : am_stp sn (fun j => (xs j).toInt) (.ldc2_w k, n, a, z) pc L st sh g = some (pc', L', st', sh', g')) (hdg : decode cc pc = .ok (.ldc2_w k, n)) (hok : am_okI own nm pc (.ldc2_w k, n, a, z)) (hl : am_LR base b S ls L) (hP : va_P D vwCl (am_ws base cs sh g) H) (hS : va_S (am_AA base) s.heap H locs) (kk : ∀ (H1 : Heap) (locs1 : List Loc) (ls1 : Array Slot), va_P D vwCl (am_ws base cs sh' g') H1 → H1.size = H.size → va_S (am_AA base) s.heap H1 locs1 → am_LR base b S ls1 L' → W p l e R s m args below meth c H1 locs1 cells slots Q (F0 m pc' ls1 (st'.map (am_cv base b S)))) : W p l e R s m args below meth c H locs cells slots Q (F0 m pc ls (st.map (am_cv base b S))) := by
  obtain ⟨hlen, hlk⟩ := hok
  have hn : n = 3 := hlen (fun q => by cases q)
  subst hn
  replace h := Option.some.inj h
  simp only [Prod.mk.injEq] at h
  obtain ⟨rfl, rfl, rfl, rfl, rfl⟩ := h
  exact lv_ldc2 (v := Int64.ofInt z) hx hb hown (hts _ hlk) hdg (kk H locs ls hP rfl hS hl)
set_option maxHeartbeats 2000000 in
theorem am_t_iload_n {k : Fin 4} (hx : p.tables.exec = Jvm.exec) (hb : c.code = cc) (hown : s.vm.findClass own = some m.cls) (hts : ∀ w ∈ am_good, w.before args s = true) (hnm : meth.name = nm) (hK : va_K D vwCl (am_tys cs) s) (hX : va_X b sn xs s s.heap) (hbb : b < base) (hbs : base ≤ s.heap.size) (hSR : am_SR S s) (h : am_stp sn (fun j => (xs j).toInt) (.iload_n k, n, a, z) pc L st sh g = some (pc', L', st', sh', g')) (hdg : decode cc pc = .ok (.iload_n k, n)) (hok : am_okI own nm pc (.iload_n k, n, a, z)) (hl : am_LR base b S ls L) (hP : va_P D vwCl (am_ws base cs sh g) H) (hS : va_S (am_AA base) s.heap H locs) (kk : ∀ (H1 : Heap) (locs1 : List Loc) (ls1 : Array Slot), va_P D vwCl (am_ws base cs sh' g') H1 → H1.size = H.size → va_S (am_AA base) s.heap H1 locs1 → am_LR base b S ls1 L' → W p l e R s m args below meth c H1 locs1 cells slots Q (F0 m pc' ls1 (st'.map (am_cv base b S)))) : W p l e R s m args below meth c H locs cells slots Q (F0 m pc ls (st.map (am_cv base b S))) := by
  obtain ⟨hlen, hlk⟩ := hok
  have hn : n = 1 := hlen (fun q => by cases q)
  subst hn
  replace h := Option.bind_eq_some_iff.mp h
  obtain ⟨⟨k1, x⟩, h1, h⟩ := h
  obtain ⟨h2, rfl⟩ := am_ld_i h1
  replace h := Option.some.inj h
  simp only [Prod.mk.injEq] at h
  obtain ⟨rfl, rfl, rfl, rfl, rfl⟩ := h
  exact lv_iload_n (x := Int32.ofInt x) hx hb hdg rfl (am_LR_at hl h2 (show (0 : Nat) ≠ 9 by decide)) (kk H locs ls hP rfl hS hl)
set_option maxHeartbeats 2000000 in
theorem am_t_iload {k : Nat} (hx : p.tables.exec = Jvm.exec) (hb : c.code = cc) (hown : s.vm.findClass own = some m.cls) (hts : ∀ w ∈ am_good, w.before args s = true) (hnm : meth.name = nm) (hK : va_K D vwCl (am_tys cs) s) (hX : va_X b sn xs s s.heap) (hbb : b < base) (hbs : base ≤ s.heap.size) (hSR : am_SR S s) (h : am_stp sn (fun j => (xs j).toInt) (.iload k, n, a, z) pc L st sh g = some (pc', L', st', sh', g')) (hdg : decode cc pc = .ok (.iload k, n)) (hok : am_okI own nm pc (.iload k, n, a, z)) (hl : am_LR base b S ls L) (hP : va_P D vwCl (am_ws base cs sh g) H) (hS : va_S (am_AA base) s.heap H locs) (kk : ∀ (H1 : Heap) (locs1 : List Loc) (ls1 : Array Slot), va_P D vwCl (am_ws base cs sh' g') H1 → H1.size = H.size → va_S (am_AA base) s.heap H1 locs1 → am_LR base b S ls1 L' → W p l e R s m args below meth c H1 locs1 cells slots Q (F0 m pc' ls1 (st'.map (am_cv base b S)))) : W p l e R s m args below meth c H locs cells slots Q (F0 m pc ls (st.map (am_cv base b S))) := by
  obtain ⟨hlen, hlk⟩ := hok
  have hn : n = 2 := hlen (fun q => by cases q)
  subst hn
  replace h := Option.bind_eq_some_iff.mp h
  obtain ⟨⟨k1, x⟩, h1, h⟩ := h
  obtain ⟨h2, rfl⟩ := am_ld_i h1
  replace h := Option.some.inj h
  simp only [Prod.mk.injEq] at h
  obtain ⟨rfl, rfl, rfl, rfl, rfl⟩ := h
  exact lv_iload (x := Int32.ofInt x) hx hb hdg (am_LR_at hl h2 (show (0 : Nat) ≠ 9 by decide)) (kk H locs ls hP rfl hS hl)
set_option maxHeartbeats 2000000 in
theorem am_t_lload_n {k : Fin 4} (hx : p.tables.exec = Jvm.exec) (hb : c.code = cc) (hown : s.vm.findClass own = some m.cls) (hts : ∀ w ∈ am_good, w.before args s = true) (hnm : meth.name = nm) (hK : va_K D vwCl (am_tys cs) s) (hX : va_X b sn xs s s.heap) (hbb : b < base) (hbs : base ≤ s.heap.size) (hSR : am_SR S s) (h : am_stp sn (fun j => (xs j).toInt) (.lload_n k, n, a, z) pc L st sh g = some (pc', L', st', sh', g')) (hdg : decode cc pc = .ok (.lload_n k, n)) (hok : am_okI own nm pc (.lload_n k, n, a, z)) (hl : am_LR base b S ls L) (hP : va_P D vwCl (am_ws base cs sh g) H) (hS : va_S (am_AA base) s.heap H locs) (kk : ∀ (H1 : Heap) (locs1 : List Loc) (ls1 : Array Slot), va_P D vwCl (am_ws base cs sh' g') H1 → H1.size = H.size → va_S (am_AA base) s.heap H1 locs1 → am_LR base b S ls1 L' → W p l e R s m args below meth c H1 locs1 cells slots Q (F0 m pc' ls1 (st'.map (am_cv base b S)))) : W p l e R s m args below meth c H locs cells slots Q (F0 m pc ls (st.map (am_cv base b S))) := by
  obtain ⟨hlen, hlk⟩ := hok
  have hn : n = 1 := hlen (fun q => by cases q)
  subst hn
  replace h := Option.bind_eq_some_iff.mp h
  obtain ⟨⟨k1, x⟩, h1, h⟩ := h
  obtain ⟨h2, rfl⟩ := am_ld_i h1
  replace h := Option.some.inj h
  simp only [Prod.mk.injEq] at h
  obtain ⟨rfl, rfl, rfl, rfl, rfl⟩ := h
  exact lv_lload_n (x := Int64.ofInt x) hx hb hdg rfl (am_LR_at hl h2 (show (1 : Nat) ≠ 9 by decide)) (kk H locs ls hP rfl hS hl)
set_option maxHeartbeats 2000000 in
theorem am_t_lload {k : Nat} (hx : p.tables.exec = Jvm.exec) (hb : c.code = cc) (hown : s.vm.findClass own = some m.cls) (hts : ∀ w ∈ am_good, w.before args s = true) (hnm : meth.name = nm) (hK : va_K D vwCl (am_tys cs) s) (hX : va_X b sn xs s s.heap) (hbb : b < base) (hbs : base ≤ s.heap.size) (hSR : am_SR S s) (h : am_stp sn (fun j => (xs j).toInt) (.lload k, n, a, z) pc L st sh g = some (pc', L', st', sh', g')) (hdg : decode cc pc = .ok (.lload k, n)) (hok : am_okI own nm pc (.lload k, n, a, z)) (hl : am_LR base b S ls L) (hP : va_P D vwCl (am_ws base cs sh g) H) (hS : va_S (am_AA base) s.heap H locs) (kk : ∀ (H1 : Heap) (locs1 : List Loc) (ls1 : Array Slot), va_P D vwCl (am_ws base cs sh' g') H1 → H1.size = H.size → va_S (am_AA base) s.heap H1 locs1 → am_LR base b S ls1 L' → W p l e R s m args below meth c H1 locs1 cells slots Q (F0 m pc' ls1 (st'.map (am_cv base b S)))) : W p l e R s m args below meth c H locs cells slots Q (F0 m pc ls (st.map (am_cv base b S))) := by
  obtain ⟨hlen, hlk⟩ := hok
  have hn : n = 2 := hlen (fun q => by cases q)
  subst hn
  replace h := Option.bind_eq_some_iff.mp h
  obtain ⟨⟨k1, x⟩, h1, h⟩ := h
  obtain ⟨h2, rfl⟩ := am_ld_i h1
  replace h := Option.some.inj h
  simp only [Prod.mk.injEq] at h
  obtain ⟨rfl, rfl, rfl, rfl, rfl⟩ := h
  exact lv_lload (x := Int64.ofInt x) hx hb hdg (am_LR_at hl h2 (show (1 : Nat) ≠ 9 by decide)) (kk H locs ls hP rfl hS hl)
set_option maxHeartbeats 2000000 in
theorem am_t_aload_n {k : Fin 4} (hx : p.tables.exec = Jvm.exec) (hb : c.code = cc) (hown : s.vm.findClass own = some m.cls) (hts : ∀ w ∈ am_good, w.before args s = true) (hnm : meth.name = nm) (hK : va_K D vwCl (am_tys cs) s) (hX : va_X b sn xs s s.heap) (hbb : b < base) (hbs : base ≤ s.heap.size) (hSR : am_SR S s) (h : am_stp sn (fun j => (xs j).toInt) (.aload_n k, n, a, z) pc L st sh g = some (pc', L', st', sh', g')) (hdg : decode cc pc = .ok (.aload_n k, n)) (hok : am_okI own nm pc (.aload_n k, n, a, z)) (hl : am_LR base b S ls L) (hP : va_P D vwCl (am_ws base cs sh g) H) (hS : va_S (am_AA base) s.heap H locs) (kk : ∀ (H1 : Heap) (locs1 : List Loc) (ls1 : Array Slot), va_P D vwCl (am_ws base cs sh' g') H1 → H1.size = H.size → va_S (am_AA base) s.heap H1 locs1 → am_LR base b S ls1 L' → W p l e R s m args below meth c H1 locs1 cells slots Q (F0 m pc' ls1 (st'.map (am_cv base b S)))) : W p l e R s m args below meth c H locs cells slots Q (F0 m pc ls (st.map (am_cv base b S))) := by
  obtain ⟨hlen, hlk⟩ := hok
  have hn : n = 1 := hlen (fun q => by cases q)
  subst hn
  replace h := Option.bind_eq_some_iff.mp h
  obtain ⟨v, h1, h⟩ := h
  obtain ⟨h2, h3⟩ := am_ldr_i h1
  replace h := Option.some.inj h
  simp only [Prod.mk.injEq] at h
  obtain ⟨rfl, rfl, rfl, rfl, rfl⟩ := h
  obtain ⟨r, hr⟩ := am_cv_r (base := base) (b := b) (S := S) h3
  have h9 : v.1 ≠ 9 := fun q => by rw [q] at h3; cases h3
  have hk := kk H locs ls hP rfl hS hl
  rw [List.map_cons, hr] at hk
  exact lv_aload_n (x := r) hx hb hdg rfl (by rw [← hr]; exact am_LR_at hl h2 h9) hk
set_option maxHeartbeats 2000000 in
theorem am_t_aload {k : Nat} (hx : p.tables.exec = Jvm.exec) (hb : c.code = cc) (hown : s.vm.findClass own = some m.cls) (hts : ∀ w ∈ am_good, w.before args s = true) (hnm : meth.name = nm) (hK : va_K D vwCl (am_tys cs) s) (hX : va_X b sn xs s s.heap) (hbb : b < base) (hbs : base ≤ s.heap.size) (hSR : am_SR S s) (h : am_stp sn (fun j => (xs j).toInt) (.aload k, n, a, z) pc L st sh g = some (pc', L', st', sh', g')) (hdg : decode cc pc = .ok (.aload k, n)) (hok : am_okI own nm pc (.aload k, n, a, z)) (hl : am_LR base b S ls L) (hP : va_P D vwCl (am_ws base cs sh g) H) (hS : va_S (am_AA base) s.heap H locs) (kk : ∀ (H1 : Heap) (locs1 : List Loc) (ls1 : Array Slot), va_P D vwCl (am_ws base cs sh' g') H1 → H1.size = H.size → va_S (am_AA base) s.heap H1 locs1 → am_LR base b S ls1 L' → W p l e R s m args below meth c H1 locs1 cells slots Q (F0 m pc' ls1 (st'.map (am_cv base b S)))) : W p l e R s m args below meth c H locs cells slots Q (F0 m pc ls (st.map (am_cv base b S))) := by
  obtain ⟨hlen, hlk⟩ := hok
  have hn : n = 2 := hlen (fun q => by cases q)
  subst hn
  replace h := Option.bind_eq_some_iff.mp h
  obtain ⟨v, h1, h⟩ := h
  obtain ⟨h2, h3⟩ := am_ldr_i h1
  replace h := Option.some.inj h
  simp only [Prod.mk.injEq] at h
  obtain ⟨rfl, rfl, rfl, rfl, rfl⟩ := h
  obtain ⟨r, hr⟩ := am_cv_r (base := base) (b := b) (S := S) h3
  have h9 : v.1 ≠ 9 := fun q => by rw [q] at h3; cases h3
  have hk := kk H locs ls hP rfl hS hl
  rw [List.map_cons, hr] at hk
  exact lv_aload (x := r) hx hb hdg (by rw [← hr]; exact am_LR_at hl h2 h9) hk
set_option maxHeartbeats 2000000 in
theorem am_t_istore_n {k : Fin 4} (hx : p.tables.exec = Jvm.exec) (hb : c.code = cc) (hown : s.vm.findClass own = some m.cls) (hts : ∀ w ∈ am_good, w.before args s = true) (hnm : meth.name = nm) (hK : va_K D vwCl (am_tys cs) s) (hX : va_X b sn xs s s.heap) (hbb : b < base) (hbs : base ≤ s.heap.size) (hSR : am_SR S s) (h : am_stp sn (fun j => (xs j).toInt) (.istore_n k, n, a, z) pc L st sh g = some (pc', L', st', sh', g')) (hdg : decode cc pc = .ok (.istore_n k, n)) (hok : am_okI own nm pc (.istore_n k, n, a, z)) (hl : am_LR base b S ls L) (hP : va_P D vwCl (am_ws base cs sh g) H) (hS : va_S (am_AA base) s.heap H locs) (kk : ∀ (H1 : Heap) (locs1 : List Loc) (ls1 : Array Slot), va_P D vwCl (am_ws base cs sh' g') H1 → H1.size = H.size → va_S (am_AA base) s.heap H1 locs1 → am_LR base b S ls1 L' → W p l e R s m args below meth c H1 locs1 cells slots Q (F0 m pc' ls1 (st'.map (am_cv base b S)))) : W p l e R s m args below meth c H locs cells slots Q (F0 m pc ls (st.map (am_cv base b S))) := by
  obtain ⟨hlen, hlk⟩ := hok
  have hn : n = 1 := hlen (fun q => by cases q)
  subst hn
  replace h := Option.bind_eq_some_iff.mp h
  obtain ⟨⟨x, t⟩, h1, h⟩ := h
  replace h1 := am_pp_iff.mp h1
  subst h1
  by_cases hc : (k : Nat) < L.length
  case neg => rw [if_neg hc] at h; cases h
  rw [if_pos hc] at h
  replace h := Option.some.inj h
  simp only [Prod.mk.injEq] at h
  obtain ⟨rfl, rfl, rfl, rfl, rfl⟩ := h
  exact lv_istore_n (x := Int32.ofInt x) hx hb hdg rfl hl hc rfl (fun ls1 hl1 => kk H locs ls1 hP rfl hS (am_LR_s1 (v := (0, x)) hl1))
set_option maxHeartbeats 2000000 in
theorem am_t_istore {k : Nat} (hx : p.tables.exec = Jvm.exec) (hb : c.code = cc) (hown : s.vm.findClass own = some m.cls) (hts : ∀ w ∈ am_good, w.before args s = true) (hnm : meth.name = nm) (hK : va_K D vwCl (am_tys cs) s) (hX : va_X b sn xs s s.heap) (hbb : b < base) (hbs : base ≤ s.heap.size) (hSR : am_SR S s) (h : am_stp sn (fun j => (xs j).toInt) (.istore k, n, a, z) pc L st sh g = some (pc', L', st', sh', g')) (hdg : decode cc pc = .ok (.istore k, n)) (hok : am_okI own nm pc (.istore k, n, a, z)) (hl : am_LR base b S ls L) (hP : va_P D vwCl (am_ws base cs sh g) H) (hS : va_S (am_AA base) s.heap H locs) (kk : ∀ (H1 : Heap) (locs1 : List Loc) (ls1 : Array Slot), va_P D vwCl (am_ws base cs sh' g') H1 → H1.size = H.size → va_S (am_AA base) s.heap H1 locs1 → am_LR base b S ls1 L' → W p l e R s m args below meth c H1 locs1 cells slots Q (F0 m pc' ls1 (st'.map (am_cv base b S)))) : W p l e R s m args below meth c H locs cells slots Q (F0 m pc ls (st.map (am_cv base b S))) := by
  obtain ⟨hlen, hlk⟩ := hok
  have hn : n = 2 := hlen (fun q => by cases q)
  subst hn
  replace h := Option.bind_eq_some_iff.mp h
  obtain ⟨⟨x, t⟩, h1, h⟩ := h
  replace h1 := am_pp_iff.mp h1
  subst h1
  by_cases hc : k < L.length
  case neg => rw [if_neg hc] at h; cases h
  rw [if_pos hc] at h
  replace h := Option.some.inj h
  simp only [Prod.mk.injEq] at h
  obtain ⟨rfl, rfl, rfl, rfl, rfl⟩ := h
  exact lv_istore (x := Int32.ofInt x) hx hb hdg hl hc rfl (fun ls1 hl1 => kk H locs ls1 hP rfl hS (am_LR_s1 (v := (0, x)) hl1))
set_option maxHeartbeats 2000000 in
theorem am_t_lstore_n {k : Fin 4} (hx : p.tables.exec = Jvm.exec) (hb : c.code = cc) (hown : s.vm.findClass own = some m.cls) (hts : ∀ w ∈ am_good, w.before args s = true) (hnm : meth.name = nm) (hK : va_K D vwCl (am_tys cs) s) (hX : va_X b sn xs s s.heap) (hbb : b < base) (hbs : base ≤ s.heap.size) (hSR : am_SR S s) (h : am_stp sn (fun j => (xs j).toInt) (.lstore_n k, n, a, z) pc L st sh g = some (pc', L', st', sh', g')) (hdg : decode cc pc = .ok (.lstore_n k, n)) (hok : am_okI own nm pc (.lstore_n k, n, a, z)) (hl : am_LR base b S ls L) (hP : va_P D vwCl (am_ws base cs sh g) H) (hS : va_S (am_AA base) s.heap H locs) (kk : ∀ (H1 : Heap) (locs1 : List Loc) (ls1 : Array Slot), va_P D vwCl (am_ws base cs sh' g') H1 → H1.size = H.size → va_S (am_AA base) s.heap H1 locs1 → am_LR base b S ls1 L' → W p l e R s m args below meth c H1 locs1 cells slots Q (F0 m pc' ls1 (st'.map (am_cv base b S)))) : W p l e R s m args below meth c H locs cells slots Q (F0 m pc ls (st.map (am_cv base b S))) := by
  obtain ⟨hlen, hlk⟩ := hok
  have hn : n = 1 := hlen (fun q => by cases q)
  subst hn
  replace h := Option.bind_eq_some_iff.mp h
  obtain ⟨⟨x, t⟩, h1, h⟩ := h
  replace h1 := am_pp_iff.mp h1
  subst h1
  by_cases hc : (k : Nat) + 1 < L.length
  case neg => rw [if_neg hc] at h; cases h
  rw [if_pos hc] at h
  replace h := Option.some.inj h
  simp only [Prod.mk.injEq] at h
  obtain ⟨rfl, rfl, rfl, rfl, rfl⟩ := h
  exact lv_lstore_n (x := Int64.ofInt x) hx hb hdg rfl hl hc rfl (fun ls1 hl1 => kk H locs ls1 hP rfl hS (am_LR_s2 (v := (1, x)) hl1))
set_option maxHeartbeats 2000000 in
theorem am_t_lstore {k : Nat} (hx : p.tables.exec = Jvm.exec) (hb : c.code = cc) (hown : s.vm.findClass own = some m.cls) (hts : ∀ w ∈ am_good, w.before args s = true) (hnm : meth.name = nm) (hK : va_K D vwCl (am_tys cs) s) (hX : va_X b sn xs s s.heap) (hbb : b < base) (hbs : base ≤ s.heap.size) (hSR : am_SR S s) (h : am_stp sn (fun j => (xs j).toInt) (.lstore k, n, a, z) pc L st sh g = some (pc', L', st', sh', g')) (hdg : decode cc pc = .ok (.lstore k, n)) (hok : am_okI own nm pc (.lstore k, n, a, z)) (hl : am_LR base b S ls L) (hP : va_P D vwCl (am_ws base cs sh g) H) (hS : va_S (am_AA base) s.heap H locs) (kk : ∀ (H1 : Heap) (locs1 : List Loc) (ls1 : Array Slot), va_P D vwCl (am_ws base cs sh' g') H1 → H1.size = H.size → va_S (am_AA base) s.heap H1 locs1 → am_LR base b S ls1 L' → W p l e R s m args below meth c H1 locs1 cells slots Q (F0 m pc' ls1 (st'.map (am_cv base b S)))) : W p l e R s m args below meth c H locs cells slots Q (F0 m pc ls (st.map (am_cv base b S))) := by
  obtain ⟨hlen, hlk⟩ := hok
  have hn : n = 2 := hlen (fun q => by cases q)
  subst hn
  replace h := Option.bind_eq_some_iff.mp h
  obtain ⟨⟨x, t⟩, h1, h⟩ := h
  replace h1 := am_pp_iff.mp h1
  subst h1
  by_cases hc : k + 1 < L.length
  case neg => rw [if_neg hc] at h; cases h
  rw [if_pos hc] at h
  replace h := Option.some.inj h
  simp only [Prod.mk.injEq] at h
  obtain ⟨rfl, rfl, rfl, rfl, rfl⟩ := h
  exact lv_lstore (x := Int64.ofInt x) hx hb hdg hl hc rfl (fun ls1 hl1 => kk H locs ls1 hP rfl hS (am_LR_s2 (v := (1, x)) hl1))
set_option maxHeartbeats 2000000 in
theorem am_t_astore_n {k : Fin 4} (hx : p.tables.exec = Jvm.exec) (hb : c.code = cc) (hown : s.vm.findClass own = some m.cls) (hts : ∀ w ∈ am_good, w.before args s = true) (hnm : meth.name = nm) (hK : va_K D vwCl (am_tys cs) s) (hX : va_X b sn xs s s.heap) (hbb : b < base) (hbs : base ≤ s.heap.size) (hSR : am_SR S s) (h : am_stp sn (fun j => (xs j).toInt) (.astore_n k, n, a, z) pc L st sh g = some (pc', L', st', sh', g')) (hdg : decode cc pc = .ok (.astore_n k, n)) (hok : am_okI own nm pc (.astore_n k, n, a, z)) (hl : am_LR base b S ls L) (hP : va_P D vwCl (am_ws base cs sh g) H) (hS : va_S (am_AA base) s.heap H locs) (kk : ∀ (H1 : Heap) (locs1 : List Loc) (ls1 : Array Slot), va_P D vwCl (am_ws base cs sh' g') H1 → H1.size = H.size → va_S (am_AA base) s.heap H1 locs1 → am_LR base b S ls1 L' → W p l e R s m args below meth c H1 locs1 cells slots Q (F0 m pc' ls1 (st'.map (am_cv base b S)))) : W p l e R s m args below meth c H locs cells slots Q (F0 m pc ls (st.map (am_cv base b S))) := by
  obtain ⟨hlen, hlk⟩ := hok
  have hn : n = 1 := hlen (fun q => by cases q)
  subst hn
  cases st with
  | nil => cases h
  | cons v t =>
    simp only [am_stp] at h
    by_cases hc : am_isr v.1 = true ∧ (k : Nat) < L.length
    case neg => rw [if_neg hc] at h; cases h
    rw [if_pos hc] at h
    replace h := Option.some.inj h
    simp only [Prod.mk.injEq] at h
    obtain ⟨rfl, rfl, rfl, rfl, rfl⟩ := h
    obtain ⟨r, hr⟩ := am_cv_r (base := base) (b := b) (S := S) hc.1
    rw [List.map_cons, hr]
    exact lv_astore_n (x := r) hx hb hdg rfl hl hc.2 rfl (fun ls1 hl1 => kk H locs ls1 hP rfl hS (am_LR_s1 (by rw [hr]; exact hl1)))
set_option maxHeartbeats 2000000 in
theorem am_t_astore {k : Nat} (hx : p.tables.exec = Jvm.exec) (hb : c.code = cc) (hown : s.vm.findClass own = some m.cls) (hts : ∀ w ∈ am_good, w.before args s = true) (hnm : meth.name = nm) (hK : va_K D vwCl (am_tys cs) s) (hX : va_X b sn xs s s.heap) (hbb : b < base) (hbs : base ≤ s.heap.size) (hSR : am_SR S s) (h : am_stp sn (fun j => (xs j).toInt) (.astore k, n, a, z) pc L st sh g = some (pc', L', st', sh', g')) (hdg : decode cc pc = .ok (.astore k, n)) (hok : am_okI own nm pc (.astore k, n, a, z)) (hl : am_LR base b S ls L) (hP : va_P D vwCl (am_ws base cs sh g) H) (hS : va_S (am_AA base) s.heap H locs) (kk : ∀ (H1 : Heap) (locs1 : List Loc) (ls1 : Array Slot), va_P D vwCl (am_ws base cs sh' g') H1 → H1.size = H.size → va_S (am_AA base) s.heap H1 locs1 → am_LR base b S ls1 L' → W p l e R s m args below meth c H1 locs1 cells slots Q (F0 m pc' ls1 (st'.map (am_cv base b S)))) : W p l e R s m args below meth c H locs cells slots Q (F0 m pc ls (st.map (am_cv base b S))) := by
  obtain ⟨hlen, hlk⟩ := hok
  have hn : n = 2 := hlen (fun q => by cases q)
  subst hn
  cases st with
  | nil => cases h
  | cons v t =>
    simp only [am_stp] at h
    by_cases hc : am_isr v.1 = true ∧ k < L.length
    case neg => rw [if_neg hc] at h; cases h
    rw [if_pos hc] at h
    replace h := Option.some.inj h
    simp only [Prod.mk.injEq] at h
    obtain ⟨rfl, rfl, rfl, rfl, rfl⟩ := h
    obtain ⟨r, hr⟩ := am_cv_r (base := base) (b := b) (S := S) hc.1
    rw [List.map_cons, hr]
    exact lv_astore (x := r) hx hb hdg hl hc.2 rfl (fun ls1 hl1 => kk H locs ls1 hP rfl hS (am_LR_s1 (by rw [hr]; exact hl1)))
set_option maxHeartbeats 2000000 in
theorem am_t_iinc {k : Nat} {d : Int} (hx : p.tables.exec = Jvm.exec) (hb : c.code = cc) (hown : s.vm.findClass own = some m.cls) (hts : ∀ w ∈ am_good, w.before args s = true) (hnm : meth.name = nm) (hK : va_K D vwCl (am_tys cs) s) (hX : va_X b sn xs s s.heap) (hbb : b < base) (hbs : base ≤ s.heap.size) (hSR : am_SR S s) (h : am_stp sn (fun j => (xs j).toInt) (.iinc k d, n, a, z) pc L st sh g = some (pc', L', st', sh', g')) (hdg : decode cc pc = .ok (.iinc k d, n)) (hok : am_okI own nm pc (.iinc k d, n, a, z)) (hl : am_LR base b S ls L) (hP : va_P D vwCl (am_ws base cs sh g) H) (hS : va_S (am_AA base) s.heap H locs) (kk : ∀ (H1 : Heap) (locs1 : List Loc) (ls1 : Array Slot), va_P D vwCl (am_ws base cs sh' g') H1 → H1.size = H.size → va_S (am_AA base) s.heap H1 locs1 → am_LR base b S ls1 L' → W p l e R s m args below meth c H1 locs1 cells slots Q (F0 m pc' ls1 (st'.map (am_cv base b S)))) : W p l e R s m args below meth c H locs cells slots Q (F0 m pc ls (st.map (am_cv base b S))) := by
  obtain ⟨hlen, hlk⟩ := hok
  have hn : n = 3 := hlen (fun q => by cases q)
  subst hn
  replace h := Option.bind_eq_some_iff.mp h
  obtain ⟨⟨k1, x⟩, h1, h⟩ := h
  obtain ⟨h2, rfl⟩ := am_ld_i h1
  by_cases hc : k < L.length
  case neg => rw [if_neg hc] at h; cases h
  rw [if_pos hc] at h
  replace h := Option.some.inj h
  simp only [Prod.mk.injEq] at h
  obtain ⟨rfl, rfl, rfl, rfl, rfl⟩ := h
  have hm : (k, Value.int (Int32.ofInt x)) ∈ am_al base b S 0 L := (am_al_mem _ _).mpr ⟨k, (0, x), h2, (show (0 : Nat) ≠ 9 by decide), by simp [am_cv]⟩
  obtain ⟨j, hj⟩ := List.getElem?_of_mem hm
  exact lv_iinc (v := Int32.ofInt (x + d)) hx hb hdg hl hj (by rw [Int32.ofInt_add]) hc rfl (fun ls1 hl1 => kk H locs ls1 hP rfl hS (am_LR_s1 (v := (0, x + d)) hl1))
set_option maxHeartbeats 2000000 in
theorem am_t_iadd  (hx : p.tables.exec = Jvm.exec) (hb : c.code = cc) (hown : s.vm.findClass own = some m.cls) (hts : ∀ w ∈ am_good, w.before args s = true) (hnm : meth.name = nm) (hK : va_K D vwCl (am_tys cs) s) (hX : va_X b sn xs s s.heap) (hbb : b < base) (hbs : base ≤ s.heap.size) (hSR : am_SR S s) (h : am_stp sn (fun j => (xs j).toInt) (.iadd, n, a, z) pc L st sh g = some (pc', L', st', sh', g')) (hdg : decode cc pc = .ok (.iadd, n)) (hok : am_okI own nm pc (.iadd, n, a, z)) (hl : am_LR base b S ls L) (hP : va_P D vwCl (am_ws base cs sh g) H) (hS : va_S (am_AA base) s.heap H locs) (kk : ∀ (H1 : Heap) (locs1 : List Loc) (ls1 : Array Slot), va_P D vwCl (am_ws base cs sh' g') H1 → H1.size = H.size → va_S (am_AA base) s.heap H1 locs1 → am_LR base b S ls1 L' → W p l e R s m args below meth c H1 locs1 cells slots Q (F0 m pc' ls1 (st'.map (am_cv base b S)))) : W p l e R s m args below meth c H locs cells slots Q (F0 m pc ls (st.map (am_cv base b S))) := by
  obtain ⟨hlen, hlk⟩ := hok
  have hn : n = 1 := hlen (fun q => by cases q)
  subst hn
  obtain ⟨w, h1, h2⟩ := am_nx_i h
  obtain ⟨x, y, t, rfl, rfl⟩ := am_i2_i h1
  simp only [Prod.mk.injEq] at h2
  obtain ⟨rfl, rfl, rfl, rfl, rfl⟩ := h2
  have hk := kk H locs ls hP rfl hS hl
  simp only [List.map_cons, am_cv, if_true, Nat.one_ne_zero, if_false, Int32.ofInt_toInt, Int64.ofInt_toInt, Int32.ofInt_add] at hk ⊢
  exact lv_iadd hx hb hdg hk
set_option maxHeartbeats 2000000 in
theorem am_t_isub  (hx : p.tables.exec = Jvm.exec) (hb : c.code = cc) (hown : s.vm.findClass own = some m.cls) (hts : ∀ w ∈ am_good, w.before args s = true) (hnm : meth.name = nm) (hK : va_K D vwCl (am_tys cs) s) (hX : va_X b sn xs s s.heap) (hbb : b < base) (hbs : base ≤ s.heap.size) (hSR : am_SR S s) (h : am_stp sn (fun j => (xs j).toInt) (.isub, n, a, z) pc L st sh g = some (pc', L', st', sh', g')) (hdg : decode cc pc = .ok (.isub, n)) (hok : am_okI own nm pc (.isub, n, a, z)) (hl : am_LR base b S ls L) (hP : va_P D vwCl (am_ws base cs sh g) H) (hS : va_S (am_AA base) s.heap H locs) (kk : ∀ (H1 : Heap) (locs1 : List Loc) (ls1 : Array Slot), va_P D vwCl (am_ws base cs sh' g') H1 → H1.size = H.size → va_S (am_AA base) s.heap H1 locs1 → am_LR base b S ls1 L' → W p l e R s m args below meth c H1 locs1 cells slots Q (F0 m pc' ls1 (st'.map (am_cv base b S)))) : W p l e R s m args below meth c H locs cells slots Q (F0 m pc ls (st.map (am_cv base b S))) := by
  obtain ⟨hlen, hlk⟩ := hok
  have hn : n = 1 := hlen (fun q => by cases q)
  subst hn
  obtain ⟨w, h1, h2⟩ := am_nx_i h
  obtain ⟨x, y, t, rfl, rfl⟩ := am_i2_i h1
  simp only [Prod.mk.injEq] at h2
  obtain ⟨rfl, rfl, rfl, rfl, rfl⟩ := h2
  have hk := kk H locs ls hP rfl hS hl
  simp only [List.map_cons, am_cv, if_true, Nat.one_ne_zero, if_false, Int32.ofInt_toInt, Int64.ofInt_toInt, Int32.ofInt_sub] at hk ⊢
  exact lv_isub hx hb hdg hk
set_option maxHeartbeats 2000000 in
theorem am_t_imul  (hx : p.tables.exec = Jvm.exec) (hb : c.code = cc) (hown : s.vm.findClass own = some m.cls) (hts : ∀ w ∈ am_good, w.before args s = true) (hnm : meth.name = nm) (hK : va_K D vwCl (am_tys cs) s) (hX : va_X b sn xs s s.heap) (hbb : b < base) (hbs : base ≤ s.heap.size) (hSR : am_SR S s) (h : am_stp sn (fun j => (xs j).toInt) (.imul, n, a, z) pc L st sh g = some (pc', L', st', sh', g')) (hdg : decode cc pc = .ok (.imul, n)) (hok : am_okI own nm pc (.imul, n, a, z)) (hl : am_LR base b S ls L) (hP : va_P D vwCl (am_ws base cs sh g) H) (hS : va_S (am_AA base) s.heap H locs) (kk : ∀ (H1 : Heap) (locs1 : List Loc) (ls1 : Array Slot), va_P D vwCl (am_ws base cs sh' g') H1 → H1.size = H.size → va_S (am_AA base) s.heap H1 locs1 → am_LR base b S ls1 L' → W p l e R s m args below meth c H1 locs1 cells slots Q (F0 m pc' ls1 (st'.map (am_cv base b S)))) : W p l e R s m args below meth c H locs cells slots Q (F0 m pc ls (st.map (am_cv base b S))) := by
  obtain ⟨hlen, hlk⟩ := hok
  have hn : n = 1 := hlen (fun q => by cases q)
  subst hn
  obtain ⟨w, h1, h2⟩ := am_nx_i h
  obtain ⟨x, y, t, rfl, rfl⟩ := am_i2_i h1
  simp only [Prod.mk.injEq] at h2
  obtain ⟨rfl, rfl, rfl, rfl, rfl⟩ := h2
  have hk := kk H locs ls hP rfl hS hl
  simp only [List.map_cons, am_cv, if_true, Nat.one_ne_zero, if_false, Int32.ofInt_toInt, Int64.ofInt_toInt, Int32.ofInt_mul] at hk ⊢
  exact lv_imul hx hb hdg hk
set_option maxHeartbeats 2000000 in
theorem am_t_ineg  (hx : p.tables.exec = Jvm.exec) (hb : c.code = cc) (hown : s.vm.findClass own = some m.cls) (hts : ∀ w ∈ am_good, w.before args s = true) (hnm : meth.name = nm) (hK : va_K D vwCl (am_tys cs) s) (hX : va_X b sn xs s s.heap) (hbb : b < base) (hbs : base ≤ s.heap.size) (hSR : am_SR S s) (h : am_stp sn (fun j => (xs j).toInt) (.ineg, n, a, z) pc L st sh g = some (pc', L', st', sh', g')) (hdg : decode cc pc = .ok (.ineg, n)) (hok : am_okI own nm pc (.ineg, n, a, z)) (hl : am_LR base b S ls L) (hP : va_P D vwCl (am_ws base cs sh g) H) (hS : va_S (am_AA base) s.heap H locs) (kk : ∀ (H1 : Heap) (locs1 : List Loc) (ls1 : Array Slot), va_P D vwCl (am_ws base cs sh' g') H1 → H1.size = H.size → va_S (am_AA base) s.heap H1 locs1 → am_LR base b S ls1 L' → W p l e R s m args below meth c H1 locs1 cells slots Q (F0 m pc' ls1 (st'.map (am_cv base b S)))) : W p l e R s m args below meth c H locs cells slots Q (F0 m pc ls (st.map (am_cv base b S))) := by
  obtain ⟨hlen, hlk⟩ := hok
  have hn : n = 1 := hlen (fun q => by cases q)
  subst hn
  obtain ⟨w, h1, h2⟩ := am_nx_i h
  obtain ⟨x, t, rfl, rfl⟩ := am_i1_i h1
  simp only [Prod.mk.injEq] at h2
  obtain ⟨rfl, rfl, rfl, rfl, rfl⟩ := h2
  have hk := kk H locs ls hP rfl hS hl
  simp only [List.map_cons, am_cv, if_true, Nat.one_ne_zero, if_false, Int32.ofInt_toInt, Int64.ofInt_toInt, Int32.ofInt_neg] at hk ⊢
  exact lv_ineg hx hb hdg hk
set_option maxHeartbeats 2000000 in
theorem am_t_iand  (hx : p.tables.exec = Jvm.exec) (hb : c.code = cc) (hown : s.vm.findClass own = some m.cls) (hts : ∀ w ∈ am_good, w.before args s = true) (hnm : meth.name = nm) (hK : va_K D vwCl (am_tys cs) s) (hX : va_X b sn xs s s.heap) (hbb : b < base) (hbs : base ≤ s.heap.size) (hSR : am_SR S s) (h : am_stp sn (fun j => (xs j).toInt) (.iand, n, a, z) pc L st sh g = some (pc', L', st', sh', g')) (hdg : decode cc pc = .ok (.iand, n)) (hok : am_okI own nm pc (.iand, n, a, z)) (hl : am_LR base b S ls L) (hP : va_P D vwCl (am_ws base cs sh g) H) (hS : va_S (am_AA base) s.heap H locs) (kk : ∀ (H1 : Heap) (locs1 : List Loc) (ls1 : Array Slot), va_P D vwCl (am_ws base cs sh' g') H1 → H1.size = H.size → va_S (am_AA base) s.heap H1 locs1 → am_LR base b S ls1 L' → W p l e R s m args below meth c H1 locs1 cells slots Q (F0 m pc' ls1 (st'.map (am_cv base b S)))) : W p l e R s m args below meth c H locs cells slots Q (F0 m pc ls (st.map (am_cv base b S))) := by
  obtain ⟨hlen, hlk⟩ := hok
  have hn : n = 1 := hlen (fun q => by cases q)
  subst hn
  obtain ⟨w, h1, h2⟩ := am_nx_i h
  obtain ⟨x, y, t, rfl, rfl⟩ := am_i2_i h1
  simp only [Prod.mk.injEq] at h2
  obtain ⟨rfl, rfl, rfl, rfl, rfl⟩ := h2
  have hk := kk H locs ls hP rfl hS hl
  simp only [List.map_cons, am_cv, if_true, Nat.one_ne_zero, if_false, Int32.ofInt_toInt, Int64.ofInt_toInt] at hk ⊢
  exact lv_iand hx hb hdg hk
set_option maxHeartbeats 2000000 in
theorem am_t_ior  (hx : p.tables.exec = Jvm.exec) (hb : c.code = cc) (hown : s.vm.findClass own = some m.cls) (hts : ∀ w ∈ am_good, w.before args s = true) (hnm : meth.name = nm) (hK : va_K D vwCl (am_tys cs) s) (hX : va_X b sn xs s s.heap) (hbb : b < base) (hbs : base ≤ s.heap.size) (hSR : am_SR S s) (h : am_stp sn (fun j => (xs j).toInt) (.ior, n, a, z) pc L st sh g = some (pc', L', st', sh', g')) (hdg : decode cc pc = .ok (.ior, n)) (hok : am_okI own nm pc (.ior, n, a, z)) (hl : am_LR base b S ls L) (hP : va_P D vwCl (am_ws base cs sh g) H) (hS : va_S (am_AA base) s.heap H locs) (kk : ∀ (H1 : Heap) (locs1 : List Loc) (ls1 : Array Slot), va_P D vwCl (am_ws base cs sh' g') H1 → H1.size = H.size → va_S (am_AA base) s.heap H1 locs1 → am_LR base b S ls1 L' → W p l e R s m args below meth c H1 locs1 cells slots Q (F0 m pc' ls1 (st'.map (am_cv base b S)))) : W p l e R s m args below meth c H locs cells slots Q (F0 m pc ls (st.map (am_cv base b S))) := by
  obtain ⟨hlen, hlk⟩ := hok
  have hn : n = 1 := hlen (fun q => by cases q)
  subst hn
  obtain ⟨w, h1, h2⟩ := am_nx_i h
  obtain ⟨x, y, t, rfl, rfl⟩ := am_i2_i h1
  simp only [Prod.mk.injEq] at h2
  obtain ⟨rfl, rfl, rfl, rfl, rfl⟩ := h2
  have hk := kk H locs ls hP rfl hS hl
  simp only [List.map_cons, am_cv, if_true, Nat.one_ne_zero, if_false, Int32.ofInt_toInt, Int64.ofInt_toInt] at hk ⊢
  exact lv_ior hx hb hdg hk
set_option maxHeartbeats 2000000 in
theorem am_t_ixor  (hx : p.tables.exec = Jvm.exec) (hb : c.code = cc) (hown : s.vm.findClass own = some m.cls) (hts : ∀ w ∈ am_good, w.before args s = true) (hnm : meth.name = nm) (hK : va_K D vwCl (am_tys cs) s) (hX : va_X b sn xs s s.heap) (hbb : b < base) (hbs : base ≤ s.heap.size) (hSR : am_SR S s) (h : am_stp sn (fun j => (xs j).toInt) (.ixor, n, a, z) pc L st sh g = some (pc', L', st', sh', g')) (hdg : decode cc pc = .ok (.ixor, n)) (hok : am_okI own nm pc (.ixor, n, a, z)) (hl : am_LR base b S ls L) (hP : va_P D vwCl (am_ws base cs sh g) H) (hS : va_S (am_AA base) s.heap H locs) (kk : ∀ (H1 : Heap) (locs1 : List Loc) (ls1 : Array Slot), va_P D vwCl (am_ws base cs sh' g') H1 → H1.size = H.size → va_S (am_AA base) s.heap H1 locs1 → am_LR base b S ls1 L' → W p l e R s m args below meth c H1 locs1 cells slots Q (F0 m pc' ls1 (st'.map (am_cv base b S)))) : W p l e R s m args below meth c H locs cells slots Q (F0 m pc ls (st.map (am_cv base b S))) := by
  obtain ⟨hlen, hlk⟩ := hok
  have hn : n = 1 := hlen (fun q => by cases q)
  subst hn
  obtain ⟨w, h1, h2⟩ := am_nx_i h
  obtain ⟨x, y, t, rfl, rfl⟩ := am_i2_i h1
  simp only [Prod.mk.injEq] at h2
  obtain ⟨rfl, rfl, rfl, rfl, rfl⟩ := h2
  have hk := kk H locs ls hP rfl hS hl
  simp only [List.map_cons, am_cv, if_true, Nat.one_ne_zero, if_false, Int32.ofInt_toInt, Int64.ofInt_toInt] at hk ⊢
  exact lv_ixor hx hb hdg hk
set_option maxHeartbeats 2000000 in
theorem am_t_ishl  (hx : p.tables.exec = Jvm.exec) (hb : c.code = cc) (hown : s.vm.findClass own = some m.cls) (hts : ∀ w ∈ am_good, w.before args s = true) (hnm : meth.name = nm) (hK : va_K D vwCl (am_tys cs) s) (hX : va_X b sn xs s s.heap) (hbb : b < base) (hbs : base ≤ s.heap.size) (hSR : am_SR S s) (h : am_stp sn (fun j => (xs j).toInt) (.ishl, n, a, z) pc L st sh g = some (pc', L', st', sh', g')) (hdg : decode cc pc = .ok (.ishl, n)) (hok : am_okI own nm pc (.ishl, n, a, z)) (hl : am_LR base b S ls L) (hP : va_P D vwCl (am_ws base cs sh g) H) (hS : va_S (am_AA base) s.heap H locs) (kk : ∀ (H1 : Heap) (locs1 : List Loc) (ls1 : Array Slot), va_P D vwCl (am_ws base cs sh' g') H1 → H1.size = H.size → va_S (am_AA base) s.heap H1 locs1 → am_LR base b S ls1 L' → W p l e R s m args below meth c H1 locs1 cells slots Q (F0 m pc' ls1 (st'.map (am_cv base b S)))) : W p l e R s m args below meth c H locs cells slots Q (F0 m pc ls (st.map (am_cv base b S))) := by
  obtain ⟨hlen, hlk⟩ := hok
  have hn : n = 1 := hlen (fun q => by cases q)
  subst hn
  obtain ⟨w, h1, h2⟩ := am_nx_i h
  obtain ⟨x, y, t, rfl, rfl⟩ := am_i2_i h1
  simp only [Prod.mk.injEq] at h2
  obtain ⟨rfl, rfl, rfl, rfl, rfl⟩ := h2
  have hk := kk H locs ls hP rfl hS hl
  simp only [List.map_cons, am_cv, if_true, Nat.one_ne_zero, if_false, Int32.ofInt_toInt, Int64.ofInt_toInt] at hk ⊢
  exact lv_ishl hx hb hdg hk
set_option maxHeartbeats 2000000 in
theorem am_t_ishr  (hx : p.tables.exec = Jvm.exec) (hb : c.code = cc) (hown : s.vm.findClass own = some m.cls) (hts : ∀ w ∈ am_good, w.before args s = true) (hnm : meth.name = nm) (hK : va_K D vwCl (am_tys cs) s) (hX : va_X b sn xs s s.heap) (hbb : b < base) (hbs : base ≤ s.heap.size) (hSR : am_SR S s) (h : am_stp sn (fun j => (xs j).toInt) (.ishr, n, a, z) pc L st sh g = some (pc', L', st', sh', g')) (hdg : decode cc pc = .ok (.ishr, n)) (hok : am_okI own nm pc (.ishr, n, a, z)) (hl : am_LR base b S ls L) (hP : va_P D vwCl (am_ws base cs sh g) H) (hS : va_S (am_AA base) s.heap H locs) (kk : ∀ (H1 : Heap) (locs1 : List Loc) (ls1 : Array Slot), va_P D vwCl (am_ws base cs sh' g') H1 → H1.size = H.size → va_S (am_AA base) s.heap H1 locs1 → am_LR base b S ls1 L' → W p l e R s m args below meth c H1 locs1 cells slots Q (F0 m pc' ls1 (st'.map (am_cv base b S)))) : W p l e R s m args below meth c H locs cells slots Q (F0 m pc ls (st.map (am_cv base b S))) := by
  obtain ⟨hlen, hlk⟩ := hok
  have hn : n = 1 := hlen (fun q => by cases q)
  subst hn
  obtain ⟨w, h1, h2⟩ := am_nx_i h
  obtain ⟨x, y, t, rfl, rfl⟩ := am_i2_i h1
  simp only [Prod.mk.injEq] at h2
  obtain ⟨rfl, rfl, rfl, rfl, rfl⟩ := h2
  have hk := kk H locs ls hP rfl hS hl
  simp only [List.map_cons, am_cv, if_true, Nat.one_ne_zero, if_false, Int32.ofInt_toInt, Int64.ofInt_toInt] at hk ⊢
  exact lv_ishr hx hb hdg hk
set_option maxHeartbeats 2000000 in
theorem am_t_iushr  (hx : p.tables.exec = Jvm.exec) (hb : c.code = cc) (hown : s.vm.findClass own = some m.cls) (hts : ∀ w ∈ am_good, w.before args s = true) (hnm : meth.name = nm) (hK : va_K D vwCl (am_tys cs) s) (hX : va_X b sn xs s s.heap) (hbb : b < base) (hbs : base ≤ s.heap.size) (hSR : am_SR S s) (h : am_stp sn (fun j => (xs j).toInt) (.iushr, n, a, z) pc L st sh g = some (pc', L', st', sh', g')) (hdg : decode cc pc = .ok (.iushr, n)) (hok : am_okI own nm pc (.iushr, n, a, z)) (hl : am_LR base b S ls L) (hP : va_P D vwCl (am_ws base cs sh g) H) (hS : va_S (am_AA base) s.heap H locs) (kk : ∀ (H1 : Heap) (locs1 : List Loc) (ls1 : Array Slot), va_P D vwCl (am_ws base cs sh' g') H1 → H1.size = H.size → va_S (am_AA base) s.heap H1 locs1 → am_LR base b S ls1 L' → W p l e R s m args below meth c H1 locs1 cells slots Q (F0 m pc' ls1 (st'.map (am_cv base b S)))) : W p l e R s m args below meth c H locs cells slots Q (F0 m pc ls (st.map (am_cv base b S))) := by
  obtain ⟨hlen, hlk⟩ := hok
  have hn : n = 1 := hlen (fun q => by cases q)
  subst hn
  obtain ⟨w, h1, h2⟩ := am_nx_i h
  obtain ⟨x, y, t, rfl, rfl⟩ := am_i2_i h1
  simp only [Prod.mk.injEq] at h2
  obtain ⟨rfl, rfl, rfl, rfl, rfl⟩ := h2
  have hk := kk H locs ls hP rfl hS hl
  simp only [List.map_cons, am_cv, if_true, Nat.one_ne_zero, if_false, Int32.ofInt_toInt, Int64.ofInt_toInt] at hk ⊢
  exact lv_iushr hx hb hdg rfl hk
set_option maxHeartbeats 2000000 in
theorem am_t_ladd  (hx : p.tables.exec = Jvm.exec) (hb : c.code = cc) (hown : s.vm.findClass own = some m.cls) (hts : ∀ w ∈ am_good, w.before args s = true) (hnm : meth.name = nm) (hK : va_K D vwCl (am_tys cs) s) (hX : va_X b sn xs s s.heap) (hbb : b < base) (hbs : base ≤ s.heap.size) (hSR : am_SR S s) (h : am_stp sn (fun j => (xs j).toInt) (.ladd, n, a, z) pc L st sh g = some (pc', L', st', sh', g')) (hdg : decode cc pc = .ok (.ladd, n)) (hok : am_okI own nm pc (.ladd, n, a, z)) (hl : am_LR base b S ls L) (hP : va_P D vwCl (am_ws base cs sh g) H) (hS : va_S (am_AA base) s.heap H locs) (kk : ∀ (H1 : Heap) (locs1 : List Loc) (ls1 : Array Slot), va_P D vwCl (am_ws base cs sh' g') H1 → H1.size = H.size → va_S (am_AA base) s.heap H1 locs1 → am_LR base b S ls1 L' → W p l e R s m args below meth c H1 locs1 cells slots Q (F0 m pc' ls1 (st'.map (am_cv base b S)))) : W p l e R s m args below meth c H locs cells slots Q (F0 m pc ls (st.map (am_cv base b S))) := by
  obtain ⟨hlen, hlk⟩ := hok
  have hn : n = 1 := hlen (fun q => by cases q)
  subst hn
  obtain ⟨w, h1, h2⟩ := am_nx_i h
  obtain ⟨x, y, t, rfl, rfl⟩ := am_l2_i h1
  simp only [Prod.mk.injEq] at h2
  obtain ⟨rfl, rfl, rfl, rfl, rfl⟩ := h2
  have hk := kk H locs ls hP rfl hS hl
  simp only [List.map_cons, am_cv, if_true, Nat.one_ne_zero, if_false, Int32.ofInt_toInt, Int64.ofInt_toInt, Int64.ofInt_add] at hk ⊢
  exact lv_ladd hx hb hdg hk
set_option maxHeartbeats 2000000 in
theorem am_t_lsub  (hx : p.tables.exec = Jvm.exec) (hb : c.code = cc) (hown : s.vm.findClass own = some m.cls) (hts : ∀ w ∈ am_good, w.before args s = true) (hnm : meth.name = nm) (hK : va_K D vwCl (am_tys cs) s) (hX : va_X b sn xs s s.heap) (hbb : b < base) (hbs : base ≤ s.heap.size) (hSR : am_SR S s) (h : am_stp sn (fun j => (xs j).toInt) (.lsub, n, a, z) pc L st sh g = some (pc', L', st', sh', g')) (hdg : decode cc pc = .ok (.lsub, n)) (hok : am_okI own nm pc (.lsub, n, a, z)) (hl : am_LR base b S ls L) (hP : va_P D vwCl (am_ws base cs sh g) H) (hS : va_S (am_AA base) s.heap H locs) (kk : ∀ (H1 : Heap) (locs1 : List Loc) (ls1 : Array Slot), va_P D vwCl (am_ws base cs sh' g') H1 → H1.size = H.size → va_S (am_AA base) s.heap H1 locs1 → am_LR base b S ls1 L' → W p l e R s m args below meth c H1 locs1 cells slots Q (F0 m pc' ls1 (st'.map (am_cv base b S)))) : W p l e R s m args below meth c H locs cells slots Q (F0 m pc ls (st.map (am_cv base b S))) := by
  obtain ⟨hlen, hlk⟩ := hok
  have hn : n = 1 := hlen (fun q => by cases q)
  subst hn
  obtain ⟨w, h1, h2⟩ := am_nx_i h
  obtain ⟨x, y, t, rfl, rfl⟩ := am_l2_i h1
  simp only [Prod.mk.injEq] at h2
  obtain ⟨rfl, rfl, rfl, rfl, rfl⟩ := h2
  have hk := kk H locs ls hP rfl hS hl
  simp only [List.map_cons, am_cv, if_true, Nat.one_ne_zero, if_false, Int32.ofInt_toInt, Int64.ofInt_toInt, Int64.ofInt_sub] at hk ⊢
  exact lv_lsub hx hb hdg hk
set_option maxHeartbeats 2000000 in
theorem am_t_lmul  (hx : p.tables.exec = Jvm.exec) (hb : c.code = cc) (hown : s.vm.findClass own = some m.cls) (hts : ∀ w ∈ am_good, w.before args s = true) (hnm : meth.name = nm) (hK : va_K D vwCl (am_tys cs) s) (hX : va_X b sn xs s s.heap) (hbb : b < base) (hbs : base ≤ s.heap.size) (hSR : am_SR S s) (h : am_stp sn (fun j => (xs j).toInt) (.lmul, n, a, z) pc L st sh g = some (pc', L', st', sh', g')) (hdg : decode cc pc = .ok (.lmul, n)) (hok : am_okI own nm pc (.lmul, n, a, z)) (hl : am_LR base b S ls L) (hP : va_P D vwCl (am_ws base cs sh g) H) (hS : va_S (am_AA base) s.heap H locs) (kk : ∀ (H1 : Heap) (locs1 : List Loc) (ls1 : Array Slot), va_P D vwCl (am_ws base cs sh' g') H1 → H1.size = H.size → va_S (am_AA base) s.heap H1 locs1 → am_LR base b S ls1 L' → W p l e R s m args below meth c H1 locs1 cells slots Q (F0 m pc' ls1 (st'.map (am_cv base b S)))) : W p l e R s m args below meth c H locs cells slots Q (F0 m pc ls (st.map (am_cv base b S))) := by
  obtain ⟨hlen, hlk⟩ := hok
  have hn : n = 1 := hlen (fun q => by cases q)
  subst hn
  obtain ⟨w, h1, h2⟩ := am_nx_i h
  obtain ⟨x, y, t, rfl, rfl⟩ := am_l2_i h1
  simp only [Prod.mk.injEq] at h2
  obtain ⟨rfl, rfl, rfl, rfl, rfl⟩ := h2
  have hk := kk H locs ls hP rfl hS hl
  simp only [List.map_cons, am_cv, if_true, Nat.one_ne_zero, if_false, Int32.ofInt_toInt, Int64.ofInt_toInt, Int64.ofInt_mul] at hk ⊢
  exact lv_lmul hx hb hdg hk
set_option maxHeartbeats 2000000 in
theorem am_t_lneg  (hx : p.tables.exec = Jvm.exec) (hb : c.code = cc) (hown : s.vm.findClass own = some m.cls) (hts : ∀ w ∈ am_good, w.before args s = true) (hnm : meth.name = nm) (hK : va_K D vwCl (am_tys cs) s) (hX : va_X b sn xs s s.heap) (hbb : b < base) (hbs : base ≤ s.heap.size) (hSR : am_SR S s) (h : am_stp sn (fun j => (xs j).toInt) (.lneg, n, a, z) pc L st sh g = some (pc', L', st', sh', g')) (hdg : decode cc pc = .ok (.lneg, n)) (hok : am_okI own nm pc (.lneg, n, a, z)) (hl : am_LR base b S ls L) (hP : va_P D vwCl (am_ws base cs sh g) H) (hS : va_S (am_AA base) s.heap H locs) (kk : ∀ (H1 : Heap) (locs1 : List Loc) (ls1 : Array Slot), va_P D vwCl (am_ws base cs sh' g') H1 → H1.size = H.size → va_S (am_AA base) s.heap H1 locs1 → am_LR base b S ls1 L' → W p l e R s m args below meth c H1 locs1 cells slots Q (F0 m pc' ls1 (st'.map (am_cv base b S)))) : W p l e R s m args below meth c H locs cells slots Q (F0 m pc ls (st.map (am_cv base b S))) := by
  obtain ⟨hlen, hlk⟩ := hok
  have hn : n = 1 := hlen (fun q => by cases q)
  subst hn
  obtain ⟨w, h1, h2⟩ := am_nx_i h
  obtain ⟨x, t, rfl, rfl⟩ := am_l1_i h1
  simp only [Prod.mk.injEq] at h2
  obtain ⟨rfl, rfl, rfl, rfl, rfl⟩ := h2
  have hk := kk H locs ls hP rfl hS hl
  simp only [List.map_cons, am_cv, if_true, Nat.one_ne_zero, if_false, Int32.ofInt_toInt, Int64.ofInt_toInt, Int64.ofInt_neg] at hk ⊢
  exact lv_lneg hx hb hdg hk
set_option maxHeartbeats 2000000 in
theorem am_t_land  (hx : p.tables.exec = Jvm.exec) (hb : c.code = cc) (hown : s.vm.findClass own = some m.cls) (hts : ∀ w ∈ am_good, w.before args s = true) (hnm : meth.name = nm) (hK : va_K D vwCl (am_tys cs) s) (hX : va_X b sn xs s s.heap) (hbb : b < base) (hbs : base ≤ s.heap.size) (hSR : am_SR S s) (h : am_stp sn (fun j => (xs j).toInt) (.land, n, a, z) pc L st sh g = some (pc', L', st', sh', g')) (hdg : decode cc pc = .ok (.land, n)) (hok : am_okI own nm pc (.land, n, a, z)) (hl : am_LR base b S ls L) (hP : va_P D vwCl (am_ws base cs sh g) H) (hS : va_S (am_AA base) s.heap H locs) (kk : ∀ (H1 : Heap) (locs1 : List Loc) (ls1 : Array Slot), va_P D vwCl (am_ws base cs sh' g') H1 → H1.size = H.size → va_S (am_AA base) s.heap H1 locs1 → am_LR base b S ls1 L' → W p l e R s m args below meth c H1 locs1 cells slots Q (F0 m pc' ls1 (st'.map (am_cv base b S)))) : W p l e R s m args below meth c H locs cells slots Q (F0 m pc ls (st.map (am_cv base b S))) := by
  obtain ⟨hlen, hlk⟩ := hok
  have hn : n = 1 := hlen (fun q => by cases q)
  subst hn
  obtain ⟨w, h1, h2⟩ := am_nx_i h
  obtain ⟨x, y, t, rfl, rfl⟩ := am_l2_i h1
  simp only [Prod.mk.injEq] at h2
  obtain ⟨rfl, rfl, rfl, rfl, rfl⟩ := h2
  have hk := kk H locs ls hP rfl hS hl
  simp only [List.map_cons, am_cv, if_true, Nat.one_ne_zero, if_false, Int32.ofInt_toInt, Int64.ofInt_toInt] at hk ⊢
  exact lv_land hx hb hdg hk
set_option maxHeartbeats 2000000 in
theorem am_t_lor  (hx : p.tables.exec = Jvm.exec) (hb : c.code = cc) (hown : s.vm.findClass own = some m.cls) (hts : ∀ w ∈ am_good, w.before args s = true) (hnm : meth.name = nm) (hK : va_K D vwCl (am_tys cs) s) (hX : va_X b sn xs s s.heap) (hbb : b < base) (hbs : base ≤ s.heap.size) (hSR : am_SR S s) (h : am_stp sn (fun j => (xs j).toInt) (.lor, n, a, z) pc L st sh g = some (pc', L', st', sh', g')) (hdg : decode cc pc = .ok (.lor, n)) (hok : am_okI own nm pc (.lor, n, a, z)) (hl : am_LR base b S ls L) (hP : va_P D vwCl (am_ws base cs sh g) H) (hS : va_S (am_AA base) s.heap H locs) (kk : ∀ (H1 : Heap) (locs1 : List Loc) (ls1 : Array Slot), va_P D vwCl (am_ws base cs sh' g') H1 → H1.size = H.size → va_S (am_AA base) s.heap H1 locs1 → am_LR base b S ls1 L' → W p l e R s m args below meth c H1 locs1 cells slots Q (F0 m pc' ls1 (st'.map (am_cv base b S)))) : W p l e R s m args below meth c H locs cells slots Q (F0 m pc ls (st.map (am_cv base b S))) := by
  obtain ⟨hlen, hlk⟩ := hok
  have hn : n = 1 := hlen (fun q => by cases q)
  subst hn
  obtain ⟨w, h1, h2⟩ := am_nx_i h
  obtain ⟨x, y, t, rfl, rfl⟩ := am_l2_i h1
  simp only [Prod.mk.injEq] at h2
  obtain ⟨rfl, rfl, rfl, rfl, rfl⟩ := h2
  have hk := kk H locs ls hP rfl hS hl
  simp only [List.map_cons, am_cv, if_true, Nat.one_ne_zero, if_false, Int32.ofInt_toInt, Int64.ofInt_toInt] at hk ⊢
  exact lv_lor hx hb hdg hk
set_option maxHeartbeats 2000000 in
theorem am_t_lshl  (hx : p.tables.exec = Jvm.exec) (hb : c.code = cc) (hown : s.vm.findClass own = some m.cls) (hts : ∀ w ∈ am_good, w.before args s = true) (hnm : meth.name = nm) (hK : va_K D vwCl (am_tys cs) s) (hX : va_X b sn xs s s.heap) (hbb : b < base) (hbs : base ≤ s.heap.size) (hSR : am_SR S s) (h : am_stp sn (fun j => (xs j).toInt) (.lshl, n, a, z) pc L st sh g = some (pc', L', st', sh', g')) (hdg : decode cc pc = .ok (.lshl, n)) (hok : am_okI own nm pc (.lshl, n, a, z)) (hl : am_LR base b S ls L) (hP : va_P D vwCl (am_ws base cs sh g) H) (hS : va_S (am_AA base) s.heap H locs) (kk : ∀ (H1 : Heap) (locs1 : List Loc) (ls1 : Array Slot), va_P D vwCl (am_ws base cs sh' g') H1 → H1.size = H.size → va_S (am_AA base) s.heap H1 locs1 → am_LR base b S ls1 L' → W p l e R s m args below meth c H1 locs1 cells slots Q (F0 m pc' ls1 (st'.map (am_cv base b S)))) : W p l e R s m args below meth c H locs cells slots Q (F0 m pc ls (st.map (am_cv base b S))) := by
  obtain ⟨hlen, hlk⟩ := hok
  have hn : n = 1 := hlen (fun q => by cases q)
  subst hn
  obtain ⟨w, h1, h2⟩ := am_nx_i h
  obtain ⟨x, y, t, rfl, rfl⟩ := am_ls_i h1
  simp only [Prod.mk.injEq] at h2
  obtain ⟨rfl, rfl, rfl, rfl, rfl⟩ := h2
  have hk := kk H locs ls hP rfl hS hl
  simp only [List.map_cons, am_cv, if_true, Nat.one_ne_zero, if_false, Int32.ofInt_toInt, Int64.ofInt_toInt] at hk ⊢
  exact lv_lshl hx hb hdg rfl hk
set_option maxHeartbeats 2000000 in
theorem am_t_lshr  (hx : p.tables.exec = Jvm.exec) (hb : c.code = cc) (hown : s.vm.findClass own = some m.cls) (hts : ∀ w ∈ am_good, w.before args s = true) (hnm : meth.name = nm) (hK : va_K D vwCl (am_tys cs) s) (hX : va_X b sn xs s s.heap) (hbb : b < base) (hbs : base ≤ s.heap.size) (hSR : am_SR S s) (h : am_stp sn (fun j => (xs j).toInt) (.lshr, n, a, z) pc L st sh g = some (pc', L', st', sh', g')) (hdg : decode cc pc = .ok (.lshr, n)) (hok : am_okI own nm pc (.lshr, n, a, z)) (hl : am_LR base b S ls L) (hP : va_P D vwCl (am_ws base cs sh g) H) (hS : va_S (am_AA base) s.heap H locs) (kk : ∀ (H1 : Heap) (locs1 : List Loc) (ls1 : Array Slot), va_P D vwCl (am_ws base cs sh' g') H1 → H1.size = H.size → va_S (am_AA base) s.heap H1 locs1 → am_LR base b S ls1 L' → W p l e R s m args below meth c H1 locs1 cells slots Q (F0 m pc' ls1 (st'.map (am_cv base b S)))) : W p l e R s m args below meth c H locs cells slots Q (F0 m pc ls (st.map (am_cv base b S))) := by
  obtain ⟨hlen, hlk⟩ := hok
  have hn : n = 1 := hlen (fun q => by cases q)
  subst hn
  obtain ⟨w, h1, h2⟩ := am_nx_i h
  obtain ⟨x, y, t, rfl, rfl⟩ := am_ls_i h1
  simp only [Prod.mk.injEq] at h2
  obtain ⟨rfl, rfl, rfl, rfl, rfl⟩ := h2
  have hk := kk H locs ls hP rfl hS hl
  simp only [List.map_cons, am_cv, if_true, Nat.one_ne_zero, if_false, Int32.ofInt_toInt, Int64.ofInt_toInt] at hk ⊢
  exact lv_lshr hx hb hdg rfl hk
set_option maxHeartbeats 2000000 in
theorem am_t_lushr  (hx : p.tables.exec = Jvm.exec) (hb : c.code = cc) (hown : s.vm.findClass own = some m.cls) (hts : ∀ w ∈ am_good, w.before args s = true) (hnm : meth.name = nm) (hK : va_K D vwCl (am_tys cs) s) (hX : va_X b sn xs s s.heap) (hbb : b < base) (hbs : base ≤ s.heap.size) (hSR : am_SR S s) (h : am_stp sn (fun j => (xs j).toInt) (.lushr, n, a, z) pc L st sh g = some (pc', L', st', sh', g')) (hdg : decode cc pc = .ok (.lushr, n)) (hok : am_okI own nm pc (.lushr, n, a, z)) (hl : am_LR base b S ls L) (hP : va_P D vwCl (am_ws base cs sh g) H) (hS : va_S (am_AA base) s.heap H locs) (kk : ∀ (H1 : Heap) (locs1 : List Loc) (ls1 : Array Slot), va_P D vwCl (am_ws base cs sh' g') H1 → H1.size = H.size → va_S (am_AA base) s.heap H1 locs1 → am_LR base b S ls1 L' → W p l e R s m args below meth c H1 locs1 cells slots Q (F0 m pc' ls1 (st'.map (am_cv base b S)))) : W p l e R s m args below meth c H locs cells slots Q (F0 m pc ls (st.map (am_cv base b S))) := by
  obtain ⟨hlen, hlk⟩ := hok
  have hn : n = 1 := hlen (fun q => by cases q)
  subst hn
  obtain ⟨w, h1, h2⟩ := am_nx_i h
  obtain ⟨x, y, t, rfl, rfl⟩ := am_ls_i h1
  simp only [Prod.mk.injEq] at h2
  obtain ⟨rfl, rfl, rfl, rfl, rfl⟩ := h2
  have hk := kk H locs ls hP rfl hS hl
  simp only [List.map_cons, am_cv, if_true, Nat.one_ne_zero, if_false, Int32.ofInt_toInt, Int64.ofInt_toInt] at hk ⊢
  exact lv_lushr hx hb hdg rfl hk
set_option maxHeartbeats 2000000 in
theorem am_t_idiv  (hx : p.tables.exec = Jvm.exec) (hb : c.code = cc) (hown : s.vm.findClass own = some m.cls) (hts : ∀ w ∈ am_good, w.before args s = true) (hnm : meth.name = nm) (hK : va_K D vwCl (am_tys cs) s) (hX : va_X b sn xs s s.heap) (hbb : b < base) (hbs : base ≤ s.heap.size) (hSR : am_SR S s) (h : am_stp sn (fun j => (xs j).toInt) (.idiv, n, a, z) pc L st sh g = some (pc', L', st', sh', g')) (hdg : decode cc pc = .ok (.idiv, n)) (hok : am_okI own nm pc (.idiv, n, a, z)) (hl : am_LR base b S ls L) (hP : va_P D vwCl (am_ws base cs sh g) H) (hS : va_S (am_AA base) s.heap H locs) (kk : ∀ (H1 : Heap) (locs1 : List Loc) (ls1 : Array Slot), va_P D vwCl (am_ws base cs sh' g') H1 → H1.size = H.size → va_S (am_AA base) s.heap H1 locs1 → am_LR base b S ls1 L' → W p l e R s m args below meth c H1 locs1 cells slots Q (F0 m pc' ls1 (st'.map (am_cv base b S)))) : W p l e R s m args below meth c H locs cells slots Q (F0 m pc ls (st.map (am_cv base b S))) := by
  obtain ⟨hlen, hlk⟩ := hok
  have hn : n = 1 := hlen (fun q => by cases q)
  subst hn
  replace h := Option.bind_eq_some_iff.mp h
  obtain ⟨⟨y, t1⟩, h1, h⟩ := h
  replace h := Option.bind_eq_some_iff.mp h
  obtain ⟨⟨x, t⟩, h2, h⟩ := h
  replace h1 := am_pp_iff.mp h1
  replace h2 := am_pp_iff.mp h2
  simp only at h1 h2 h
  subst h2
  subst h1
  by_cases hc : w32 y = 0
  case pos => rw [if_pos hc] at h; cases h
  rw [if_neg hc] at h
  replace h := Option.some.inj h
  simp only [Prod.mk.injEq] at h
  obtain ⟨rfl, rfl, rfl, rfl, rfl⟩ := h
  have hk := kk H locs ls hP rfl hS hl
  simp only [List.map_cons, am_cv, if_true, Nat.one_ne_zero, if_false, Int32.ofInt_toInt, Int64.ofInt_toInt, ← w32_div] at hk ⊢
  exact lv_idiv hx hb hdg (fun q => hc (w32_z.mp q)) hk
set_option maxHeartbeats 2000000 in
theorem am_t_irem  (hx : p.tables.exec = Jvm.exec) (hb : c.code = cc) (hown : s.vm.findClass own = some m.cls) (hts : ∀ w ∈ am_good, w.before args s = true) (hnm : meth.name = nm) (hK : va_K D vwCl (am_tys cs) s) (hX : va_X b sn xs s s.heap) (hbb : b < base) (hbs : base ≤ s.heap.size) (hSR : am_SR S s) (h : am_stp sn (fun j => (xs j).toInt) (.irem, n, a, z) pc L st sh g = some (pc', L', st', sh', g')) (hdg : decode cc pc = .ok (.irem, n)) (hok : am_okI own nm pc (.irem, n, a, z)) (hl : am_LR base b S ls L) (hP : va_P D vwCl (am_ws base cs sh g) H) (hS : va_S (am_AA base) s.heap H locs) (kk : ∀ (H1 : Heap) (locs1 : List Loc) (ls1 : Array Slot), va_P D vwCl (am_ws base cs sh' g') H1 → H1.size = H.size → va_S (am_AA base) s.heap H1 locs1 → am_LR base b S ls1 L' → W p l e R s m args below meth c H1 locs1 cells slots Q (F0 m pc' ls1 (st'.map (am_cv base b S)))) : W p l e R s m args below meth c H locs cells slots Q (F0 m pc ls (st.map (am_cv base b S))) := by
  obtain ⟨hlen, hlk⟩ := hok
  have hn : n = 1 := hlen (fun q => by cases q)
  subst hn
  replace h := Option.bind_eq_some_iff.mp h
  obtain ⟨⟨y, t1⟩, h1, h⟩ := h
  replace h := Option.bind_eq_some_iff.mp h
  obtain ⟨⟨x, t⟩, h2, h⟩ := h
  replace h1 := am_pp_iff.mp h1
  replace h2 := am_pp_iff.mp h2
  simp only at h1 h2 h
  subst h2
  subst h1
  by_cases hc : w32 y = 0
  case pos => rw [if_pos hc] at h; cases h
  rw [if_neg hc] at h
  replace h := Option.some.inj h
  simp only [Prod.mk.injEq] at h
  obtain ⟨rfl, rfl, rfl, rfl, rfl⟩ := h
  have hk := kk H locs ls hP rfl hS hl
  simp only [List.map_cons, am_cv, if_true, Nat.one_ne_zero, if_false, Int32.ofInt_toInt, Int64.ofInt_toInt, ← w32_rem] at hk ⊢
  exact lv_irem hx hb hdg (fun q => hc (w32_z.mp q)) hk
set_option maxHeartbeats 2000000 in
theorem am_t_ldiv  (hx : p.tables.exec = Jvm.exec) (hb : c.code = cc) (hown : s.vm.findClass own = some m.cls) (hts : ∀ w ∈ am_good, w.before args s = true) (hnm : meth.name = nm) (hK : va_K D vwCl (am_tys cs) s) (hX : va_X b sn xs s s.heap) (hbb : b < base) (hbs : base ≤ s.heap.size) (hSR : am_SR S s) (h : am_stp sn (fun j => (xs j).toInt) (.ldiv, n, a, z) pc L st sh g = some (pc', L', st', sh', g')) (hdg : decode cc pc = .ok (.ldiv, n)) (hok : am_okI own nm pc (.ldiv, n, a, z)) (hl : am_LR base b S ls L) (hP : va_P D vwCl (am_ws base cs sh g) H) (hS : va_S (am_AA base) s.heap H locs) (kk : ∀ (H1 : Heap) (locs1 : List Loc) (ls1 : Array Slot), va_P D vwCl (am_ws base cs sh' g') H1 → H1.size = H.size → va_S (am_AA base) s.heap H1 locs1 → am_LR base b S ls1 L' → W p l e R s m args below meth c H1 locs1 cells slots Q (F0 m pc' ls1 (st'.map (am_cv base b S)))) : W p l e R s m args below meth c H locs cells slots Q (F0 m pc ls (st.map (am_cv base b S))) := by
  obtain ⟨hlen, hlk⟩ := hok
  have hn : n = 1 := hlen (fun q => by cases q)
  subst hn
  replace h := Option.bind_eq_some_iff.mp h
  obtain ⟨⟨y, t1⟩, h1, h⟩ := h
  replace h := Option.bind_eq_some_iff.mp h
  obtain ⟨⟨x, t⟩, h2, h⟩ := h
  replace h1 := am_pp_iff.mp h1
  replace h2 := am_pp_iff.mp h2
  simp only at h1 h2 h
  subst h2
  subst h1
  by_cases hc : w64 y = 0
  case pos => rw [if_pos hc] at h; cases h
  rw [if_neg hc] at h
  replace h := Option.some.inj h
  simp only [Prod.mk.injEq] at h
  obtain ⟨rfl, rfl, rfl, rfl, rfl⟩ := h
  have hk := kk H locs ls hP rfl hS hl
  simp only [List.map_cons, am_cv, if_true, Nat.one_ne_zero, if_false, Int32.ofInt_toInt, Int64.ofInt_toInt, ← w64_div] at hk ⊢
  exact lv_ldiv hx hb hdg (fun q => hc (w64_z.mp q)) hk
set_option maxHeartbeats 2000000 in
theorem am_t_lrem  (hx : p.tables.exec = Jvm.exec) (hb : c.code = cc) (hown : s.vm.findClass own = some m.cls) (hts : ∀ w ∈ am_good, w.before args s = true) (hnm : meth.name = nm) (hK : va_K D vwCl (am_tys cs) s) (hX : va_X b sn xs s s.heap) (hbb : b < base) (hbs : base ≤ s.heap.size) (hSR : am_SR S s) (h : am_stp sn (fun j => (xs j).toInt) (.lrem, n, a, z) pc L st sh g = some (pc', L', st', sh', g')) (hdg : decode cc pc = .ok (.lrem, n)) (hok : am_okI own nm pc (.lrem, n, a, z)) (hl : am_LR base b S ls L) (hP : va_P D vwCl (am_ws base cs sh g) H) (hS : va_S (am_AA base) s.heap H locs) (kk : ∀ (H1 : Heap) (locs1 : List Loc) (ls1 : Array Slot), va_P D vwCl (am_ws base cs sh' g') H1 → H1.size = H.size → va_S (am_AA base) s.heap H1 locs1 → am_LR base b S ls1 L' → W p l e R s m args below meth c H1 locs1 cells slots Q (F0 m pc' ls1 (st'.map (am_cv base b S)))) : W p l e R s m args below meth c H locs cells slots Q (F0 m pc ls (st.map (am_cv base b S))) := by
  obtain ⟨hlen, hlk⟩ := hok
  have hn : n = 1 := hlen (fun q => by cases q)
  subst hn
  replace h := Option.bind_eq_some_iff.mp h
  obtain ⟨⟨y, t1⟩, h1, h⟩ := h
  replace h := Option.bind_eq_some_iff.mp h
  obtain ⟨⟨x, t⟩, h2, h⟩ := h
  replace h1 := am_pp_iff.mp h1
  replace h2 := am_pp_iff.mp h2
  simp only at h1 h2 h
  subst h2
  subst h1
  by_cases hc : w64 y = 0
  case pos => rw [if_pos hc] at h; cases h
  rw [if_neg hc] at h
  replace h := Option.some.inj h
  simp only [Prod.mk.injEq] at h
  obtain ⟨rfl, rfl, rfl, rfl, rfl⟩ := h
  have hk := kk H locs ls hP rfl hS hl
  simp only [List.map_cons, am_cv, if_true, Nat.one_ne_zero, if_false, Int32.ofInt_toInt, Int64.ofInt_toInt, ← w64_rem] at hk ⊢
  exact lv_lrem hx hb hdg (fun q => hc (w64_z.mp q)) hk
set_option maxHeartbeats 2000000 in
theorem am_t_lcmp  (hx : p.tables.exec = Jvm.exec) (hb : c.code = cc) (hown : s.vm.findClass own = some m.cls) (hts : ∀ w ∈ am_good, w.before args s = true) (hnm : meth.name = nm) (hK : va_K D vwCl (am_tys cs) s) (hX : va_X b sn xs s s.heap) (hbb : b < base) (hbs : base ≤ s.heap.size) (hSR : am_SR S s) (h : am_stp sn (fun j => (xs j).toInt) (.lcmp, n, a, z) pc L st sh g = some (pc', L', st', sh', g')) (hdg : decode cc pc = .ok (.lcmp, n)) (hok : am_okI own nm pc (.lcmp, n, a, z)) (hl : am_LR base b S ls L) (hP : va_P D vwCl (am_ws base cs sh g) H) (hS : va_S (am_AA base) s.heap H locs) (kk : ∀ (H1 : Heap) (locs1 : List Loc) (ls1 : Array Slot), va_P D vwCl (am_ws base cs sh' g') H1 → H1.size = H.size → va_S (am_AA base) s.heap H1 locs1 → am_LR base b S ls1 L' → W p l e R s m args below meth c H1 locs1 cells slots Q (F0 m pc' ls1 (st'.map (am_cv base b S)))) : W p l e R s m args below meth c H locs cells slots Q (F0 m pc ls (st.map (am_cv base b S))) := by
  obtain ⟨hlen, hlk⟩ := hok
  have hn : n = 1 := hlen (fun q => by cases q)
  subst hn
  replace h := Option.bind_eq_some_iff.mp h
  obtain ⟨⟨y, t1⟩, h1, h⟩ := h
  replace h := Option.bind_eq_some_iff.mp h
  obtain ⟨⟨x, t⟩, h2, h⟩ := h
  replace h1 := am_pp_iff.mp h1
  replace h2 := am_pp_iff.mp h2
  simp only at h1 h2 h
  subst h2
  subst h1
  replace h := Option.some.inj h
  simp only [Prod.mk.injEq] at h
  obtain ⟨rfl, rfl, rfl, rfl, rfl⟩ := h
  have hk := kk H locs ls hP rfl hS hl
  have e1 : Int32.ofInt (if w64 y < w64 x then 1 else if w64 x = w64 y then 0 else -1) = lg_cmp (Int64.ofInt x) (Int64.ofInt y) := by
    unfold lg_cmp
    simp only [w64_lt, w64_eq]
    split
    · rfl
    · split <;> rfl
  simp only [List.map_cons, am_cv, if_true, Nat.one_ne_zero, if_false, Int32.ofInt_toInt, Int64.ofInt_toInt, e1] at hk ⊢
  exact W.lcmp hx hb hdg hk
set_option maxHeartbeats 2000000 in
theorem am_t_i2l  (hx : p.tables.exec = Jvm.exec) (hb : c.code = cc) (hown : s.vm.findClass own = some m.cls) (hts : ∀ w ∈ am_good, w.before args s = true) (hnm : meth.name = nm) (hK : va_K D vwCl (am_tys cs) s) (hX : va_X b sn xs s s.heap) (hbb : b < base) (hbs : base ≤ s.heap.size) (hSR : am_SR S s) (h : am_stp sn (fun j => (xs j).toInt) (.i2l, n, a, z) pc L st sh g = some (pc', L', st', sh', g')) (hdg : decode cc pc = .ok (.i2l, n)) (hok : am_okI own nm pc (.i2l, n, a, z)) (hl : am_LR base b S ls L) (hP : va_P D vwCl (am_ws base cs sh g) H) (hS : va_S (am_AA base) s.heap H locs) (kk : ∀ (H1 : Heap) (locs1 : List Loc) (ls1 : Array Slot), va_P D vwCl (am_ws base cs sh' g') H1 → H1.size = H.size → va_S (am_AA base) s.heap H1 locs1 → am_LR base b S ls1 L' → W p l e R s m args below meth c H1 locs1 cells slots Q (F0 m pc' ls1 (st'.map (am_cv base b S)))) : W p l e R s m args below meth c H locs cells slots Q (F0 m pc ls (st.map (am_cv base b S))) := by
  obtain ⟨hlen, hlk⟩ := hok
  have hn : n = 1 := hlen (fun q => by cases q)
  subst hn
  replace h := Option.bind_eq_some_iff.mp h
  obtain ⟨⟨x, t⟩, h1, h⟩ := h
  replace h1 := am_pp_iff.mp h1
  simp only at h1 h
  subst h1
  replace h := Option.some.inj h
  simp only [Prod.mk.injEq] at h
  obtain ⟨rfl, rfl, rfl, rfl, rfl⟩ := h
  exact lv_i2l hx hb hdg (w32_l x) (kk H locs ls hP rfl hS hl)
set_option maxHeartbeats 2000000 in
theorem am_t_l2i  (hx : p.tables.exec = Jvm.exec) (hb : c.code = cc) (hown : s.vm.findClass own = some m.cls) (hts : ∀ w ∈ am_good, w.before args s = true) (hnm : meth.name = nm) (hK : va_K D vwCl (am_tys cs) s) (hX : va_X b sn xs s s.heap) (hbb : b < base) (hbs : base ≤ s.heap.size) (hSR : am_SR S s) (h : am_stp sn (fun j => (xs j).toInt) (.l2i, n, a, z) pc L st sh g = some (pc', L', st', sh', g')) (hdg : decode cc pc = .ok (.l2i, n)) (hok : am_okI own nm pc (.l2i, n, a, z)) (hl : am_LR base b S ls L) (hP : va_P D vwCl (am_ws base cs sh g) H) (hS : va_S (am_AA base) s.heap H locs) (kk : ∀ (H1 : Heap) (locs1 : List Loc) (ls1 : Array Slot), va_P D vwCl (am_ws base cs sh' g') H1 → H1.size = H.size → va_S (am_AA base) s.heap H1 locs1 → am_LR base b S ls1 L' → W p l e R s m args below meth c H1 locs1 cells slots Q (F0 m pc' ls1 (st'.map (am_cv base b S)))) : W p l e R s m args below meth c H locs cells slots Q (F0 m pc ls (st.map (am_cv base b S))) := by
  obtain ⟨hlen, hlk⟩ := hok
  have hn : n = 1 := hlen (fun q => by cases q)
  subst hn
  replace h := Option.bind_eq_some_iff.mp h
  obtain ⟨⟨x, t⟩, h1, h⟩ := h
  replace h1 := am_pp_iff.mp h1
  simp only at h1 h
  subst h1
  replace h := Option.some.inj h
  simp only [Prod.mk.injEq] at h
  obtain ⟨rfl, rfl, rfl, rfl, rfl⟩ := h
  exact lv_l2i hx hb hdg (w64_i x) (kk H locs ls hP rfl hS hl)
set_option maxHeartbeats 2000000 in
theorem am_t_dup  (hx : p.tables.exec = Jvm.exec) (hb : c.code = cc) (hown : s.vm.findClass own = some m.cls) (hts : ∀ w ∈ am_good, w.before args s = true) (hnm : meth.name = nm) (hK : va_K D vwCl (am_tys cs) s) (hX : va_X b sn xs s s.heap) (hbb : b < base) (hbs : base ≤ s.heap.size) (hSR : am_SR S s) (h : am_stp sn (fun j => (xs j).toInt) (.dup, n, a, z) pc L st sh g = some (pc', L', st', sh', g')) (hdg : decode cc pc = .ok (.dup, n)) (hok : am_okI own nm pc (.dup, n, a, z)) (hl : am_LR base b S ls L) (hP : va_P D vwCl (am_ws base cs sh g) H) (hS : va_S (am_AA base) s.heap H locs) (kk : ∀ (H1 : Heap) (locs1 : List Loc) (ls1 : Array Slot), va_P D vwCl (am_ws base cs sh' g') H1 → H1.size = H.size → va_S (am_AA base) s.heap H1 locs1 → am_LR base b S ls1 L' → W p l e R s m args below meth c H1 locs1 cells slots Q (F0 m pc' ls1 (st'.map (am_cv base b S)))) : W p l e R s m args below meth c H locs cells slots Q (F0 m pc ls (st.map (am_cv base b S))) := by
  obtain ⟨hlen, hlk⟩ := hok
  have hn : n = 1 := hlen (fun q => by cases q)
  subst hn
  cases st with
  | nil => cases h
  | cons v t =>
    simp only [am_stp] at h
    by_cases hc : v.1 = 1
    case pos => rw [if_pos hc] at h; cases h
    rw [if_neg hc] at h
    replace h := Option.some.inj h
    simp only [Prod.mk.injEq] at h
    obtain ⟨rfl, rfl, rfl, rfl, rfl⟩ := h
    exact lv_dup hx hb hdg (by rw [am_cv_cat, if_neg hc]) (kk H locs ls hP rfl hS hl)
set_option maxHeartbeats 2000000 in
theorem am_t_pop  (hx : p.tables.exec = Jvm.exec) (hb : c.code = cc) (hown : s.vm.findClass own = some m.cls) (hts : ∀ w ∈ am_good, w.before args s = true) (hnm : meth.name = nm) (hK : va_K D vwCl (am_tys cs) s) (hX : va_X b sn xs s s.heap) (hbb : b < base) (hbs : base ≤ s.heap.size) (hSR : am_SR S s) (h : am_stp sn (fun j => (xs j).toInt) (.pop, n, a, z) pc L st sh g = some (pc', L', st', sh', g')) (hdg : decode cc pc = .ok (.pop, n)) (hok : am_okI own nm pc (.pop, n, a, z)) (hl : am_LR base b S ls L) (hP : va_P D vwCl (am_ws base cs sh g) H) (hS : va_S (am_AA base) s.heap H locs) (kk : ∀ (H1 : Heap) (locs1 : List Loc) (ls1 : Array Slot), va_P D vwCl (am_ws base cs sh' g') H1 → H1.size = H.size → va_S (am_AA base) s.heap H1 locs1 → am_LR base b S ls1 L' → W p l e R s m args below meth c H1 locs1 cells slots Q (F0 m pc' ls1 (st'.map (am_cv base b S)))) : W p l e R s m args below meth c H locs cells slots Q (F0 m pc ls (st.map (am_cv base b S))) := by
  obtain ⟨hlen, hlk⟩ := hok
  have hn : n = 1 := hlen (fun q => by cases q)
  subst hn
  cases st with
  | nil => cases h
  | cons v t =>
    simp only [am_stp] at h
    by_cases hc : v.1 = 1
    case pos => rw [if_pos hc] at h; cases h
    rw [if_neg hc] at h
    replace h := Option.some.inj h
    simp only [Prod.mk.injEq] at h
    obtain ⟨rfl, rfl, rfl, rfl, rfl⟩ := h
    exact lv_pop hx hb hdg (by rw [am_cv_cat, if_neg hc]) (kk H locs ls hP rfl hS hl)
set_option maxHeartbeats 2000000 in
theorem am_t_dup2  (hx : p.tables.exec = Jvm.exec) (hb : c.code = cc) (hown : s.vm.findClass own = some m.cls) (hts : ∀ w ∈ am_good, w.before args s = true) (hnm : meth.name = nm) (hK : va_K D vwCl (am_tys cs) s) (hX : va_X b sn xs s s.heap) (hbb : b < base) (hbs : base ≤ s.heap.size) (hSR : am_SR S s) (h : am_stp sn (fun j => (xs j).toInt) (.dup2, n, a, z) pc L st sh g = some (pc', L', st', sh', g')) (hdg : decode cc pc = .ok (.dup2, n)) (hok : am_okI own nm pc (.dup2, n, a, z)) (hl : am_LR base b S ls L) (hP : va_P D vwCl (am_ws base cs sh g) H) (hS : va_S (am_AA base) s.heap H locs) (kk : ∀ (H1 : Heap) (locs1 : List Loc) (ls1 : Array Slot), va_P D vwCl (am_ws base cs sh' g') H1 → H1.size = H.size → va_S (am_AA base) s.heap H1 locs1 → am_LR base b S ls1 L' → W p l e R s m args below meth c H1 locs1 cells slots Q (F0 m pc' ls1 (st'.map (am_cv base b S)))) : W p l e R s m args below meth c H locs cells slots Q (F0 m pc ls (st.map (am_cv base b S))) := by
  obtain ⟨hlen, hlk⟩ := hok
  have hn : n = 1 := hlen (fun q => by cases q)
  subst hn
  cases st with
  | nil => cases h
  | cons v t =>
    simp only [am_stp] at h
    by_cases hc : v.1 = 1
    · rw [if_pos hc] at h
      replace h := Option.some.inj h
      simp only [Prod.mk.injEq] at h
      obtain ⟨rfl, rfl, rfl, rfl, rfl⟩ := h
      exact lv_dup2_2 hx hb hdg (by rw [am_cv_cat, if_pos hc]) (kk H locs ls hP rfl hS hl)
    · rw [if_neg hc] at h
      cases t with
      | nil => cases h
      | cons u r =>
        simp only at h
        by_cases hd : u.1 = 1
        case pos => rw [if_pos hd] at h; cases h
        rw [if_neg hd] at h
        replace h := Option.some.inj h
        simp only [Prod.mk.injEq] at h
        obtain ⟨rfl, rfl, rfl, rfl, rfl⟩ := h
        exact lv_dup2_11 hx hb hdg (by rw [am_cv_cat, if_neg hc]) (by rw [am_cv_cat, if_neg hd]) (kk H locs ls hP rfl hS hl)
set_option maxHeartbeats 2000000 in
theorem am_t_goto {k : Int} (hx : p.tables.exec = Jvm.exec) (hb : c.code = cc) (hown : s.vm.findClass own = some m.cls) (hts : ∀ w ∈ am_good, w.before args s = true) (hnm : meth.name = nm) (hK : va_K D vwCl (am_tys cs) s) (hX : va_X b sn xs s s.heap) (hbb : b < base) (hbs : base ≤ s.heap.size) (hSR : am_SR S s) (h : am_stp sn (fun j => (xs j).toInt) (.goto k, n, a, z) pc L st sh g = some (pc', L', st', sh', g')) (hdg : decode cc pc = .ok (.goto k, n)) (hok : am_okI own nm pc (.goto k, n, a, z)) (hl : am_LR base b S ls L) (hP : va_P D vwCl (am_ws base cs sh g) H) (hS : va_S (am_AA base) s.heap H locs) (kk : ∀ (H1 : Heap) (locs1 : List Loc) (ls1 : Array Slot), va_P D vwCl (am_ws base cs sh' g') H1 → H1.size = H.size → va_S (am_AA base) s.heap H1 locs1 → am_LR base b S ls1 L' → W p l e R s m args below meth c H1 locs1 cells slots Q (F0 m pc' ls1 (st'.map (am_cv base b S)))) : W p l e R s m args below meth c H locs cells slots Q (F0 m pc ls (st.map (am_cv base b S))) := by
  obtain ⟨hlen, hlk⟩ := hok
  have hn : n = 3 := hlen (fun q => by cases q)
  subst hn
  replace h := Option.some.inj h
  simp only [Prod.mk.injEq] at h
  obtain ⟨rfl, rfl, rfl, rfl, rfl⟩ := h
  exact lv_goto hx hb hdg hlk (kk H locs ls hP rfl hS hl)
set_option maxHeartbeats 2000000 in
theorem am_t_ifCond {k : ClassFile.Cond} {d : Int} (hx : p.tables.exec = Jvm.exec) (hb : c.code = cc) (hown : s.vm.findClass own = some m.cls) (hts : ∀ w ∈ am_good, w.before args s = true) (hnm : meth.name = nm) (hK : va_K D vwCl (am_tys cs) s) (hX : va_X b sn xs s s.heap) (hbb : b < base) (hbs : base ≤ s.heap.size) (hSR : am_SR S s) (h : am_stp sn (fun j => (xs j).toInt) (.ifCond k d, n, a, z) pc L st sh g = some (pc', L', st', sh', g')) (hdg : decode cc pc = .ok (.ifCond k d, n)) (hok : am_okI own nm pc (.ifCond k d, n, a, z)) (hl : am_LR base b S ls L) (hP : va_P D vwCl (am_ws base cs sh g) H) (hS : va_S (am_AA base) s.heap H locs) (kk : ∀ (H1 : Heap) (locs1 : List Loc) (ls1 : Array Slot), va_P D vwCl (am_ws base cs sh' g') H1 → H1.size = H.size → va_S (am_AA base) s.heap H1 locs1 → am_LR base b S ls1 L' → W p l e R s m args below meth c H1 locs1 cells slots Q (F0 m pc' ls1 (st'.map (am_cv base b S)))) : W p l e R s m args below meth c H locs cells slots Q (F0 m pc ls (st.map (am_cv base b S))) := by
  obtain ⟨hlen, hlk⟩ := hok
  have hn : n = 3 := hlen (fun q => by cases q)
  subst hn
  replace h := Option.bind_eq_some_iff.mp h
  obtain ⟨⟨x, t⟩, h1, h⟩ := h
  replace h1 := am_pp_iff.mp h1
  simp only at h1 h
  subst h1
  replace h := Option.some.inj h
  simp only [Prod.mk.injEq] at h
  obtain ⟨rfl, rfl, rfl, rfl, rfl⟩ := h
  have hk := kk H locs ls hP rfl hS hl
  have i0 : (Int32.ofInt x = 0) ↔ w32 x = 0 := w32_z
  have i1 : (Int32.ofInt x < 0) ↔ w32 x < 0 := by rw [← w32_0, w32_lt]; rfl
  have i2 : (Int32.ofInt x ≤ 0) ↔ w32 x ≤ 0 := by rw [← w32_0, w32_le]; rfl
  have i3 : (0 < Int32.ofInt x) ↔ 0 < w32 x := by rw [← w32_0, w32_lt]; rfl
  have i4 : (0 ≤ Int32.ofInt x) ↔ 0 ≤ w32 x := by rw [← w32_0, w32_le]; rfl
  cases k
  · exact lv_if_eq (x := Int32.ofInt x) hx hb hdg hlk (fun q => by rw [if_pos (by simp only [am_cm]; first | exact decide_eq_true (i0.mp q) | exact decide_eq_true (fun z => q (i0.mpr z)) | exact decide_eq_true (i1.mp q) | exact decide_eq_true (i2.mp q) | exact decide_eq_true (i3.mp q) | exact decide_eq_true (i4.mp q) | (rw [decide_eq_true_eq]; first | (have := i1.mpr.mt q; omega) | (have := i2.mpr.mt q; omega) | (have := i3.mpr.mt q; omega) | (have := i4.mpr.mt q; omega)))] at hk; exact hk) (fun q => by rw [if_neg (by simp only [am_cm, decide_eq_true_eq]; first | (exact fun w => q (i0.mpr w)) | (exact fun w => w (i0.mp q)) | (exact fun w => q (i1.mpr w)) | (exact fun w => q (i2.mpr w)) | (exact fun w => q (i3.mpr w)) | (exact fun w => q (i4.mpr w)) | (have := i1.mp q; omega) | (have := i2.mp q; omega) | (have := i3.mp q; omega) | (have := i4.mp q; omega))] at hk; exact hk)
  · exact lv_if_ne (x := Int32.ofInt x) hx hb hdg hlk (fun q => by rw [if_pos (by simp only [am_cm]; first | exact decide_eq_true (i0.mp q) | exact decide_eq_true (fun z => q (i0.mpr z)) | exact decide_eq_true (i1.mp q) | exact decide_eq_true (i2.mp q) | exact decide_eq_true (i3.mp q) | exact decide_eq_true (i4.mp q) | (rw [decide_eq_true_eq]; first | (have := i1.mpr.mt q; omega) | (have := i2.mpr.mt q; omega) | (have := i3.mpr.mt q; omega) | (have := i4.mpr.mt q; omega)))] at hk; exact hk) (fun q => by rw [if_neg (by simp only [am_cm, decide_eq_true_eq]; first | (exact fun w => q (i0.mpr w)) | (exact fun w => w (i0.mp q)) | (exact fun w => q (i1.mpr w)) | (exact fun w => q (i2.mpr w)) | (exact fun w => q (i3.mpr w)) | (exact fun w => q (i4.mpr w)) | (have := i1.mp q; omega) | (have := i2.mp q; omega) | (have := i3.mp q; omega) | (have := i4.mp q; omega))] at hk; exact hk)
  · exact lv_if_lt (x := Int32.ofInt x) hx hb hdg hlk (fun q => by rw [if_pos (by simp only [am_cm]; first | exact decide_eq_true (i0.mp q) | exact decide_eq_true (fun z => q (i0.mpr z)) | exact decide_eq_true (i1.mp q) | exact decide_eq_true (i2.mp q) | exact decide_eq_true (i3.mp q) | exact decide_eq_true (i4.mp q) | (rw [decide_eq_true_eq]; first | (have := i1.mpr.mt q; omega) | (have := i2.mpr.mt q; omega) | (have := i3.mpr.mt q; omega) | (have := i4.mpr.mt q; omega)))] at hk; exact hk) (fun q => by rw [if_neg (by simp only [am_cm, decide_eq_true_eq]; first | (exact fun w => q (i0.mpr w)) | (exact fun w => w (i0.mp q)) | (exact fun w => q (i1.mpr w)) | (exact fun w => q (i2.mpr w)) | (exact fun w => q (i3.mpr w)) | (exact fun w => q (i4.mpr w)) | (have := i1.mp q; omega) | (have := i2.mp q; omega) | (have := i3.mp q; omega) | (have := i4.mp q; omega))] at hk; exact hk)
  · exact lv_if_ge (x := Int32.ofInt x) hx hb hdg hlk (fun q => by rw [if_pos (by simp only [am_cm]; first | exact decide_eq_true (i0.mp q) | exact decide_eq_true (fun z => q (i0.mpr z)) | exact decide_eq_true (i1.mp q) | exact decide_eq_true (i2.mp q) | exact decide_eq_true (i3.mp q) | exact decide_eq_true (i4.mp q) | (rw [decide_eq_true_eq]; first | (have := i1.mpr.mt q; omega) | (have := i2.mpr.mt q; omega) | (have := i3.mpr.mt q; omega) | (have := i4.mpr.mt q; omega)))] at hk; exact hk) (fun q => by rw [if_neg (by simp only [am_cm, decide_eq_true_eq]; first | (exact fun w => q (i0.mpr w)) | (exact fun w => w (i0.mp q)) | (exact fun w => q (i1.mpr w)) | (exact fun w => q (i2.mpr w)) | (exact fun w => q (i3.mpr w)) | (exact fun w => q (i4.mpr w)) | (have := i1.mp q; omega) | (have := i2.mp q; omega) | (have := i3.mp q; omega) | (have := i4.mp q; omega))] at hk; exact hk)
  · exact lv_if_gt (x := Int32.ofInt x) hx hb hdg hlk (fun q => by rw [if_pos (by simp only [am_cm]; first | exact decide_eq_true (i0.mp q) | exact decide_eq_true (fun z => q (i0.mpr z)) | exact decide_eq_true (i1.mp q) | exact decide_eq_true (i2.mp q) | exact decide_eq_true (i3.mp q) | exact decide_eq_true (i4.mp q) | (rw [decide_eq_true_eq]; first | (have := i1.mpr.mt q; omega) | (have := i2.mpr.mt q; omega) | (have := i3.mpr.mt q; omega) | (have := i4.mpr.mt q; omega)))] at hk; exact hk) (fun q => by rw [if_neg (by simp only [am_cm, decide_eq_true_eq]; first | (exact fun w => q (i0.mpr w)) | (exact fun w => w (i0.mp q)) | (exact fun w => q (i1.mpr w)) | (exact fun w => q (i2.mpr w)) | (exact fun w => q (i3.mpr w)) | (exact fun w => q (i4.mpr w)) | (have := i1.mp q; omega) | (have := i2.mp q; omega) | (have := i3.mp q; omega) | (have := i4.mp q; omega))] at hk; exact hk)
  · exact lv_if_le (x := Int32.ofInt x) hx hb hdg hlk (fun q => by rw [if_pos (by simp only [am_cm]; first | exact decide_eq_true (i0.mp q) | exact decide_eq_true (fun z => q (i0.mpr z)) | exact decide_eq_true (i1.mp q) | exact decide_eq_true (i2.mp q) | exact decide_eq_true (i3.mp q) | exact decide_eq_true (i4.mp q) | (rw [decide_eq_true_eq]; first | (have := i1.mpr.mt q; omega) | (have := i2.mpr.mt q; omega) | (have := i3.mpr.mt q; omega) | (have := i4.mpr.mt q; omega)))] at hk; exact hk) (fun q => by rw [if_neg (by simp only [am_cm, decide_eq_true_eq]; first | (exact fun w => q (i0.mpr w)) | (exact fun w => w (i0.mp q)) | (exact fun w => q (i1.mpr w)) | (exact fun w => q (i2.mpr w)) | (exact fun w => q (i3.mpr w)) | (exact fun w => q (i4.mpr w)) | (have := i1.mp q; omega) | (have := i2.mp q; omega) | (have := i3.mp q; omega) | (have := i4.mp q; omega))] at hk; exact hk)
set_option maxHeartbeats 2000000 in
theorem am_t_if_icmp {k : ClassFile.Cond} {d : Int} (hx : p.tables.exec = Jvm.exec) (hb : c.code = cc) (hown : s.vm.findClass own = some m.cls) (hts : ∀ w ∈ am_good, w.before args s = true) (hnm : meth.name = nm) (hK : va_K D vwCl (am_tys cs) s) (hX : va_X b sn xs s s.heap) (hbb : b < base) (hbs : base ≤ s.heap.size) (hSR : am_SR S s) (h : am_stp sn (fun j => (xs j).toInt) (.if_icmp k d, n, a, z) pc L st sh g = some (pc', L', st', sh', g')) (hdg : decode cc pc = .ok (.if_icmp k d, n)) (hok : am_okI own nm pc (.if_icmp k d, n, a, z)) (hl : am_LR base b S ls L) (hP : va_P D vwCl (am_ws base cs sh g) H) (hS : va_S (am_AA base) s.heap H locs) (kk : ∀ (H1 : Heap) (locs1 : List Loc) (ls1 : Array Slot), va_P D vwCl (am_ws base cs sh' g') H1 → H1.size = H.size → va_S (am_AA base) s.heap H1 locs1 → am_LR base b S ls1 L' → W p l e R s m args below meth c H1 locs1 cells slots Q (F0 m pc' ls1 (st'.map (am_cv base b S)))) : W p l e R s m args below meth c H locs cells slots Q (F0 m pc ls (st.map (am_cv base b S))) := by
  obtain ⟨hlen, hlk⟩ := hok
  have hn : n = 3 := hlen (fun q => by cases q)
  subst hn
  replace h := Option.bind_eq_some_iff.mp h
  obtain ⟨⟨y, t1⟩, h1, h⟩ := h
  replace h := Option.bind_eq_some_iff.mp h
  obtain ⟨⟨x, t⟩, h2, h⟩ := h
  replace h1 := am_pp_iff.mp h1
  replace h2 := am_pp_iff.mp h2
  simp only at h1 h2 h
  subst h2
  subst h1
  replace h := Option.some.inj h
  simp only [Prod.mk.injEq] at h
  obtain ⟨rfl, rfl, rfl, rfl, rfl⟩ := h
  have hk := kk H locs ls hP rfl hS hl
  have i0 : (Int32.ofInt x = Int32.ofInt y) ↔ w32 x = w32 y := w32_eq
  have i1 : (Int32.ofInt x < Int32.ofInt y) ↔ w32 x < w32 y := w32_lt
  have i2 : (Int32.ofInt x ≤ Int32.ofInt y) ↔ w32 x ≤ w32 y := w32_le
  have i3 : (Int32.ofInt y < Int32.ofInt x) ↔ w32 y < w32 x := w32_lt
  have i4 : (Int32.ofInt y ≤ Int32.ofInt x) ↔ w32 y ≤ w32 x := w32_le
  cases k
  · exact lv_icmp_eq (x := Int32.ofInt x) (y := Int32.ofInt y) hx hb hdg hlk (fun q => by rw [if_pos (by simp only [am_cm]; first | exact decide_eq_true (i0.mp q) | exact decide_eq_true (fun z => q (i0.mpr z)) | exact decide_eq_true (i1.mp q) | exact decide_eq_true (i2.mp q) | exact decide_eq_true (i3.mp q) | exact decide_eq_true (i4.mp q) | (rw [decide_eq_true_eq]; first | (have := i1.mpr.mt q; omega) | (have := i2.mpr.mt q; omega) | (have := i3.mpr.mt q; omega) | (have := i4.mpr.mt q; omega)))] at hk; exact hk) (fun q => by rw [if_neg (by simp only [am_cm, decide_eq_true_eq]; first | (exact fun w => q (i0.mpr w)) | (exact fun w => w (i0.mp q)) | (exact fun w => q (i1.mpr w)) | (exact fun w => q (i2.mpr w)) | (exact fun w => q (i3.mpr w)) | (exact fun w => q (i4.mpr w)) | (have := i1.mp q; omega) | (have := i2.mp q; omega) | (have := i3.mp q; omega) | (have := i4.mp q; omega))] at hk; exact hk)
  · exact lv_icmp_ne (x := Int32.ofInt x) (y := Int32.ofInt y) hx hb hdg hlk (fun q => by rw [if_pos (by simp only [am_cm]; first | exact decide_eq_true (i0.mp q) | exact decide_eq_true (fun z => q (i0.mpr z)) | exact decide_eq_true (i1.mp q) | exact decide_eq_true (i2.mp q) | exact decide_eq_true (i3.mp q) | exact decide_eq_true (i4.mp q) | (rw [decide_eq_true_eq]; first | (have := i1.mpr.mt q; omega) | (have := i2.mpr.mt q; omega) | (have := i3.mpr.mt q; omega) | (have := i4.mpr.mt q; omega)))] at hk; exact hk) (fun q => by rw [if_neg (by simp only [am_cm, decide_eq_true_eq]; first | (exact fun w => q (i0.mpr w)) | (exact fun w => w (i0.mp q)) | (exact fun w => q (i1.mpr w)) | (exact fun w => q (i2.mpr w)) | (exact fun w => q (i3.mpr w)) | (exact fun w => q (i4.mpr w)) | (have := i1.mp q; omega) | (have := i2.mp q; omega) | (have := i3.mp q; omega) | (have := i4.mp q; omega))] at hk; exact hk)
  · exact lv_icmp_lt (x := Int32.ofInt x) (y := Int32.ofInt y) hx hb hdg hlk (fun q => by rw [if_pos (by simp only [am_cm]; first | exact decide_eq_true (i0.mp q) | exact decide_eq_true (fun z => q (i0.mpr z)) | exact decide_eq_true (i1.mp q) | exact decide_eq_true (i2.mp q) | exact decide_eq_true (i3.mp q) | exact decide_eq_true (i4.mp q) | (rw [decide_eq_true_eq]; first | (have := i1.mpr.mt q; omega) | (have := i2.mpr.mt q; omega) | (have := i3.mpr.mt q; omega) | (have := i4.mpr.mt q; omega)))] at hk; exact hk) (fun q => by rw [if_neg (by simp only [am_cm, decide_eq_true_eq]; first | (exact fun w => q (i0.mpr w)) | (exact fun w => w (i0.mp q)) | (exact fun w => q (i1.mpr w)) | (exact fun w => q (i2.mpr w)) | (exact fun w => q (i3.mpr w)) | (exact fun w => q (i4.mpr w)) | (have := i1.mp q; omega) | (have := i2.mp q; omega) | (have := i3.mp q; omega) | (have := i4.mp q; omega))] at hk; exact hk)
  · exact lv_icmp_ge (x := Int32.ofInt x) (y := Int32.ofInt y) hx hb hdg hlk (fun q => by rw [if_pos (by simp only [am_cm]; first | exact decide_eq_true (i0.mp q) | exact decide_eq_true (fun z => q (i0.mpr z)) | exact decide_eq_true (i1.mp q) | exact decide_eq_true (i2.mp q) | exact decide_eq_true (i3.mp q) | exact decide_eq_true (i4.mp q) | (rw [decide_eq_true_eq]; first | (have := i1.mpr.mt q; omega) | (have := i2.mpr.mt q; omega) | (have := i3.mpr.mt q; omega) | (have := i4.mpr.mt q; omega)))] at hk; exact hk) (fun q => by rw [if_neg (by simp only [am_cm, decide_eq_true_eq]; first | (exact fun w => q (i0.mpr w)) | (exact fun w => w (i0.mp q)) | (exact fun w => q (i1.mpr w)) | (exact fun w => q (i2.mpr w)) | (exact fun w => q (i3.mpr w)) | (exact fun w => q (i4.mpr w)) | (have := i1.mp q; omega) | (have := i2.mp q; omega) | (have := i3.mp q; omega) | (have := i4.mp q; omega))] at hk; exact hk)
  · exact lv_icmp_gt (x := Int32.ofInt x) (y := Int32.ofInt y) hx hb hdg hlk (fun q => by rw [if_pos (by simp only [am_cm]; first | exact decide_eq_true (i0.mp q) | exact decide_eq_true (fun z => q (i0.mpr z)) | exact decide_eq_true (i1.mp q) | exact decide_eq_true (i2.mp q) | exact decide_eq_true (i3.mp q) | exact decide_eq_true (i4.mp q) | (rw [decide_eq_true_eq]; first | (have := i1.mpr.mt q; omega) | (have := i2.mpr.mt q; omega) | (have := i3.mpr.mt q; omega) | (have := i4.mpr.mt q; omega)))] at hk; exact hk) (fun q => by rw [if_neg (by simp only [am_cm, decide_eq_true_eq]; first | (exact fun w => q (i0.mpr w)) | (exact fun w => w (i0.mp q)) | (exact fun w => q (i1.mpr w)) | (exact fun w => q (i2.mpr w)) | (exact fun w => q (i3.mpr w)) | (exact fun w => q (i4.mpr w)) | (have := i1.mp q; omega) | (have := i2.mp q; omega) | (have := i3.mp q; omega) | (have := i4.mp q; omega))] at hk; exact hk)
  · exact lv_icmp_le (x := Int32.ofInt x) (y := Int32.ofInt y) hx hb hdg hlk (fun q => by rw [if_pos (by simp only [am_cm]; first | exact decide_eq_true (i0.mp q) | exact decide_eq_true (fun z => q (i0.mpr z)) | exact decide_eq_true (i1.mp q) | exact decide_eq_true (i2.mp q) | exact decide_eq_true (i3.mp q) | exact decide_eq_true (i4.mp q) | (rw [decide_eq_true_eq]; first | (have := i1.mpr.mt q; omega) | (have := i2.mpr.mt q; omega) | (have := i3.mpr.mt q; omega) | (have := i4.mpr.mt q; omega)))] at hk; exact hk) (fun q => by rw [if_neg (by simp only [am_cm, decide_eq_true_eq]; first | (exact fun w => q (i0.mpr w)) | (exact fun w => w (i0.mp q)) | (exact fun w => q (i1.mpr w)) | (exact fun w => q (i2.mpr w)) | (exact fun w => q (i3.mpr w)) | (exact fun w => q (i4.mpr w)) | (have := i1.mp q; omega) | (have := i2.mp q; omega) | (have := i3.mp q; omega) | (have := i4.mp q; omega))] at hk; exact hk)
set_option maxHeartbeats 2000000 in
theorem am_t_tableswitch {d lo hi : Int} {offs : Array Int} (hx : p.tables.exec = Jvm.exec) (hb : c.code = cc) (hown : s.vm.findClass own = some m.cls) (hts : ∀ w ∈ am_good, w.before args s = true) (hnm : meth.name = nm) (hK : va_K D vwCl (am_tys cs) s) (hX : va_X b sn xs s s.heap) (hbb : b < base) (hbs : base ≤ s.heap.size) (hSR : am_SR S s) (h : am_stp sn (fun j => (xs j).toInt) (.tableswitch d lo hi offs, n, a, z) pc L st sh g = some (pc', L', st', sh', g')) (hdg : decode cc pc = .ok (.tableswitch d lo hi offs, n)) (hok : am_okI own nm pc (.tableswitch d lo hi offs, n, a, z)) (hl : am_LR base b S ls L) (hP : va_P D vwCl (am_ws base cs sh g) H) (hS : va_S (am_AA base) s.heap H locs) (kk : ∀ (H1 : Heap) (locs1 : List Loc) (ls1 : Array Slot), va_P D vwCl (am_ws base cs sh' g') H1 → H1.size = H.size → va_S (am_AA base) s.heap H1 locs1 → am_LR base b S ls1 L' → W p l e R s m args below meth c H1 locs1 cells slots Q (F0 m pc' ls1 (st'.map (am_cv base b S)))) : W p l e R s m args below meth c H locs cells slots Q (F0 m pc ls (st.map (am_cv base b S))) := by
  obtain ⟨hlen, hlk⟩ := hok
  replace h := Option.bind_eq_some_iff.mp h
  obtain ⟨⟨x, t⟩, h1, h⟩ := h
  replace h1 := am_pp_iff.mp h1
  simp only at h1 h
  subst h1
  obtain ⟨q, h2, h⟩ := Option.bind_eq_some_iff.mp h
  replace h := Option.some.inj h
  simp only [Prod.mk.injEq] at h
  obtain ⟨rfl, rfl, rfl, rfl, rfl⟩ := h
  have hk := kk H locs ls hP rfl hS hl
  unfold am_sw at h2
  by_cases hc : w32 x < lo ∨ hi < w32 x
  · rw [if_pos hc] at h2
    split at h2
    case isFalse => cases h2
    cases h2
    exact lv_tableOut (x := Int32.ofInt x) hx hb hdg (by rw [w32_toInt]; exact hc) (by omega) hk
  · rw [if_neg hc] at h2
    obtain ⟨off, h3, h4⟩ := Option.bind_eq_some_iff.mp h2
    split at h4
    case isFalse => cases h4
    cases h4
    exact lv_tableIn (x := Int32.ofInt x) (off := off) hx hb hdg (by rw [w32_toInt]; exact fun w => hc (Or.inl w)) (by rw [w32_toInt]; exact fun w => hc (Or.inr w)) (by rw [w32_toInt]; exact h3) (by omega) hk
end AMS
