/-! THE CLAIM OUT OF ONE WALK OF THE LAW'S BODY. Your part is whole_start (and what it stands on); all else here is the same for every law, but numbers. -/
def R_law : String := "LeaningWheelLaw"
def lw_P (b : Addr) (xs : List Int32) (args : Array Value) (s : State) : Prop := args = #[.ref b] ∧ s.IntsAt b xs ∧ xs.length ≤ 3585 ∧ (Jvm.Cond.and given_1 narrow_1).before args s = true
def lw_Q (_ : Array Value) (s : State) (o : Outcome) (t : State) : Prop := o = .returned (some (.int 1)) ∧ Framed s o t [] 600000 7302250
def lw_Z (below : List Frame) (a : Array Value) (s : State) : State → Prop := fun t => ∃ o, t.status = .running ∧ Ended t below o ∧ lw_Q a s o t
/-- the law's own end, with 1 on the stack, nothing written that was there before, its room as the claim has it -/
theorem lw_ret {p : Program} {l : Launch} {e : Env} {s : State} {m : MethodId} {below : List Frame} {meth : Method} {c : Code} {b : Nat} (hx : p.tables.exec = Jvm.exec) (hb : c.code = code) (hr : meth.sig.returnType = ret) (hlocks : meth.locks = false) {pc : Nat} {H : Heap} {ls : Array Slot} (hdg : decode code pc = .ok (.ireturn, 1)) : W p l e room_1 s m #[Value.ref b] below meth c H [] 600000 7302250 (lw_Z below #[Value.ref b] s) (F0 m pc ls [.int 1]) := by
  intro T hT X
  obtain ⟨fs, hret, hrun, hended, hW, hframe⟩ := X.leave (v := some (.int 1)) (hlocks := hlocks) (fun h => by rw [hr] at h; cases h)
  have hmeth' : T.vm.method? m = some meth := X.method'
  refine ⟨T.setFrames fs, ?_, .returned (some (.int 1)), hrun, hended, rfl, ⟨_, rfl⟩, hW, hframe⟩
  jvm_step X.here [X.here.top, hx, hb, hdg, hmeth', hr, ret, narrow_b1]
  (try refine ⟨rfl, ?_⟩); (try refine ⟨rfl, ?_⟩)
  first | (intro acts; rw [hret _ acts rfl rfl rfl]) | rw [hret _ _ rfl rfl rfl]
  exact Steps.refl _
/-- what holds at the law's entry: the machine, the code, the tables' words (any of lw_tbl by 'hts w (by decide +kernel)'), the script of L ints xs at the cell b, what the Statement gives of the start (any of its parts by flat_of_before) -/
def lw_At (p : Program) (s : State) (m : MethodId) (meth : Method) (c : Code) (b L : Nat) (xs : Nat → Int32) : Prop :=
  p.tables.exec = Jvm.exec ∧ c.code = code ∧ meth.sig.returnType = ret ∧ c.maxLocals = 4 ∧ s.vm.findClass R_law = some m.cls ∧ (∀ w ∈ lw_tbl, w.before #[Value.ref b] s = true) ∧ va_X b L xs s s.heap ∧ b < s.heap.size ∧ meth.locks = false ∧ (Jvm.Cond.and given_1 narrow_1).before #[Value.ref b] s = true
def nwP : List Nat := [9, 17, 25, 36, 45, 58, 72, 87, 102, 118, 136, 154, 173, 193, 214, 235, 257]
def nwSp : List Nat := [740, 741, 742, 743, 744, 745, 746, 747, 748, 749, 750, 751, 752, 753, 754, 755, 756]
abbrev nwT (i : Nat) : Term := Term.string RX7 (am_sidx.getD i 0)
abbrev nwV (i : Nat) : Term := Term.field (nwT i) "java/lang/String" "value" "[B"
def nwL : List Cond := flatC (Cond.and given_1 narrow_1)
set_option maxRecDepth 100000 in
theorem nw_1 : ∀ i : Fin 17, nwL[nwP.getD i.val 0]? = some (Cond.exactly (nwT i.val) "java/lang/String") ∧ nwL[nwP.getD i.val 0 + 1]? = some (Cond.eq (.field (nwT i.val) "java/lang/String" "coder" "B") (.int 0)) ∧ nwL[nwP.getD i.val 0 + 2]? = some (Cond.arrayOf (nwV i.val) .byte) ∧ nwL[nwP.getD i.val 0 + 3]? = some (Cond.eq (.length (nwV i.val)) (.int (Int32.ofNat (am_slen.getD i.val 0)))) := by decide +kernel
set_option maxRecDepth 100000 in
theorem nw_2 : ∀ (i : Fin 17) (j : Fin 5), j.val < am_slen.getD i.val 0 → nwL[nwP.getD i.val 0 + 4 + j.val]? = some (Cond.eq (.elem (nwV i.val) (.int (Int32.ofNat j.val))) (.int ((am_sb32.getD i.val []).getD j.val 0))) := by decide +kernel
set_option maxRecDepth 100000 in
theorem nw_3 : ∀ (i k : Fin 17), k.val < i.val → nwL[nwP.getD i.val 0 + 4 + am_slen.getD i.val 0 + k.val]? = some (Cond.not (Cond.eq (nwT k.val) (nwT i.val))) := by decide +kernel
set_option maxRecDepth 100000 in
theorem nw_4 : nwL[4]? = some (Cond.eq (.static "java/lang/String" "COMPACT_STRINGS" "Z") (.int 1)) ∧ nwL[5]? = some (Cond.isRef (.static "jdk/internal/util/Preconditions" "SIOOBE_FORMATTER" "Ljava/util/function/BiFunction;")) := by decide +kernel
set_option maxRecDepth 100000 in
theorem nw_5 : ∀ i : Fin 17, lw_tbl[nwSp.getD i.val 0]? = some (Cond.stringRef RX7 (am_sidx.getD i.val 0) (am_stx.getD i.val "")) := by decide +kernel
set_option maxRecDepth 100000 in
theorem nw_6 : lw_tbl[447]? = some (Cond.arrayOver (.object "LeaningWheel$Big")) ∧ lw_tbl[766]? = some (Cond.laysStatic "java/lang/String" "COMPACT_STRINGS" "Z") ∧ lw_tbl[782]? = some (Cond.laysStatic "jdk/internal/util/Preconditions" "SIOOBE_FORMATTER" "Ljava/util/function/BiFunction;") ∧ lw_tbl[119]? = some (Cond.initialized "java/lang/String") ∧ lw_tbl[121]? = some (Cond.initialized "jdk/internal/util/Preconditions") := by decide +kernel
theorem st_S {args : Array Value} {s : State} (hn : ∀ c ∈ nwL, c.before args s = true) (hA : ∀ a : Nat, a < s.heap.size → ¬ am_AA s.heap.size a) : ∃ adK adV : Nat → Nat, vk_S 17 am_slen am_sb32 adK adV (am_AA s.heap.size) s s.heap ∧ ∀ i : Nat, i < 17 → (nwT i).eval args s none [] s = some (.ref (adK i)) := by
  have hm : ∀ (k : Nat) (c : Cond), nwL[k]? = some c → c.before args s = true := fun k c h => hn c (List.mem_of_getElem? h)
  have hlen : ∀ i : Fin 17, am_slen.getD i.val 0 ≤ 5 := by decide +kernel
  refine vk_Sof (tm := nwT) (fun i hi => Nat.lt_of_le_of_lt (hlen ⟨i, hi⟩) (by decide)) (fun i hi => hm _ _ (nw_1 ⟨i, hi⟩).1) (fun i hi => hm _ _ (nw_1 ⟨i, hi⟩).2.1) (fun i hi => hm _ _ (nw_1 ⟨i, hi⟩).2.2.1) (fun i hi => hm _ _ (nw_1 ⟨i, hi⟩).2.2.2) (fun i hi j hj => hm _ _ (nw_2 ⟨i, hi⟩ ⟨j, Nat.lt_of_lt_of_le hj (hlen ⟨i, hi⟩)⟩ hj)) (fun i j hi hj hne => ?_) hA
  by_cases h : i < j
  · exact Or.inl (hm _ _ (nw_3 ⟨j, hj⟩ ⟨i, hi⟩ h))
  · exact Or.inr (hm _ _ (nw_3 ⟨i, hi⟩ ⟨j, hj⟩ (show j < i by omega)))
theorem st_F {p : Program} {s : State} {m : MethodId} {meth : Method} {c : Code} {b L : Nat} {xs : Nat → Int32} (C0 : lw_At p s m meth c b L xs) : ∃ (D : va_G) (cs : am_C4) (S : Nat → Nat), am_F s.heap.size b L xs D cs S s := by
  obtain ⟨hx, hb, hr, hml, hown, hts, hX, hbl, hlocks, hgv⟩ := C0
  have hA : ∀ a : Nat, a < s.heap.size → ¬ am_AA s.heap.size a := fun a h => Nat.not_le.mpr h
  have hg : ∀ w ∈ am_good, w.before #[Value.ref b] s = true := fun w hw => hts w (am_gt w hw)
  have hw : ∀ (k : Nat) (w : Cond), lw_tbl[k]? = some w → w.before #[Value.ref b] s = true := fun k w h => hts w (List.mem_of_getElem? h)
  have hn : ∀ w ∈ nwL, w.before #[Value.ref b] s = true := flat_of_before _ hgv
  have h0 : ∀ k : Nat, ∃ z : ClassId × (Nat → Nat), ∀ q : vw_C, vwCl[k]? = some q → u_Kn s q.1 q.2.1 q.2.2 z.1 z.2 := fun k => by
    cases hq : vwCl[k]? with
    | none => exact ⟨(0, fun _ => 0), fun q h => by cases h⟩
    | some q =>
      obtain ⟨cC, iS, h⟩ := u_known (C := q.1) (T := q.2.1) (N := q.2.2) (n := q.2.2) hg (am_cl_ok hq).1 (hg _ (am_in_all hq).1)
      exact ⟨(cC, iS), fun q' h' => by cases h'; exact h⟩
  obtain ⟨z, hz⟩ := Classical.axiomOfChoice h0
  obtain ⟨cI, kI, pI, fI, gI, tI⟩ := Cond.arrayClass_spec (hg _ am_arrI)
  obtain ⟨cJ, kJ, pJ, fJ, gJ, tJ⟩ := Cond.arrayClass_spec (hg _ am_arrJ)
  obtain ⟨cZ, kZ, pZ, fZ, gZ, tZ⟩ := Cond.arrayClass_spec (hg _ am_arrZ)
  obtain ⟨pO, cO, kO, f1, f2, f3, f4, f5⟩ := Cond.arrayOver_spec (hw _ _ nw_6.1)
  have hK : va_K (fun k => (z k).1, fun k => (z k).2) vwCl (am_tys (cI, cJ, cZ, cO)) s := by
    refine ⟨fun k q hq => hz k q hq, fun k q hk => ?_⟩
    match k, hk with
    | 0, hk => cases hk; exact ⟨fun n y => ⟨(fun k h => by cases h), kI, gI, pI, tI⟩, fI⟩
    | 1, hk => cases hk; exact ⟨fun n y => ⟨(fun k h => by cases h), kJ, gJ, pJ, tJ⟩, fJ⟩
    | 2, hk => cases hk; exact ⟨fun n y => ⟨(fun k h => by cases h), kZ, gZ, pZ, tZ⟩, fZ⟩
    | 3, hk => cases hk; exact ⟨fun n y => ⟨(fun k h => by cases h), kO, f3, pO, f4⟩, kO, pO, f3, f4, f1, f5⟩
    | k + 4, hk => simp [am_tys] at hk
  obtain ⟨adK, adV, hV, hE⟩ := st_S hn hA
  have eK : ∀ i, i < 17 → (fun i => if i < 100 then adK i else adV (i - 100)) i = adK i := fun i hi => if_pos (by omega)
  have eV : ∀ i, (fun i => (fun i => if i < 100 then adK i else adV (i - 100)) (i + 100)) i = adV i := fun i => by
    show (if i + 100 < 100 then adK (i + 100) else adV (i + 100 - 100)) = adV i
    rw [if_neg (by omega), Nat.add_sub_cancel]
  refine ⟨(fun k => (z k).1, fun k => (z k).2), (cI, cJ, cZ, cO), fun i => if i < 100 then adK i else adV (i - 100), hK, hX, hbl, Nat.le_refl _, fun i hi => ?_, fun w hw2 => ?_, va_AO.of (hw _ _ nw_6.1), va_Zof (hw _ _ nw_6.2.1) (hw _ _ nw_6.2.2.2.1) (va_eqt (hn _ (List.mem_of_getElem? nw_4.1))) hA, va_Zqof (hw _ _ nw_6.2.2.1) (hw _ _ nw_6.2.2.2.2) (hn _ (List.mem_of_getElem? nw_4.2)) hA, ?_⟩
  · rw [eK i hi]
    exact vk_R.of (hw _ _ (nw_5 ⟨i, hi⟩)) (hE i hi)
  · have hw3 := hts w (am_nst_in w hw2)
    obtain ⟨x1, x2, x3, x4, rfl⟩ := am_nst_form w hw2
    exact va_Nw.of rfl hw3
  · refine ⟨fun i hi => ?_, fun i j hi hj e => ?_⟩
    · rw [eK i hi]
      have h := hV.1 i hi
      have e := eV i
      exact ⟨h.1, h.2.1, e ▸ h.2.2.1, e ▸ h.2.2.2⟩
    · rw [eK i hi, eK j hj] at e
      exact hV.2 i j hi hj e
theorem okI_law {own nm : String} {pc : Nat} {e : am_E} (h : am_okI own "law" pc e) : am_okI own nm pc e := by
  obtain ⟨I, n, a, z⟩ := e
  obtain ⟨h1, h2⟩ := h
  refine ⟨h1, ?_⟩
  cases I <;> first | exact h2 | (obtain ⟨q, h3, h4⟩ := h2; exact ⟨q, h3, fun hf => absurd (h4 hf).1 (by decide)⟩)
set_option maxRecDepth 100000 in
theorem sh_len (b : Nat) : (SH b).length = 144 := rfl
set_option maxRecDepth 100000 in
theorem sh_lens (b : Nat) : (SH b).map (fun o => o.2.1) = [15, 5, 148, 148, 128, 4, 5, 1800, 24, 24, 17, 200, 200, 200, 200, 12, 120, 4, 60, 60, 60, 20, 20, 5, 5, 148, 148, 128, 4, 5, 1800, 24, 24, 17, 200, 200, 200, 200, 12, 120, 4, 60, 60, 60, 20, 20, 5, 12, 300, 3, 11, 64, 8, 37, 12, 37, 14, 4, 4, 12, 3, 3, 4, 12, 4, 2, 40, 2, 40, 2, 40, 2, 40, 2, 40, 2, 40, 2, 40, 2, 40, 2, 40, 2, 40, 2, 40, 2, 40, 2, 40, 2, 40, 2, 40, 2, 40, 2, 40, 2, 40, 2, 40, 11, 2, 40, 2, 40, 2, 40, 2, 40, 2, 40, 2, 40, 2, 40, 2, 40, 17, 41, 41, 41, 41, 21, 37, 38, 1620, 1620, 4800, 300, 160, 11, 330, 37, 13000, 3, 3, 37, 37, 37, 41, 37] := rfl
theorem sh_tot (b : Nat) : am_tot (SH b) ≤ 7302250 := by
  unfold am_tot
  rw [sh_lens]
  decide +kernel
set_option maxHeartbeats 1000000 in
theorem whole_start {p : Program} {e : Env} {s : State} {m : MethodId} {below : List Frame} {meth : Method} {c : Code} (l : Launch) (hflags : l.flags = flags0) {b L : Nat} {xs : Nat → Int32} (hL : L ≤ 3585) (C0 : lw_At p s m meth c b L xs) : W p l e room_1 s m #[Value.ref b] below meth c s.heap [] 0 0 (lw_Z below #[Value.ref b] s) (entryFrame m ([Value.ref b] : List Value).toArray 4) := by
  obtain ⟨D, cs, S, hF⟩ := st_F C0
  obtain ⟨hx, hb, hr, hml, hown, hts, hX, hbl, hlocks, hgv⟩ := C0
  have hg : ∀ w ∈ am_good, w.before #[Value.ref b] s = true := fun w hw => hts w (am_gt w hw)
  have hR : ∀ j, R32 ((xs j).toInt) := fun j => ⟨by have := Int32.le_toInt (xs j); omega, by have := Int32.toInt_lt (xs j); omega⟩
  obtain ⟨⟨r1, r2⟩, ⟨q1, bb, g1, q2⟩, f0, hf⟩ := law_run (sn := L) (sx := fun j => (xs j).toInt) (z := 0) (g := fun _ _ => 0) hL hR
  have q1 : r1 = some (0, 1) := q1
  have q2 : r2 = (SH bb, g1) := q2
  subst q1
  subst q2
  have hrun := hf f0 f0 (Nat.le_refl _) (Nat.le_refl _)
  rw [lg_entry_eq]
  have hll := lv_entry ([.ref b]) (n := 4) (Nat.le_of_ble_eq_true rfl)
  generalize (lg_sl ([.ref b]) ++ List.replicate (4 - (lg_sl ([.ref b])).length) Slot.unset).toArray = ls at hll ⊢
  have hl : am_LR s.heap.size b S ls [(5, 0), (9, 0), (9, 0), (9, 0)] := ⟨hll.1, hll.2.1, fun q hq => hll.2.2 q (am_al_lay (base := s.heap.size) (b := b) (S := S) (k := 3) [(5, 0)] 0 hq)⟩
  refine am_body (R := room_1) (d := 80) (tb := am_fd TL) (ret := some .boolean) (nm := meth.name) (own := "LeaningWheelLaw") (cc := code) (base := s.heap.size) (b := b) (sn := L) (xs := xs) (D := D) (cs := cs) (S := S) (r := (some (0, 1), SH bb, g1)) (CE := 144) (SE := am_tot (SH bb)) hx hb hown hg rfl hF (am_ev_len f0 80) (am_sim am_hall am_prims f0 80) (Nat.le_of_ble_eq_true rfl) (Nat.le_of_ble_eq_true rfl) (fun pc en he => ?_) (Nat.le_of_ble_eq_true rfl) (sh_tot bb) ?_ f0 0 [(5, 0), (9, 0), (9, 0), (9, 0)] [] [] (fun _ _ => 0) s.heap [] 0 0 ls hrun hml.symm hl (fun k q h => by simp [am_ws] at h) rfl va_S.rf (by rw [sh_len]; rfl) (by show 0 + (am_tot (SH bb) - 0) = am_tot (SH bb); omega)
  · obtain ⟨k1, k2, k3⟩ := okL pc en he
    exact ⟨k1, okI_law k2, k3⟩
  · intro pc en st H1 locs1 ls1 h1 h2 hP hz hS
    obtain ⟨hdg, hI, -⟩ := okL pc en h1
    obtain ⟨I, n, a, z⟩ := en
    obtain ⟨hlen, -⟩ := hI
    cases I <;> simp only [am_ret, reduceCtorEq] at h2
    case return_ =>
      split at h2
      · cases h2
      · cases h2
    case ireturn =>
      have hn : n = 1 := hlen (fun w => by cases w)
      subst hn
      split at h2
      case h_2 => cases h2
      rename_i v
      have hv : v = (0, 1) := by
        split at h2
        case isFalse => cases h2
        split at h2
        · split at h2
          · exact Option.some.inj (Option.some.inj h2)
          · cases h2
        · exact Option.some.inj (Option.some.inj h2)
      subst hv
      refine va_forget hS.2.2 (W.widen (k := 600000) (n := 7302250) (Nat.le_of_ble_eq_true rfl) (sh_tot bb) ?_)
      exact lw_ret hx hb hr hlocks hdg
    case lreturn =>
      split at h2
      case h_2 => cases h2
      split at h2
      case isFalse => cases h2
      rename_i v hv
      have := Option.some.inj (Option.some.inj h2)
      subst this
      cases hv
    case areturn =>
      split at h2
      case h_2 => cases h2
      split at h2
      case isFalse => cases h2
      rename_i v hv
      have := Option.some.inj (Option.some.inj h2)
      subst this
      cases hv

