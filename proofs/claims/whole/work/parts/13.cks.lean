/-! every table is its code, and links what the words say -/
def am_fin (ci k : Nat) : Bool := match vwCl[ci]? with
  | some q => (q.2.1 k).2.2.2
  | none => true
def am_ckE (c kd : Nat) (ret : Option FieldType) (pc : Nat) (e : am_E) : Bool := ((am_len e.1 == 0) || (e.2.1 == am_len e.1)) && match e.1 with
  | .ldc idx => if e.2.2.1 = 4 then (c == 7 && decide (e.2.2.2.toNat < 17) && (am_sidx.getD e.2.2.2.toNat 0 == idx)) else decide ((idx, e.2.2.2) ∈ am_kr c)
  | .ldc_w idx => decide ((idx, e.2.2.2) ∈ am_kr c)
  | .ldc2_w idx => decide ((idx, e.2.2.2) ∈ am_jr c)
  | .goto off => decide ((pc : Int) + off = (e.2.2.1 : Int))
  | .ifCond _ off => decide ((pc : Int) + off = (e.2.2.1 : Int))
  | .if_icmp _ off => decide ((pc : Int) + off = (e.2.2.1 : Int))
  | .getfield idx => decide ((idx, e.2.2.1, e.2.2.2.toNat) ∈ am_fr c)
  | .putfield idx => decide ((idx, e.2.2.1, e.2.2.2.toNat) ∈ am_fr c) && (!(am_fin e.2.2.1 e.2.2.2.toNat) || (kd == 2 && c == e.2.2.1))
  | .ireturn => if e.2.2.1 = 1 then decide (ret = some .boolean) else decide (ret = some .int)
  | .lreturn => decide (ret = some .long)
  | .areturn => decide (ret = some (.object "java/lang/String"))
  | .return_ => decide (ret = none)
  | .new idx => decide ((idx, e.2.2.1) ∈ am_cr c)
  | .newarray t => match t with
    | .int => true
    | .long => true
    | .boolean => true
    | _ => false
  | .anewarray idx => decide ((idx, 1) ∈ am_cr c)
  | .invokestatic idx => if e.2.2.1 = 1001 then decide (idx ∈ am_ac c) else decide ((idx, e.2.2.1) ∈ am_mr c) && decide (am_kn e.2.2.1 = some (0, e.2.2.2.toNat))
  | .invokevirtual idx => decide ((idx, e.2.2.1) ∈ am_mr c) && decide (am_kn e.2.2.1 = some (1, e.2.2.2.toNat))
  | .invokespecial idx => if e.2.2.1 = 1000 then decide (idx ∈ am_oi c) else decide ((idx, e.2.2.1) ∈ am_mr c) && decide (am_kn e.2.2.1 = some (2, e.2.2.2.toNat))
  | _ => true
theorem am_dc_0 : ∀ k, k < 8 → (TX0 k).1 = am_on 0 := by decide +kernel
theorem am_dc_1 : ∀ k, k < 2 → (TX1 k).1 = am_on 1 := by decide +kernel
theorem am_dc_2 : ∀ k, k < 17 → (TX2 k).1 = am_on 2 := by decide +kernel
theorem am_dc_3 : ∀ k, k < 11 → (TX3 k).1 = am_on 3 := by decide +kernel
theorem am_dc_4 : ∀ k, k < 3 → (TX4 k).1 = am_on 4 := by decide +kernel
theorem am_dc_5 : ∀ k, k < 17 → (TX5 k).1 = am_on 5 := by decide +kernel
theorem am_dc_6 : ∀ k, k < 12 → (TX6 k).1 = am_on 6 := by decide +kernel
theorem am_dc_7 : ∀ k, k < 12 → (TX7 k).1 = am_on 7 := by decide +kernel
theorem am_dc_8 : ∀ k, k < 5 → (TX8 k).1 = am_on 8 := by decide +kernel
theorem am_dc_9 : ∀ k, k < 5 → (TX9 k).1 = am_on 9 := by decide +kernel
theorem am_dc_10 : ∀ k, k < 14 → (TX10 k).1 = am_on 10 := by decide +kernel
theorem am_dc_11 : ∀ k, k < 15 → (TX11 k).1 = am_on 11 := by decide +kernel
theorem am_dc_12 : ∀ k, k < 38 → (TX12 k).1 = am_on 12 := by decide +kernel
theorem am_dc {ci : Nat} {q : vw_C} (h : vwCl[ci]? = some q) {k : Nat} (hk : k < q.2.2) : (q.2.1 k).1 = am_on ci := by
  match ci, h with
  | 0, h => cases h; exact am_dc_0 k hk
  | 1, h => cases h; exact am_dc_1 k hk
  | 2, h => cases h; exact am_dc_2 k hk
  | 3, h => cases h; exact am_dc_3 k hk
  | 4, h => cases h; exact am_dc_4 k hk
  | 5, h => cases h; exact am_dc_5 k hk
  | 6, h => cases h; exact am_dc_6 k hk
  | 7, h => cases h; exact am_dc_7 k hk
  | 8, h => cases h; exact am_dc_8 k hk
  | 9, h => cases h; exact am_dc_9 k hk
  | 10, h => cases h; exact am_dc_10 k hk
  | 11, h => cases h; exact am_dc_11 k hk
  | 12, h => cases h; exact am_dc_12 k hk
  | k + 13, h => simp [vwCl] at h
theorem am_okL_of {own : String} {c idx mid n kd : Nat} {M : am_M} (ho : own = am_on c) (hm : (idx, mid) ∈ am_mr c) (hk : am_kn mid = some (kd, n)) : ∃ M, am_mi mid = some M ∧ am_okL own idx n M ∧ am_mP kd n M := by
  obtain ⟨M, h1, h2⟩ := am_mr_all hm
  obtain ⟨w, h3, h4⟩ := am_mok_of h1
  cases hk.symm.trans h3
  refine ⟨M, h1, ⟨h4.2.2.1, h4.2.2.2.1, h4.2.2.2.2.1, ?_⟩, h4⟩
  rw [ho]
  exact h2
set_option maxHeartbeats 4000000 in
theorem am_ck_ok {c kd : Nat} {ret : Option FieldType} {pc : Nat} {e : am_E} {own nm : String} (h : am_ckE c kd ret pc e = true) (hn : kd = 2 → nm = "<init>") (ho : own = am_on c) : am_okE am_mi own nm ret pc e := by
  obtain ⟨I, n, a, z⟩ := e
  unfold am_ckE at h
  obtain ⟨h1, h2⟩ := Bool.and_eq_true_iff.mp h
  have hlen : am_len I ≠ 0 → n = am_len I := fun q => by
    rcases Bool.or_eq_true_iff.mp h1 with w | w
    · exact absurd (eq_of_beq w) q
    · exact eq_of_beq w
  unfold am_okE
  cases I
  case ldc k =>
    refine ⟨⟨hlen, ?_⟩, trivial, trivial, trivial⟩
    simp only at h2 ⊢
    split at h2
    · rename_i h4
      rw [if_pos h4]
      simp only [Bool.and_eq_true, decide_eq_true_eq, beq_iff_eq] at h2
      exact ⟨by rw [ho, h2.1.1]; rfl, h2.1.2, h2.2⟩
    · rename_i h4
      rw [if_neg h4, ho]
      exact am_kr_all (of_decide_eq_true h2)
  case ldc_w k => exact ⟨⟨hlen, by rw [ho]; exact am_kr_all (of_decide_eq_true h2)⟩, trivial, trivial, trivial⟩
  case ldc2_w k => exact ⟨⟨hlen, by rw [ho]; exact am_jr_all (of_decide_eq_true h2)⟩, trivial, trivial, trivial⟩
  case goto k => exact ⟨⟨hlen, of_decide_eq_true h2⟩, trivial, trivial, trivial⟩
  case ifCond k d => exact ⟨⟨hlen, of_decide_eq_true h2⟩, trivial, trivial, trivial⟩
  case if_icmp k d => exact ⟨⟨hlen, of_decide_eq_true h2⟩, trivial, trivial, trivial⟩
  case getfield k =>
    obtain ⟨r, r1, r2, r3⟩ := am_fr_all (of_decide_eq_true h2)
    exact ⟨⟨hlen, r, r1, r2, by rw [ho]; exact r3⟩, trivial, trivial, trivial⟩
  case putfield k =>
    obtain ⟨h3, h4⟩ := Bool.and_eq_true_iff.mp h2
    obtain ⟨r, r1, r2, r3⟩ := am_fr_all (of_decide_eq_true h3)
    refine ⟨⟨hlen, r, ⟨r1, r2, by rw [ho]; exact r3⟩, fun hf => ?_⟩, trivial, trivial, trivial⟩
    have e1 : am_fin a z.toNat = true := by
      unfold am_fin
      simp only at r1
      rw [r1]
      exact hf
    simp only [e1, Bool.not_true, Bool.false_or, Bool.and_eq_true, beq_iff_eq] at h4
    exact ⟨hn h4.1, by rw [ho, h4.2]; exact am_dc r1 r2⟩
  case ireturn =>
    refine ⟨⟨hlen, trivial⟩, ?_, trivial, trivial⟩
    simp only at h2
    split at h2
    · rename_i h4
      exact Or.inl ⟨h4, of_decide_eq_true h2⟩
    · rename_i h4
      exact Or.inr ⟨h4, of_decide_eq_true h2⟩
  case lreturn => exact ⟨⟨hlen, trivial⟩, (show ret = some .long from of_decide_eq_true h2), trivial, trivial⟩
  case areturn => exact ⟨⟨hlen, trivial⟩, (show ret = some (.object "java/lang/String") from of_decide_eq_true h2), trivial, trivial⟩
  case return_ => exact ⟨⟨hlen, trivial⟩, (show ret = none from of_decide_eq_true h2), trivial, trivial⟩
  case new k =>
    obtain ⟨r, r1, r2⟩ := am_cr_all (of_decide_eq_true h2)
    obtain ⟨r3, r4⟩ := am_in_all r1
    exact ⟨⟨hlen, trivial⟩, trivial, ⟨r, r1, by rw [ho]; exact r2, r3, r4⟩, trivial⟩
  case newarray t =>
    refine ⟨⟨hlen, trivial⟩, trivial, ?_, trivial⟩
    cases t <;> first | exact am_arrI | exact am_arrJ | exact am_arrZ | cases h2
  case anewarray k =>
    obtain ⟨r, r1, r2⟩ := am_cr_all (of_decide_eq_true h2)
    cases r1
    exact ⟨⟨hlen, trivial⟩, trivial, by rw [ho]; exact r2, trivial⟩
  case invokestatic k =>
    refine ⟨⟨hlen, trivial⟩, trivial, trivial, ?_⟩
    simp only [am_okC] at h2 ⊢
    split at h2
    · rename_i h4
      rw [if_pos h4, ho]
      exact ⟨am_ac_all (of_decide_eq_true h2), am_acw⟩
    · rename_i h4
      rw [if_neg h4]
      obtain ⟨h5, h6⟩ := Bool.and_eq_true_iff.mp h2
      obtain ⟨M, m1, m2, m3⟩ := am_okL_of (M := am_Ml) ho (of_decide_eq_true h5) (of_decide_eq_true h6)
      exact ⟨M, m1, m2, m3.2.2.2.2.2⟩
  case invokevirtual k =>
    refine ⟨⟨hlen, trivial⟩, trivial, trivial, ?_⟩
    simp only [am_okC] at h2 ⊢
    obtain ⟨h5, h6⟩ := Bool.and_eq_true_iff.mp h2
    obtain ⟨M, m1, m2, m3⟩ := am_okL_of (M := am_Ml) ho (of_decide_eq_true h5) (of_decide_eq_true h6)
    obtain ⟨m4, m5, m6⟩ := m3.2.2.2.2.2
    exact ⟨M, m1, m2, m4, m5, m6⟩
  case invokespecial k =>
    refine ⟨⟨hlen, trivial⟩, trivial, trivial, ?_⟩
    simp only [am_okC] at h2 ⊢
    split at h2
    · rename_i h4
      rw [if_pos h4, ho]
      exact ⟨am_oi_all (of_decide_eq_true h2), am_oiw⟩
    · rename_i h4
      rw [if_neg h4]
      obtain ⟨h5, h6⟩ := Bool.and_eq_true_iff.mp h2
      obtain ⟨M, m1, m2, m3⟩ := am_okL_of (M := am_Ml) ho (of_decide_eq_true h5) (of_decide_eq_true h6)
      obtain ⟨m4, m5, m6⟩ := m3.2.2.2.2.2
      exact ⟨M, m1, m2, m4, m5, m6⟩
  all_goals exact ⟨⟨hlen, trivial⟩, trivial, trivial, trivial⟩
/-- a table is its code -/
abbrev am_ckT (cc : ByteArray) (c kd : Nat) (ret : Option FieldType) (T : List (Nat × am_E)) : Prop := ∀ q ∈ T, decode cc q.1 = .ok (q.2.1, q.2.2.1) ∧ am_ckE c kd ret q.1 q.2 = true
theorem am_ckT_ok {k : Nat} {M : am_M} {T : List (Nat × am_E)} {c kd n : Nat} (hP : am_mP kd n M) (hc : M.1.cls = am_on c) (h : am_ckT M.2.1 c kd M.2.2.2.1 T) (hn : kd = 2 → M.1.name = "<init>") : am_okM am_mi M (am_fd T) := ⟨hP.1, hP.2.1, fun pc e he => by
  obtain ⟨h1, h2⟩ := h _ (am_fd_mem he)
  exact ⟨h1, am_ck_ok h2 hn hc⟩⟩
set_option maxRecDepth 100000 in
theorem ck_0 : am_ckT prog_2_method_1_code 0 2 (none) T0 := by decide +kernel
theorem ok_0 : am_okM am_mi (⟨"LeaningWheel$Ball", "<init>", "(LLeaningWheel$Wheels;LLeaningWheel$Texts;LLeaningWheel$Machine;)V"⟩, prog_2_method_1_code, 4, none, 0) (am_fd T0) := am_ckT_ok (k := 0) am_m_0 rfl ck_0 (fun h => rfl)
set_option maxRecDepth 100000 in
theorem ck_1 : am_ckT prog_2_method_2_code 0 1 (none) T1 := by decide +kernel
theorem ok_1 : am_okM am_mi (⟨"LeaningWheel$Ball", "roll", "(IIIII)V"⟩, prog_2_method_2_code, 11, none, 0) (am_fd T1) := am_ckT_ok (k := 0) am_m_1 rfl ck_1 (fun h => by cases h)
set_option maxRecDepth 100000 in
theorem ck_2 : am_ckT prog_2_method_3_code 0 1 (none) T2 := by decide +kernel
theorem ok_2 : am_okM am_mi (⟨"LeaningWheel$Ball", "see", "(III)V"⟩, prog_2_method_3_code, 4, none, 0) (am_fd T2) := am_ckT_ok (k := 0) am_m_2 rfl ck_2 (fun h => by cases h)
set_option maxRecDepth 100000 in
theorem ck_3 : am_ckT prog_2_method_4_code 0 1 (none) T3 := by decide +kernel
theorem ok_3 : am_okM am_mi (⟨"LeaningWheel$Ball", "skip", "(I)V"⟩, prog_2_method_4_code, 9, none, 0) (am_fd T3) := am_ckT_ok (k := 0) am_m_3 rfl ck_3 (fun h => by cases h)
set_option maxRecDepth 100000 in
theorem ck_4 : am_ckT prog_3_method_1_code 1 2 (none) T4 := by decide +kernel
theorem ok_4 : am_okM am_mi (⟨"LeaningWheel$Big", "<init>", "()V"⟩, prog_3_method_1_code, 1, none, 1) (am_fd T4) := am_ckT_ok (k := 0) am_m_4 rfl ck_4 (fun h => rfl)
set_option maxRecDepth 100000 in
theorem ck_5 : am_ckT prog_3_method_2_code 1 1 (none) T5 := by decide +kernel
theorem ok_5 : am_okM am_mi (⟨"LeaningWheel$Big", "set", "(I)V"⟩, prog_3_method_2_code, 2, none, 1) (am_fd T5) := am_ckT_ok (k := 0) am_m_5 rfl ck_5 (fun h => by cases h)
set_option maxRecDepth 100000 in
theorem ck_6 : am_ckT prog_3_method_3_code 1 1 (none) T6 := by decide +kernel
theorem ok_6 : am_okM am_mi (⟨"LeaningWheel$Big", "set", "(LLeaningWheel$Big;)V"⟩, prog_3_method_3_code, 2, none, 1) (am_fd T6) := am_ckT_ok (k := 0) am_m_6 rfl ck_6 (fun h => by cases h)
set_option maxRecDepth 100000 in
theorem ck_7 : am_ckT prog_3_method_4_code 1 1 (none) T7 := by decide +kernel
theorem ok_7 : am_okM am_mi (⟨"LeaningWheel$Big", "times", "(I)V"⟩, prog_3_method_4_code, 7, none, 1) (am_fd T7) := am_ckT_ok (k := 0) am_m_7 rfl ck_7 (fun h => by cases h)
set_option maxRecDepth 100000 in
theorem ck_8 : am_ckT prog_3_method_5_code 1 1 (none) T8 := by decide +kernel
theorem ok_8 : am_okM am_mi (⟨"LeaningWheel$Big", "times", "(LLeaningWheel$Big;LLeaningWheel$Big;)V"⟩, prog_3_method_5_code, 12, none, 1) (am_fd T8) := am_ckT_ok (k := 0) am_m_8 rfl ck_8 (fun h => by cases h)
set_option maxRecDepth 100000 in
theorem ck_9 : am_ckT prog_3_method_6_code 1 1 (none) T9 := by decide +kernel
theorem ok_9 : am_okM am_mi (⟨"LeaningWheel$Big", "over", "(I)V"⟩, prog_3_method_6_code, 7, none, 1) (am_fd T9) := am_ckT_ok (k := 0) am_m_9 rfl ck_9 (fun h => by cases h)
set_option maxRecDepth 100000 in
theorem ck_10 : am_ckT prog_3_method_7_code 1 1 (none) T10 := by decide +kernel
theorem ok_10 : am_okM am_mi (⟨"LeaningWheel$Big", "plus", "(LLeaningWheel$Big;)V"⟩, prog_3_method_7_code, 7, none, 1) (am_fd T10) := am_ckT_ok (k := 0) am_m_10 rfl ck_10 (fun h => by cases h)
set_option maxRecDepth 100000 in
theorem ck_11 : am_ckT prog_3_method_8_code 1 1 (none) T11 := by decide +kernel
theorem ok_11 : am_okM am_mi (⟨"LeaningWheel$Big", "minus", "(LLeaningWheel$Big;)V"⟩, prog_3_method_8_code, 7, none, 1) (am_fd T11) := am_ckT_ok (k := 0) am_m_11 rfl ck_11 (fun h => by cases h)
set_option maxRecDepth 100000 in
theorem ck_12 : am_ckT prog_3_method_9_code 1 1 (some .boolean) T12 := by decide +kernel
theorem ok_12 : am_okM am_mi (⟨"LeaningWheel$Big", "reaches", "(LLeaningWheel$Big;)Z"⟩, prog_3_method_9_code, 3, some .boolean, 1) (am_fd T12) := am_ckT_ok (k := 0) am_m_12 rfl ck_12 (fun h => by cases h)
set_option maxRecDepth 100000 in
theorem ck_13 : am_ckT prog_3_method_10_code 1 1 (some .int) T13 := by decide +kernel
theorem ok_13 : am_okM am_mi (⟨"LeaningWheel$Big", "share", "(LLeaningWheel$Big;ILLeaningWheel$Big;)I"⟩, prog_3_method_10_code, 6, some .int, 1) (am_fd T13) := am_ckT_ok (k := 0) am_m_13 rfl ck_13 (fun h => by cases h)
set_option maxRecDepth 100000 in
theorem ck_14 : am_ckT prog_3_method_11_code 1 1 (none) T14 := by decide +kernel
theorem ok_14 : am_okM am_mi (⟨"LeaningWheel$Big", "grow", "(I)V"⟩, prog_3_method_11_code, 2, none, 1) (am_fd T14) := am_ckT_ok (k := 0) am_m_14 rfl ck_14 (fun h => by cases h)
set_option maxRecDepth 100000 in
theorem ck_15 : am_ckT prog_3_method_12_code 1 1 (none) T15 := by decide +kernel
theorem ok_15 : am_okM am_mi (⟨"LeaningWheel$Big", "push", "(I)V"⟩, prog_3_method_12_code, 2, none, 1) (am_fd T15) := am_ckT_ok (k := 0) am_m_15 rfl ck_15 (fun h => by cases h)
set_option maxRecDepth 100000 in
theorem ck_16 : am_ckT prog_3_method_13_code 1 1 (none) T16 := by decide +kernel
theorem ok_16 : am_okM am_mi (⟨"LeaningWheel$Big", "trim", "()V"⟩, prog_3_method_13_code, 1, none, 1) (am_fd T16) := am_ckT_ok (k := 0) am_m_16 rfl ck_16 (fun h => by cases h)
set_option maxRecDepth 100000 in
theorem ck_17 : am_ckT prog_4_method_1_code 2 2 (none) T17 := by decide +kernel
theorem ok_17 : am_okM am_mi (⟨"LeaningWheel$Book", "<init>", "()V"⟩, prog_4_method_1_code, 1, none, 2) (am_fd T17) := am_ckT_ok (k := 0) am_m_17 rfl ck_17 (fun h => rfl)
set_option maxRecDepth 100000 in
theorem ck_18 : am_ckT prog_4_method_2_code 2 1 (none) T18 := by decide +kernel
theorem ok_18 : am_okM am_mi (⟨"LeaningWheel$Book", "take", "(LLeaningWheel$Book;)V"⟩, prog_4_method_2_code, 2, none, 2) (am_fd T18) := am_ckT_ok (k := 0) am_m_18 rfl ck_18 (fun h => by cases h)
set_option maxRecDepth 100000 in
theorem ck_19 : am_ckT prog_4_method_3_code 2 1 (some .int) T19 := by decide +kernel
theorem ok_19 : am_okM am_mi (⟨"LeaningWheel$Book", "startAt", "(II)I"⟩, prog_4_method_3_code, 3, some .int, 2) (am_fd T19) := am_ckT_ok (k := 0) am_m_19 rfl ck_19 (fun h => by cases h)
set_option maxRecDepth 100000 in
theorem ck_20 : am_ckT prog_4_method_4_code 2 1 (some .int) T20 := by decide +kernel
theorem ok_20 : am_okM am_mi (⟨"LeaningWheel$Book", "writtenIn", "(I)I"⟩, prog_4_method_4_code, 4, some .int, 2) (am_fd T20) := am_ckT_ok (k := 0) am_m_20 rfl ck_20 (fun h => by cases h)
set_option maxRecDepth 100000 in
theorem ck_21 : am_ckT prog_4_method_5_code 2 1 (some .boolean) T21 := by decide +kernel
theorem ok_21 : am_okM am_mi (⟨"LeaningWheel$Book", "fellAt", "(III)Z"⟩, prog_4_method_5_code, 4, some .boolean, 2) (am_fd T21) := am_ckT_ok (k := 0) am_m_21 rfl ck_21 (fun h => by cases h)
set_option maxRecDepth 100000 in
theorem ck_22 : am_ckT prog_4_method_6_code 2 1 (some .boolean) T22 := by decide +kernel
theorem ok_22 : am_okM am_mi (⟨"LeaningWheel$Book", "hasBet", "(II)Z"⟩, prog_4_method_6_code, 4, some .boolean, 2) (am_fd T22) := am_ckT_ok (k := 0) am_m_22 rfl ck_22 (fun h => by cases h)
set_option maxRecDepth 100000 in
theorem ck_23 : am_ckT prog_4_method_7_code 2 1 (some .int) T23 := by decide +kernel
theorem ok_23 : am_okM am_mi (⟨"LeaningWheel$Book", "betsOf", "(I)I"⟩, prog_4_method_7_code, 4, some .int, 2) (am_fd T23) := am_ckT_ok (k := 0) am_m_23 rfl ck_23 (fun h => by cases h)
set_option maxRecDepth 100000 in
theorem ck_24 : am_ckT prog_4_method_8_code 2 1 (some .int) T24 := by decide +kernel
theorem ok_24 : am_okM am_mi (⟨"LeaningWheel$Book", "betsWon", "(I)I"⟩, prog_4_method_8_code, 4, some .int, 2) (am_fd T24) := am_ckT_ok (k := 0) am_m_24 rfl ck_24 (fun h => by cases h)
set_option maxRecDepth 100000 in
theorem ck_25 : am_ckT prog_5_method_1_code 3 2 (none) T25 := by decide +kernel
theorem ok_25 : am_okM am_mi (⟨"LeaningWheel$Chances", "<init>", "(I)V"⟩, prog_5_method_1_code, 2, none, 3) (am_fd T25) := am_ckT_ok (k := 0) am_m_25 rfl ck_25 (fun h => rfl)
set_option maxRecDepth 100000 in
theorem ck_26 : am_ckT prog_5_method_2_code 3 1 (some .int) T26 := by decide +kernel
theorem ok_26 : am_okM am_mi (⟨"LeaningWheel$Chances", "sets", "(I)I"⟩, prog_5_method_2_code, 5, some .int, 3) (am_fd T26) := am_ckT_ok (k := 0) am_m_26 rfl ck_26 (fun h => by cases h)
set_option maxRecDepth 100000 in
theorem ck_27 : am_ckT prog_5_method_3_code 3 1 (some .int) T27 := by decide +kernel
theorem ok_27 : am_okM am_mi (⟨"LeaningWheel$Chances", "even", "(IIII)I"⟩, prog_5_method_3_code, 5, some .int, 3) (am_fd T27) := am_ckT_ok (k := 0) am_m_27 rfl ck_27 (fun h => by cases h)
set_option maxRecDepth 100000 in
theorem ck_28 : am_ckT prog_5_method_4_code 3 1 (some .int) T28 := by decide +kernel
theorem ok_28 : am_okM am_mi (⟨"LeaningWheel$Chances", "least", "(III)I"⟩, prog_5_method_4_code, 7, some .int, 3) (am_fd T28) := am_ckT_ok (k := 0) am_m_28 rfl ck_28 (fun h => by cases h)
set_option maxRecDepth 100000 in
theorem ck_29 : am_ckT prog_5_method_5_code 3 1 (some .boolean) T29 := by decide +kernel
theorem ok_29 : am_okM am_mi (⟨"LeaningWheel$Chances", "isLikely", "(IIII)Z"⟩, prog_5_method_5_code, 5, some .boolean, 3) (am_fd T29) := am_ckT_ok (k := 0) am_m_29 rfl ck_29 (fun h => by cases h)
set_option maxRecDepth 100000 in
theorem ck_30 : am_ckT prog_5_method_6_code 3 1 (none) T30 := by decide +kernel
theorem ok_30 : am_okM am_mi (⟨"LeaningWheel$Chances", "seek", "(III)V"⟩, prog_5_method_6_code, 6, none, 3) (am_fd T30) := am_ckT_ok (k := 0) am_m_30 rfl ck_30 (fun h => by cases h)
set_option maxRecDepth 100000 in
theorem ck_31 : am_ckT prog_5_method_7_code 3 1 (some .boolean) T31 := by decide +kernel
theorem ok_31 : am_okM am_mi (⟨"LeaningWheel$Chances", "isRare", "(III)Z"⟩, prog_5_method_7_code, 4, some .boolean, 3) (am_fd T31) := am_ckT_ok (k := 0) am_m_31 rfl ck_31 (fun h => by cases h)
set_option maxRecDepth 100000 in
theorem ck_32 : am_ckT prog_5_method_8_code 3 1 (some .boolean) T32 := by decide +kernel
theorem ok_32 : am_okM am_mi (⟨"LeaningWheel$Chances", "isSure", "(IIII)Z"⟩, prog_5_method_8_code, 5, some .boolean, 3) (am_fd T32) := am_ckT_ok (k := 0) am_m_32 rfl ck_32 (fun h => by cases h)
set_option maxRecDepth 100000 in
theorem ck_33 : am_ckT prog_5_method_9_code 3 1 (some .int) T33 := by decide +kernel
theorem ok_33 : am_okM am_mi (⟨"LeaningWheel$Chances", "luckyDays", "(IIII)I"⟩, prog_5_method_9_code, 7, some .int, 3) (am_fd T33) := am_ckT_ok (k := 0) am_m_33 rfl ck_33 (fun h => by cases h)
set_option maxRecDepth 100000 in
theorem ck_34 : am_ckT prog_5_method_10_code 3 1 (none) T34 := by decide +kernel
theorem ok_34 : am_okM am_mi (⟨"LeaningWheel$Chances", "multiply", "(LLeaningWheel$Big;LLeaningWheel$Big;I)V"⟩, prog_5_method_10_code, 5, none, 3) (am_fd T34) := am_ckT_ok (k := 0) am_m_34 rfl ck_34 (fun h => by cases h)
set_option maxRecDepth 100000 in
theorem ck_35 : am_ckT prog_5_method_11_code 3 0 (none) T35 := by decide +kernel
theorem ok_35 : am_okM am_mi (⟨"LeaningWheel$Chances", "raise", "(LLeaningWheel$Big;II)V"⟩, prog_5_method_11_code, 4, none, 3) (am_fd T35) := am_ckT_ok (k := 0) am_m_35 rfl ck_35 (fun h => by cases h)
set_option maxRecDepth 100000 in
theorem ck_36 : am_ckT prog_5_method_12_code 3 1 (none) T36 := by decide +kernel
theorem ok_36 : am_okM am_mi (⟨"LeaningWheel$Chances", "addUp", "(IIII)V"⟩, prog_5_method_12_code, 6, none, 3) (am_fd T36) := am_ckT_ok (k := 0) am_m_36 rfl ck_36 (fun h => by cases h)
set_option maxRecDepth 100000 in
theorem ck_37 : am_ckT prog_6_method_1_code 4 2 (none) T37 := by decide +kernel
theorem ok_37 : am_okM am_mi (⟨"LeaningWheel$Machine", "<init>", "()V"⟩, prog_6_method_1_code, 1, none, 4) (am_fd T37) := am_ckT_ok (k := 0) am_m_37 rfl ck_37 (fun h => rfl)
set_option maxRecDepth 100000 in
theorem ck_38 : am_ckT prog_6_method_2_code 4 1 (some .int) T38 := by decide +kernel
theorem ok_38 : am_okM am_mi (⟨"LeaningWheel$Machine", "work", "(LLeaningWheel$Texts;III)I"⟩, prog_6_method_2_code, 7, some .int, 4) (am_fd T38) := am_ckT_ok (k := 0) am_m_38 rfl ck_38 (fun h => by cases h)
set_option maxRecDepth 100000 in
theorem ck_39 : am_ckT prog_6_method_3_code 4 1 (none) T39 := by decide +kernel
theorem ok_39 : am_okM am_mi (⟨"LeaningWheel$Machine", "step", "(I)V"⟩, prog_6_method_3_code, 3, none, 4) (am_fd T39) := am_ckT_ok (k := 0) am_m_39 rfl ck_39 (fun h => by cases h)
set_option maxRecDepth 100000 in
theorem ck_40 : am_ckT prog_6_method_4_code 4 1 (none) T40 := by decide +kernel
theorem ok_40 : am_okM am_mi (⟨"LeaningWheel$Machine", "push", "(I)V"⟩, prog_6_method_4_code, 2, none, 4) (am_fd T40) := am_ckT_ok (k := 0) am_m_40 rfl ck_40 (fun h => by cases h)
set_option maxRecDepth 100000 in
theorem ck_41 : am_ckT prog_6_method_5_code 4 0 (some .int) T41 := by decide +kernel
theorem ok_41 : am_okM am_mi (⟨"LeaningWheel$Machine", "join", "(III)I"⟩, prog_6_method_5_code, 3, some .int, 4) (am_fd T41) := am_ckT_ok (k := 0) am_m_41 rfl ck_41 (fun h => by cases h)
set_option maxRecDepth 100000 in
theorem ck_42 : am_ckT prog_6_method_6_code 4 0 (some .int) T42 := by decide +kernel
theorem ok_42 : am_okM am_mi (⟨"LeaningWheel$Machine", "limited", "(J)I"⟩, prog_6_method_6_code, 2, some .int, 4) (am_fd T42) := am_ckT_ok (k := 0) am_m_42 rfl ck_42 (fun h => by cases h)
set_option maxRecDepth 100000 in
theorem ck_43 : am_ckT prog_7_method_1_code 5 2 (none) T43 := by decide +kernel
theorem ok_43 : am_okM am_mi (⟨"LeaningWheel$Planner", "<init>", "()V"⟩, prog_7_method_1_code, 1, none, 5) (am_fd T43) := am_ckT_ok (k := 0) am_m_43 rfl ck_43 (fun h => rfl)
set_option maxRecDepth 100000 in
theorem ck_44 : am_ckT prog_7_method_2_code 5 1 (none) T44 := by decide +kernel
theorem ok_44 : am_okM am_mi (⟨"LeaningWheel$Planner", "reach", "(IIIII)V"⟩, prog_7_method_2_code, 8, none, 5) (am_fd T44) := am_ckT_ok (k := 0) am_m_44 rfl ck_44 (fun h => by cases h)
set_option maxRecDepth 100000 in
theorem ck_45 : am_ckT prog_7_method_3_code 5 1 (none) T45 := by decide +kernel
theorem ok_45 : am_okM am_mi (⟨"LeaningWheel$Planner", "stakeBest", "(III)V"⟩, prog_7_method_3_code, 5, none, 5) (am_fd T45) := am_ckT_ok (k := 0) am_m_45 rfl ck_45 (fun h => by cases h)
set_option maxRecDepth 100000 in
theorem ck_46 : am_ckT prog_7_method_4_code 5 1 (none) T46 := by decide +kernel
theorem ok_46 : am_okM am_mi (⟨"LeaningWheel$Planner", "weighStake", "(IIII)V"⟩, prog_7_method_4_code, 13, none, 5) (am_fd T46) := am_ckT_ok (k := 0) am_m_46 rfl ck_46 (fun h => by cases h)
set_option maxRecDepth 100000 in
theorem ck_47 : am_ckT prog_7_method_5_code 5 1 (none) T47 := by decide +kernel
theorem ok_47 : am_okM am_mi (⟨"LeaningWheel$Planner", "keep", "(IIII)V"⟩, prog_7_method_5_code, 9, none, 5) (am_fd T47) := am_ckT_ok (k := 0) am_m_47 rfl ck_47 (fun h => by cases h)
set_option maxRecDepth 100000 in
theorem ck_48 : am_ckT prog_7_method_6_code 5 0 (some .long) T48 := by decide +kernel
theorem ok_48 : am_okM am_mi (⟨"LeaningWheel$Planner", "lossAfter", "(III)J"⟩, prog_7_method_6_code, 3, some .long, 5) (am_fd T48) := am_ckT_ok (k := 0) am_m_48 rfl ck_48 (fun h => by cases h)
set_option maxRecDepth 100000 in
theorem ck_49 : am_ckT prog_7_method_7_code 5 1 (none) T49 := by decide +kernel
theorem ok_49 : am_okM am_mi (⟨"LeaningWheel$Planner", "learn", "(LLeaningWheel$Book;)V"⟩, prog_7_method_7_code, 5, none, 5) (am_fd T49) := am_ckT_ok (k := 0) am_m_49 rfl ck_49 (fun h => by cases h)
set_option maxRecDepth 100000 in
theorem ck_50 : am_ckT prog_7_method_8_code 5 1 (none) T50 := by decide +kernel
theorem ok_50 : am_okM am_mi (⟨"LeaningWheel$Planner", "compare", "(LLeaningWheel$Book;III)V"⟩, prog_7_method_8_code, 7, none, 5) (am_fd T50) := am_ckT_ok (k := 0) am_m_50 rfl ck_50 (fun h => by cases h)
set_option maxRecDepth 100000 in
theorem ck_51 : am_ckT prog_8_method_1_code 6 2 (none) T51 := by decide +kernel
theorem ok_51 : am_okM am_mi (⟨"LeaningWheel$Player", "<init>", "(ILLeaningWheel$Texts;LLeaningWheel$Machine;)V"⟩, prog_8_method_1_code, 4, none, 6) (am_fd T51) := am_ckT_ok (k := 0) am_m_51 rfl ck_51 (fun h => rfl)
set_option maxRecDepth 100000 in
theorem ck_52 : am_ckT prog_8_method_2_code 6 1 (none) T52 := by decide +kernel
theorem ok_52 : am_okM am_mi (⟨"LeaningWheel$Player", "play", "(LLeaningWheel$Book;IIII)V"⟩, prog_8_method_2_code, 7, none, 6) (am_fd T52) := am_ckT_ok (k := 0) am_m_52 rfl ck_52 (fun h => by cases h)
set_option maxRecDepth 100000 in
theorem ck_53 : am_ckT prog_8_method_3_code 6 1 (none) T53 := by decide +kernel
theorem ok_53 : am_okM am_mi (⟨"LeaningWheel$Player", "stakeOn", "(I)V"⟩, prog_8_method_3_code, 5, none, 6) (am_fd T53) := am_ckT_ok (k := 0) am_m_53 rfl ck_53 (fun h => by cases h)
set_option maxRecDepth 100000 in
theorem ck_54 : am_ckT prog_8_method_4_code 6 1 (none) T54 := by decide +kernel
theorem ok_54 : am_okM am_mi (⟨"LeaningWheel$Player", "settleUp", "(IZ)V"⟩, prog_8_method_4_code, 3, none, 6) (am_fd T54) := am_ckT_ok (k := 0) am_m_54 rfl ck_54 (fun h => by cases h)
set_option maxRecDepth 100000 in
theorem ck_55 : am_ckT prog_8_method_5_code 6 1 (some .int) T55 := by decide +kernel
theorem ok_55 : am_okM am_mi (⟨"LeaningWheel$Player", "oftenest", "()I"⟩, prog_8_method_5_code, 3, some .int, 6) (am_fd T55) := am_ckT_ok (k := 0) am_m_55 rfl ck_55 (fun h => by cases h)
set_option maxRecDepth 100000 in
theorem ck_56 : am_ckT prog_9_method_1_code 7 2 (none) T56 := by decide +kernel
theorem ok_56 : am_okM am_mi (⟨"LeaningWheel$Reader", "<init>", "()V"⟩, prog_9_method_1_code, 1, none, 7) (am_fd T56) := am_ckT_ok (k := 0) am_m_56 rfl ck_56 (fun h => rfl)
set_option maxRecDepth 100000 in
theorem ck_57 : am_ckT prog_9_method_2_code 7 1 (some .boolean) T57 := by decide +kernel
theorem ok_57 : am_okM am_mi (⟨"LeaningWheel$Reader", "hasRoom", "()Z"⟩, prog_9_method_2_code, 1, some .boolean, 7) (am_fd T57) := am_ckT_ok (k := 0) am_m_57 rfl ck_57 (fun h => by cases h)
set_option maxRecDepth 100000 in
theorem ck_58 : am_ckT prog_9_method_3_code 7 1 (none) T58 := by decide +kernel
theorem ok_58 : am_okM am_mi (⟨"LeaningWheel$Reader", "append", "(I)V"⟩, prog_9_method_3_code, 3, none, 7) (am_fd T58) := am_ckT_ok (k := 0) am_m_58 rfl ck_58 (fun h => by cases h)
set_option maxRecDepth 100000 in
theorem ck_59 : am_ckT prog_9_method_4_code 7 1 (some .boolean) T59 := by decide +kernel
theorem ok_59 : am_okM am_mi (⟨"LeaningWheel$Reader", "read", "(LLeaningWheel$Texts;)Z"⟩, prog_9_method_4_code, 3, some .boolean, 7) (am_fd T59) := am_ckT_ok (k := 0) am_m_59 rfl ck_59 (fun h => by cases h)
set_option maxRecDepth 100000 in
theorem ck_60 : am_ckT prog_9_method_5_code 7 1 (none) T60 := by decide +kernel
theorem ok_60 : am_okM am_mi (⟨"LeaningWheel$Reader", "readClause", "()V"⟩, prog_9_method_5_code, 2, none, 7) (am_fd T60) := am_ckT_ok (k := 0) am_m_60 rfl ck_60 (fun h => by cases h)
set_option maxRecDepth 100000 in
theorem ck_61 : am_ckT prog_9_method_6_code 7 1 (none) T61 := by decide +kernel
theorem ok_61 : am_okM am_mi (⟨"LeaningWheel$Reader", "readSum", "(I)V"⟩, prog_9_method_6_code, 4, none, 7) (am_fd T61) := am_ckT_ok (k := 0) am_m_61 rfl ck_61 (fun h => by cases h)
set_option maxRecDepth 100000 in
theorem ck_62 : am_ckT prog_9_method_7_code 7 1 (none) T62 := by decide +kernel
theorem ok_62 : am_okM am_mi (⟨"LeaningWheel$Reader", "readProduct", "(I)V"⟩, prog_9_method_7_code, 4, none, 7) (am_fd T62) := am_ckT_ok (k := 0) am_m_62 rfl ck_62 (fun h => by cases h)
set_option maxRecDepth 100000 in
theorem ck_63 : am_ckT prog_9_method_8_code 7 1 (none) T63 := by decide +kernel
theorem ok_63 : am_okM am_mi (⟨"LeaningWheel$Reader", "readOne", "(I)V"⟩, prog_9_method_8_code, 2, none, 7) (am_fd T63) := am_ckT_ok (k := 0) am_m_63 rfl ck_63 (fun h => by cases h)
set_option maxRecDepth 100000 in
theorem ck_64 : am_ckT prog_9_method_9_code 7 1 (none) T64 := by decide +kernel
theorem ok_64 : am_okM am_mi (⟨"LeaningWheel$Reader", "readNumber", "()V"⟩, prog_9_method_9_code, 1, none, 7) (am_fd T64) := am_ckT_ok (k := 0) am_m_64 rfl ck_64 (fun h => by cases h)
set_option maxRecDepth 100000 in
theorem ck_65 : am_ckT prog_9_method_10_code 7 1 (none) T65 := by decide +kernel
theorem ok_65 : am_okM am_mi (⟨"LeaningWheel$Reader", "readWord", "(I)V"⟩, prog_9_method_10_code, 2, none, 7) (am_fd T65) := am_ckT_ok (k := 0) am_m_65 rfl ck_65 (fun h => by cases h)
set_option maxRecDepth 100000 in
theorem ck_66 : am_ckT prog_9_method_11_code 7 1 (none) T66 := by decide +kernel
theorem ok_66 : am_okM am_mi (⟨"LeaningWheel$Reader", "readPair", "(II)V"⟩, prog_9_method_11_code, 3, none, 7) (am_fd T66) := am_ckT_ok (k := 0) am_m_66 rfl ck_66 (fun h => by cases h)
set_option maxRecDepth 100000 in
theorem ck_67 : am_ckT prog_9_method_12_code 7 1 (some .boolean) T67 := by decide +kernel
theorem ok_67 : am_okM am_mi (⟨"LeaningWheel$Reader", "mayOpen", "(I)Z"⟩, prog_9_method_12_code, 2, some .boolean, 7) (am_fd T67) := am_ckT_ok (k := 0) am_m_67 rfl ck_67 (fun h => by cases h)
set_option maxRecDepth 100000 in
theorem ck_68 : am_ckT prog_9_method_13_code 7 1 (none) T68 := by decide +kernel
theorem ok_68 : am_okM am_mi (⟨"LeaningWheel$Reader", "expect", "(I)V"⟩, prog_9_method_13_code, 2, none, 7) (am_fd T68) := am_ckT_ok (k := 0) am_m_68 rfl ck_68 (fun h => by cases h)
set_option maxRecDepth 100000 in
theorem ck_69 : am_ckT prog_9_method_14_code 7 1 (none) T69 := by decide +kernel
theorem ok_69 : am_okM am_mi (⟨"LeaningWheel$Reader", "refuse", "(I)V"⟩, prog_9_method_14_code, 2, none, 7) (am_fd T69) := am_ckT_ok (k := 0) am_m_69 rfl ck_69 (fun h => by cases h)
set_option maxRecDepth 100000 in
theorem ck_70 : am_ckT prog_9_method_15_code 7 1 (none) T70 := by decide +kernel
theorem ok_70 : am_okM am_mi (⟨"LeaningWheel$Reader", "put", "(I)V"⟩, prog_9_method_15_code, 2, none, 7) (am_fd T70) := am_ckT_ok (k := 0) am_m_70 rfl ck_70 (fun h => by cases h)
set_option maxRecDepth 100000 in
theorem ck_71 : am_ckT prog_9_method_16_code 7 1 (none) T71 := by decide +kernel
theorem ok_71 : am_okM am_mi (⟨"LeaningWheel$Reader", "advance", "()V"⟩, prog_9_method_16_code, 1, none, 7) (am_fd T71) := am_ckT_ok (k := 0) am_m_71 rfl ck_71 (fun h => by cases h)
set_option maxRecDepth 100000 in
theorem ck_72 : am_ckT prog_9_method_17_code 7 0 (some .boolean) T72 := by decide +kernel
theorem ok_72 : am_okM am_mi (⟨"LeaningWheel$Reader", "isLetter", "(I)Z"⟩, prog_9_method_17_code, 1, some .boolean, 7) (am_fd T72) := am_ckT_ok (k := 0) am_m_72 rfl ck_72 (fun h => by cases h)
set_option maxRecDepth 100000 in
theorem ck_73 : am_ckT prog_9_method_18_code 7 0 (some .boolean) T73 := by decide +kernel
theorem ok_73 : am_okM am_mi (⟨"LeaningWheel$Reader", "isDigit", "(I)Z"⟩, prog_9_method_18_code, 1, some .boolean, 7) (am_fd T73) := am_ckT_ok (k := 0) am_m_73 rfl ck_73 (fun h => by cases h)
set_option maxRecDepth 100000 in
theorem ck_74 : am_ckT prog_9_method_19_code 7 0 (some .boolean) T74 := by decide +kernel
theorem ok_74 : am_okM am_mi (⟨"LeaningWheel$Reader", "isSign", "(I)Z"⟩, prog_9_method_19_code, 1, some .boolean, 7) (am_fd T74) := am_ckT_ok (k := 0) am_m_74 rfl ck_74 (fun h => by cases h)
set_option maxRecDepth 100000 in
theorem ck_75 : am_ckT prog_9_method_20_code 7 1 (some .int) T75 := by decide +kernel
theorem ok_75 : am_okM am_mi (⟨"LeaningWheel$Reader", "wordAt", "()I"⟩, prog_9_method_20_code, 4, some .int, 7) (am_fd T75) := am_ckT_ok (k := 0) am_m_75 rfl ck_75 (fun h => by cases h)
set_option maxRecDepth 100000 in
theorem ck_76 : am_ckT prog_9_method_21_code 7 0 (some (.object "java/lang/String")) T76 := by decide +kernel
theorem ok_76 : am_okM am_mi (⟨"LeaningWheel$Reader", "word", "(I)Ljava/lang/String;"⟩, prog_9_method_21_code, 1, some (.object "java/lang/String"), 7) (am_fd T76) := am_ckT_ok (k := 0) am_m_76 rfl ck_76 (fun h => by cases h)
set_option maxRecDepth 100000 in
theorem ck_77 : am_ckT prog_10_method_1_code 8 2 (none) T77 := by decide +kernel
theorem ok_77 : am_okM am_mi (⟨"LeaningWheel$Texts", "<init>", "()V"⟩, prog_10_method_1_code, 1, none, 8) (am_fd T77) := am_ckT_ok (k := 0) am_m_77 rfl ck_77 (fun h => rfl)
set_option maxRecDepth 100000 in
theorem ck_78 : am_ckT prog_10_method_2_code 8 1 (none) T78 := by decide +kernel
theorem ok_78 : am_okM am_mi (⟨"LeaningWheel$Texts", "take", "(LLeaningWheel$Texts;)V"⟩, prog_10_method_2_code, 2, none, 8) (am_fd T78) := am_ckT_ok (k := 0) am_m_78 rfl ck_78 (fun h => by cases h)
set_option maxRecDepth 100000 in
theorem ck_79 : am_ckT prog_10_method_3_code 8 1 (some .boolean) T79 := by decide +kernel
theorem ok_79 : am_okM am_mi (⟨"LeaningWheel$Texts", "has", "(II)Z"⟩, prog_10_method_3_code, 3, some .boolean, 8) (am_fd T79) := am_ckT_ok (k := 0) am_m_79 rfl ck_79 (fun h => by cases h)
set_option maxRecDepth 100000 in
theorem ck_80 : am_ckT prog_11_method_1_code 9 2 (none) T80 := by decide +kernel
theorem ok_80 : am_okM am_mi (⟨"LeaningWheel$Wheels", "<init>", "(I)V"⟩, prog_11_method_1_code, 3, none, 9) (am_fd T80) := am_ckT_ok (k := 0) am_m_80 rfl ck_80 (fun h => rfl)
set_option maxRecDepth 100000 in
theorem ck_81 : am_ckT prog_11_method_2_code 9 1 (none) T81 := by decide +kernel
theorem ok_81 : am_okM am_mi (⟨"LeaningWheel$Wheels", "take", "(LLeaningWheel$Wheels;)V"⟩, prog_11_method_2_code, 2, none, 9) (am_fd T81) := am_ckT_ok (k := 0) am_m_81 rfl ck_81 (fun h => by cases h)
set_option maxRecDepth 100000 in
theorem ck_82 : am_ckT prog_11_method_3_code 9 1 (some .int) T82 := by decide +kernel
theorem ok_82 : am_okM am_mi (⟨"LeaningWheel$Wheels", "leans", "(I)I"⟩, prog_11_method_3_code, 4, some .int, 9) (am_fd T82) := am_ckT_ok (k := 0) am_m_82 rfl ck_82 (fun h => by cases h)
set_option maxRecDepth 100000 in
theorem ck_83 : am_ckT prog_12_method_1_code 10 2 (none) T83 := by decide +kernel
theorem ok_83 : am_okM am_mi (⟨"LeaningWheel$Where", "<init>", "(LLeaningWheel$Wheels;LLeaningWheel$Book;)V"⟩, prog_12_method_1_code, 4, none, 10) (am_fd T83) := am_ckT_ok (k := 0) am_m_83 rfl ck_83 (fun h => rfl)
set_option maxRecDepth 100000 in
theorem ck_84 : am_ckT prog_12_method_2_code 10 1 (none) T84 := by decide +kernel
theorem ok_84 : am_okM am_mi (⟨"LeaningWheel$Where", "forget", "()V"⟩, prog_12_method_2_code, 1, none, 10) (am_fd T84) := am_ckT_ok (k := 0) am_m_84 rfl ck_84 (fun h => by cases h)
set_option maxRecDepth 100000 in
theorem ck_85 : am_ckT prog_12_method_3_code 10 1 (some .int) T85 := by decide +kernel
theorem ok_85 : am_okM am_mi (⟨"LeaningWheel$Where", "countFalls", "(I[I)I"⟩, prog_12_method_3_code, 6, some .int, 10) (am_fd T85) := am_ckT_ok (k := 0) am_m_85 rfl ck_85 (fun h => by cases h)
set_option maxRecDepth 100000 in
theorem ck_86 : am_ckT prog_12_method_4_code 10 1 (none) T86 := by decide +kernel
theorem ok_86 : am_okM am_mi (⟨"LeaningWheel$Where", "settle", "(I)V"⟩, prog_12_method_4_code, 3, none, 10) (am_fd T86) := am_ckT_ok (k := 0) am_m_86 rfl ck_86 (fun h => by cases h)
set_option maxRecDepth 100000 in
theorem ck_87 : am_ckT prog_12_method_5_code 10 1 (some .int) T87 := by decide +kernel
theorem ok_87 : am_okM am_mi (⟨"LeaningWheel$Where", "spinsAt", "(II)I"⟩, prog_12_method_5_code, 5, some .int, 10) (am_fd T87) := am_ckT_ok (k := 0) am_m_87 rfl ck_87 (fun h => by cases h)
set_option maxRecDepth 100000 in
theorem ck_88 : am_ckT prog_12_method_6_code 10 1 (some .boolean) T88 := by decide +kernel
theorem ok_88 : am_okM am_mi (⟨"LeaningWheel$Where", "clashes", "(I)Z"⟩, prog_12_method_6_code, 4, some .boolean, 10) (am_fd T88) := am_ckT_ok (k := 0) am_m_88 rfl ck_88 (fun h => by cases h)
set_option maxRecDepth 100000 in
theorem ck_89 : am_ckT prog_12_method_7_code 10 1 (some .boolean) T89 := by decide +kernel
theorem ok_89 : am_okM am_mi (⟨"LeaningWheel$Where", "isToldElsewhere", "(III)Z"⟩, prog_12_method_7_code, 5, some .boolean, 10) (am_fd T89) := am_ckT_ok (k := 0) am_m_89 rfl ck_89 (fun h => by cases h)
set_option maxRecDepth 100000 in
theorem ck_90 : am_ckT prog_12_method_8_code 10 1 (some .boolean) T90 := by decide +kernel
theorem ok_90 : am_okM am_mi (⟨"LeaningWheel$Where", "mayStand", "(III)Z"⟩, prog_12_method_8_code, 5, some .boolean, 10) (am_fd T90) := am_ckT_ok (k := 0) am_m_90 rfl ck_90 (fun h => by cases h)
set_option maxRecDepth 100000 in
theorem ck_91 : am_ckT prog_12_method_9_code 10 1 (none) T91 := by decide +kernel
theorem ok_91 : am_okM am_mi (⟨"LeaningWheel$Where", "weigh", "(I)V"⟩, prog_12_method_9_code, 4, none, 10) (am_fd T91) := am_ckT_ok (k := 0) am_m_91 rfl ck_91 (fun h => by cases h)
set_option maxRecDepth 100000 in
theorem ck_92 : am_ckT prog_12_method_10_code 10 1 (none) T92 := by decide +kernel
theorem ok_92 : am_okM am_mi (⟨"LeaningWheel$Where", "weighSpin", "(LLeaningWheel$Big;II)V"⟩, prog_12_method_10_code, 5, none, 10) (am_fd T92) := am_ckT_ok (k := 0) am_m_92 rfl ck_92 (fun h => by cases h)
set_option maxRecDepth 100000 in
theorem ck_93 : am_ckT prog_12_method_11_code 10 1 (none) T93 := by decide +kernel
theorem ok_93 : am_okM am_mi (⟨"LeaningWheel$Where", "stand", "(III)V"⟩, prog_12_method_11_code, 5, none, 10) (am_fd T93) := am_ckT_ok (k := 0) am_m_93 rfl ck_93 (fun h => by cases h)
set_option maxRecDepth 100000 in
theorem ck_94 : am_ckT prog_12_method_12_code 10 1 (none) T94 := by decide +kernel
theorem ok_94 : am_okM am_mi (⟨"LeaningWheel$Where", "judge", "(I)V"⟩, prog_12_method_12_code, 3, none, 10) (am_fd T94) := am_ckT_ok (k := 0) am_m_94 rfl ck_94 (fun h => by cases h)
set_option maxRecDepth 100000 in
theorem ck_95 : am_ckT prog_1_method_1_code 11 2 (none) T95 := by decide +kernel
theorem ok_95 : am_okM am_mi (⟨"LeaningWheel", "<init>", "(I)V"⟩, prog_1_method_1_code, 3, none, 11) (am_fd T95) := am_ckT_ok (k := 0) am_m_95 rfl ck_95 (fun h => rfl)
set_option maxRecDepth 100000 in
theorem ck_96 : am_ckT prog_1_method_2_code 11 1 (some .boolean) T96 := by decide +kernel
theorem ok_96 : am_okM am_mi (⟨"LeaningWheel", "pocket", "(IIII)Z"⟩, prog_1_method_2_code, 5, some .boolean, 11) (am_fd T96) := am_ckT_ok (k := 0) am_m_96 rfl ck_96 (fun h => by cases h)
set_option maxRecDepth 100000 in
theorem ck_97 : am_ckT prog_1_method_3_code 11 1 (some .boolean) T97 := by decide +kernel
theorem ok_97 : am_okM am_mi (⟨"LeaningWheel", "stud", "(IIIIII)Z"⟩, prog_1_method_3_code, 8, some .boolean, 11) (am_fd T97) := am_ckT_ok (k := 0) am_m_97 rfl ck_97 (fun h => by cases h)
set_option maxRecDepth 100000 in
theorem ck_98 : am_ckT prog_1_method_4_code 11 1 (some .boolean) T98 := by decide +kernel
theorem ok_98 : am_okM am_mi (⟨"LeaningWheel", "tilt", "(II)Z"⟩, prog_1_method_4_code, 3, some .boolean, 11) (am_fd T98) := am_ckT_ok (k := 0) am_m_98 rfl ck_98 (fun h => by cases h)
set_option maxRecDepth 100000 in
theorem ck_99 : am_ckT prog_1_method_5_code 11 1 (some .boolean) T99 := by decide +kernel
theorem ok_99 : am_okM am_mi (⟨"LeaningWheel", "late", "(IIIII)Z"⟩, prog_1_method_5_code, 6, some .boolean, 11) (am_fd T99) := am_ckT_ok (k := 0) am_m_99 rfl ck_99 (fun h => by cases h)
set_option maxRecDepth 100000 in
theorem ck_100 : am_ckT prog_1_method_6_code 11 1 (some .boolean) T100 := by decide +kernel
theorem ok_100 : am_okM am_mi (⟨"LeaningWheel", "pays", "(I)Z"⟩, prog_1_method_6_code, 2, some .boolean, 11) (am_fd T100) := am_ckT_ok (k := 0) am_m_100 rfl ck_100 (fun h => by cases h)
set_option maxRecDepth 100000 in
theorem ck_101 : am_ckT prog_1_method_7_code 11 1 (some .int) T101 := by decide +kernel
theorem ok_101 : am_okM am_mi (⟨"LeaningWheel", "feed", "(IIIII)I"⟩, prog_1_method_7_code, 6, some .int, 11) (am_fd T101) := am_ckT_ok (k := 0) am_m_101 rfl ck_101 (fun h => by cases h)
set_option maxRecDepth 100000 in
theorem ck_102 : am_ckT prog_1_method_8_code 11 1 (some .int) T102 := by decide +kernel
theorem ok_102 : am_okM am_mi (⟨"LeaningWheel", "end", "(I)I"⟩, prog_1_method_8_code, 2, some .int, 11) (am_fd T102) := am_ckT_ok (k := 0) am_m_102 rfl ck_102 (fun h => by cases h)
set_option maxRecDepth 100000 in
theorem ck_103 : am_ckT prog_1_method_9_code 11 1 (some .int) T103 := by decide +kernel
theorem ok_103 : am_okM am_mi (⟨"LeaningWheel", "text", "()I"⟩, prog_1_method_9_code, 2, some .int, 11) (am_fd T103) := am_ckT_ok (k := 0) am_m_103 rfl ck_103 (fun h => by cases h)
set_option maxRecDepth 100000 in
theorem ck_104 : am_ckT prog_1_method_10_code 11 1 (some .int) T104 := by decide +kernel
theorem ok_104 : am_okM am_mi (⟨"LeaningWheel", "fault", "(I)I"⟩, prog_1_method_10_code, 2, some .int, 11) (am_fd T104) := am_ckT_ok (k := 0) am_m_104 rfl ck_104 (fun h => by cases h)
set_option maxRecDepth 100000 in
theorem ck_105 : am_ckT prog_1_method_11_code 11 1 (some .boolean) T105 := by decide +kernel
theorem ok_105 : am_okM am_mi (⟨"LeaningWheel", "law", "(I)Z"⟩, prog_1_method_11_code, 2, some .boolean, 11) (am_fd T105) := am_ckT_ok (k := 0) am_m_105 rfl ck_105 (fun h => by cases h)
set_option maxRecDepth 100000 in
theorem ck_106 : am_ckT prog_1_method_12_code 11 1 (some .int) T106 := by decide +kernel
theorem ok_106 : am_okM am_mi (⟨"LeaningWheel", "drop", "(IIIIII)I"⟩, prog_1_method_12_code, 8, some .int, 11) (am_fd T106) := am_ckT_ok (k := 0) am_m_106 rfl ck_106 (fun h => by cases h)
set_option maxRecDepth 100000 in
theorem ck_107 : am_ckT prog_1_method_13_code 11 1 (some .int) T107 := by decide +kernel
theorem ok_107 : am_okM am_mi (⟨"LeaningWheel", "foretold", "(IIIIII)I"⟩, prog_1_method_13_code, 9, some .int, 11) (am_fd T107) := am_ckT_ok (k := 0) am_m_107 rfl ck_107 (fun h => by cases h)
set_option maxRecDepth 100000 in
theorem ck_108 : am_ckT prog_1_method_14_code 11 1 (some .int) T108 := by decide +kernel
theorem ok_108 : am_okM am_mi (⟨"LeaningWheel", "start", "(IIIIII)I"⟩, prog_1_method_14_code, 9, some .int, 11) (am_fd T108) := am_ckT_ok (k := 0) am_m_108 rfl ck_108 (fun h => by cases h)
set_option maxRecDepth 100000 in
theorem ck_109 : am_ckT prog_1_method_15_code 11 1 (some .int) T109 := by decide +kernel
theorem ok_109 : am_okM am_mi (⟨"LeaningWheel", "odds", "(III)I"⟩, prog_1_method_15_code, 8, some .int, 11) (am_fd T109) := am_ckT_ok (k := 0) am_m_109 rfl ck_109 (fun h => by cases h)
set_option maxRecDepth 100000 in
theorem ck_110 : am_ckT prog_1_method_16_code 11 1 (some .int) T110 := by decide +kernel
theorem ok_110 : am_okM am_mi (⟨"LeaningWheel", "write", "(IIII)I"⟩, prog_1_method_16_code, 6, some .int, 11) (am_fd T110) := am_ckT_ok (k := 0) am_m_110 rfl ck_110 (fun h => by cases h)
set_option maxRecDepth 100000 in
theorem ck_111 : am_ckT prog_1_method_17_code 11 1 (some .boolean) T111 := by decide +kernel
theorem ok_111 : am_okM am_mi (⟨"LeaningWheel", "scratch", "(III)Z"⟩, prog_1_method_17_code, 4, some .boolean, 11) (am_fd T111) := am_ckT_ok (k := 0) am_m_111 rfl ck_111 (fun h => by cases h)
set_option maxRecDepth 100000 in
theorem ck_112 : am_ckT prog_1_method_18_code 11 1 (some .int) T112 := by decide +kernel
theorem ok_112 : am_okM am_mi (⟨"LeaningWheel", "which", "(II)I"⟩, prog_1_method_18_code, 3, some .int, 11) (am_fd T112) := am_ckT_ok (k := 0) am_m_112 rfl ck_112 (fun h => by cases h)
set_option maxRecDepth 100000 in
theorem ck_113 : am_ckT prog_1_method_19_code 11 1 (some .int) T113 := by decide +kernel
theorem ok_113 : am_okM am_mi (⟨"LeaningWheel", "falls", "(II)I"⟩, prog_1_method_19_code, 4, some .int, 11) (am_fd T113) := am_ckT_ok (k := 0) am_m_113 rfl ck_113 (fun h => by cases h)
set_option maxRecDepth 100000 in
theorem ck_114 : am_ckT prog_1_method_20_code 11 1 (some .int) T114 := by decide +kernel
theorem ok_114 : am_okM am_mi (⟨"LeaningWheel", "nine", "(III)I"⟩, prog_1_method_20_code, 7, some .int, 11) (am_fd T114) := am_ckT_ok (k := 0) am_m_114 rfl ck_114 (fun h => by cases h)
set_option maxRecDepth 100000 in
theorem ck_115 : am_ckT prog_1_method_21_code 11 1 (some .int) T115 := by decide +kernel
theorem ok_115 : am_okM am_mi (⟨"LeaningWheel", "above", "(III)I"⟩, prog_1_method_21_code, 4, some .int, 11) (am_fd T115) := am_ckT_ok (k := 0) am_m_115 rfl ck_115 (fun h => by cases h)
set_option maxRecDepth 100000 in
theorem ck_116 : am_ckT prog_1_method_22_code 11 1 (some .int) T116 := by decide +kernel
theorem ok_116 : am_okM am_mi (⟨"LeaningWheel", "among", "(III)I"⟩, prog_1_method_22_code, 4, some .int, 11) (am_fd T116) := am_ckT_ok (k := 0) am_m_116 rfl ck_116 (fun h => by cases h)
set_option maxRecDepth 100000 in
theorem ck_117 : am_ckT prog_1_method_23_code 11 1 (some .int) T117 := by decide +kernel
theorem ok_117 : am_okM am_mi (⟨"LeaningWheel", "span", "(IIIZ)I"⟩, prog_1_method_23_code, 5, some .int, 11) (am_fd T117) := am_ckT_ok (k := 0) am_m_117 rfl ck_117 (fun h => by cases h)
set_option maxRecDepth 100000 in
theorem ck_118 : am_ckT prog_1_method_24_code 11 1 (some .int) T118 := by decide +kernel
theorem ok_118 : am_okM am_mi (⟨"LeaningWheel", "need", "(IIII)I"⟩, prog_1_method_24_code, 5, some .int, 11) (am_fd T118) := am_ckT_ok (k := 0) am_m_118 rfl ck_118 (fun h => by cases h)
set_option maxRecDepth 100000 in
theorem ck_119 : am_ckT prog_1_method_25_code 11 1 (some .int) T119 := by decide +kernel
theorem ok_119 : am_okM am_mi (⟨"LeaningWheel", "habit", "(III)I"⟩, prog_1_method_25_code, 7, some .int, 11) (am_fd T119) := am_ckT_ok (k := 0) am_m_119 rfl ck_119 (fun h => by cases h)
set_option maxRecDepth 100000 in
theorem ck_120 : am_ckT prog_1_method_26_code 11 1 (some .int) T120 := by decide +kernel
theorem ok_120 : am_okM am_mi (⟨"LeaningWheel", "goal", "(IIIII)I"⟩, prog_1_method_26_code, 7, some .int, 11) (am_fd T120) := am_ckT_ok (k := 0) am_m_120 rfl ck_120 (fun h => by cases h)
set_option maxRecDepth 100000 in
theorem ck_121 : am_ckT prog_1_method_27_code 11 1 (some .int) T121 := by decide +kernel
theorem ok_121 : am_okM am_mi (⟨"LeaningWheel", "luck", "(IIII)I"⟩, prog_1_method_27_code, 5, some .int, 11) (am_fd T121) := am_ckT_ok (k := 0) am_m_121 rfl ck_121 (fun h => by cases h)
set_option maxRecDepth 100000 in
theorem ck_122 : am_ckT prog_1_method_28_code 11 1 (some .int) T122 := by decide +kernel
theorem ok_122 : am_okM am_mi (⟨"LeaningWheel", "run", "(IIIII)I"⟩, prog_1_method_28_code, 7, some .int, 11) (am_fd T122) := am_ckT_ok (k := 0) am_m_122 rfl ck_122 (fun h => by cases h)
set_option maxRecDepth 100000 in
theorem ck_123 : am_ckT prog_1_method_29_code 11 1 (some .int) T123 := by decide +kernel
theorem ok_123 : am_okM am_mi (⟨"LeaningWheel", "bet", "(III)I"⟩, prog_1_method_29_code, 5, some .int, 11) (am_fd T123) := am_ckT_ok (k := 0) am_m_123 rfl ck_123 (fun h => by cases h)
set_option maxRecDepth 100000 in
theorem ck_124 : am_ckT prog_1_method_30_code 11 1 (some .int) T124 := by decide +kernel
theorem ok_124 : am_okM am_mi (⟨"LeaningWheel", "watched", "(II)I"⟩, prog_1_method_30_code, 5, some .int, 11) (am_fd T124) := am_ckT_ok (k := 0) am_m_124 rfl ck_124 (fun h => by cases h)
set_option maxRecDepth 100000 in
theorem ck_125 : am_ckT prog_1_method_31_code 11 1 (some .int) T125 := by decide +kernel
theorem ok_125 : am_okM am_mi (⟨"LeaningWheel", "house", "(IIIII)I"⟩, prog_1_method_31_code, 7, some .int, 11) (am_fd T125) := am_ckT_ok (k := 0) am_m_125 rfl ck_125 (fun h => by cases h)
set_option maxRecDepth 100000 in
theorem ck_126 : am_ckT prog_1_method_32_code 11 1 (some .int) T126 := by decide +kernel
theorem ok_126 : am_okM am_mi (⟨"LeaningWheel", "seen", "(II)I"⟩, prog_1_method_32_code, 4, some .int, 11) (am_fd T126) := am_ckT_ok (k := 0) am_m_126 rfl ck_126 (fun h => by cases h)
set_option maxRecDepth 100000 in
theorem ck_127 : am_ckT prog_1_method_33_code 11 1 (some .int) T127 := by decide +kernel
theorem ok_127 : am_okM am_mi (⟨"LeaningWheel", "shoe", "(I)I"⟩, prog_1_method_33_code, 2, some .int, 11) (am_fd T127) := am_ckT_ok (k := 0) am_m_127 rfl ck_127 (fun h => by cases h)
set_option maxRecDepth 100000 in
theorem ck_128 : am_ckT prog_1_method_34_code 11 1 (some .int) T128 := by decide +kernel
theorem ok_128 : am_okM am_mi (⟨"LeaningWheel", "image", "()I"⟩, prog_1_method_34_code, 1, some .int, 11) (am_fd T128) := am_ckT_ok (k := 0) am_m_128 rfl ck_128 (fun h => by cases h)
set_option maxRecDepth 100000 in
theorem ck_129 : am_ckT prog_1_method_35_code 11 1 (some .int) T129 := by decide +kernel
theorem ok_129 : am_okM am_mi (⟨"LeaningWheel", "back", "()I"⟩, prog_1_method_35_code, 1, some .int, 11) (am_fd T129) := am_ckT_ok (k := 0) am_m_129 rfl ck_129 (fun h => by cases h)
set_option maxRecDepth 100000 in
theorem ck_130 : am_ckT prog_1_method_36_code 11 1 (some .int) T130 := by decide +kernel
theorem ok_130 : am_okM am_mi (⟨"LeaningWheel", "about", "(I)I"⟩, prog_1_method_36_code, 2, some .int, 11) (am_fd T130) := am_ckT_ok (k := 0) am_m_130 rfl ck_130 (fun h => by cases h)
set_option maxRecDepth 100000 in
theorem ck_131 : am_ckT prog_1_method_37_code 11 0 (some .boolean) T131 := by decide +kernel
theorem ok_131 : am_okM am_mi (⟨"LeaningWheel", "within", "(III)Z"⟩, prog_1_method_37_code, 3, some .boolean, 11) (am_fd T131) := am_ckT_ok (k := 0) am_m_131 rfl ck_131 (fun h => by cases h)
set_option maxRecDepth 100000 in
theorem ck_132 : am_ckT prog_1_method_38_code 11 0 (some .boolean) T132 := by decide +kernel
theorem ok_132 : am_okM am_mi (⟨"LeaningWheel", "isWheel", "(I)Z"⟩, prog_1_method_38_code, 1, some .boolean, 11) (am_fd T132) := am_ckT_ok (k := 0) am_m_132 rfl ck_132 (fun h => by cases h)
set_option maxRecDepth 100000 in
theorem ck_133 : am_ckT prog_1_method_39_code 11 0 (some .boolean) T133 := by decide +kernel
theorem ok_133 : am_okM am_mi (⟨"LeaningWheel", "isHand", "(I)Z"⟩, prog_1_method_39_code, 1, some .boolean, 11) (am_fd T133) := am_ckT_ok (k := 0) am_m_133 rfl ck_133 (fun h => by cases h)
set_option maxRecDepth 100000 in
theorem ck_134 : am_ckT prog_1_method_40_code 11 0 (some .boolean) T134 := by decide +kernel
theorem ok_134 : am_okM am_mi (⟨"LeaningWheel", "isTable", "(II)Z"⟩, prog_1_method_40_code, 2, some .boolean, 11) (am_fd T134) := am_ckT_ok (k := 0) am_m_134 rfl ck_134 (fun h => by cases h)
set_option maxRecDepth 100000 in
theorem ck_135 : am_ckT prog_1_method_41_code 11 0 (some .boolean) T135 := by decide +kernel
theorem ok_135 : am_okM am_mi (⟨"LeaningWheel", "isCount", "(II)Z"⟩, prog_1_method_41_code, 2, some .boolean, 11) (am_fd T135) := am_ckT_ok (k := 0) am_m_135 rfl ck_135 (fun h => by cases h)
set_option maxRecDepth 100000 in
theorem ck_136 : am_ckT prog_1_method_42_code 11 0 (some .boolean) T136 := by decide +kernel
theorem ok_136 : am_okM am_mi (⟨"LeaningWheel", "areTenths", "(IIIII)Z"⟩, prog_1_method_42_code, 6, some .boolean, 11) (am_fd T136) := am_ckT_ok (k := 0) am_m_136 rfl ck_136 (fun h => by cases h)
set_option maxRecDepth 100000 in
theorem ck_137 : am_ckT prog_1_method_43_code 11 1 (some .boolean) T137 := by decide +kernel
theorem ok_137 : am_okM am_mi (⟨"LeaningWheel", "isPocket", "(I)Z"⟩, prog_1_method_43_code, 2, some .boolean, 11) (am_fd T137) := am_ckT_ok (k := 0) am_m_137 rfl ck_137 (fun h => by cases h)
set_option maxRecDepth 100000 in
theorem ck_138 : am_ckT prog_1_method_44_code 11 1 (some .boolean) T138 := by decide +kernel
theorem ok_138 : am_okM am_mi (⟨"LeaningWheel", "isPocketOrNone", "(I)Z"⟩, prog_1_method_44_code, 2, some .boolean, 11) (am_fd T138) := am_ckT_ok (k := 0) am_m_138 rfl ck_138 (fun h => by cases h)
set_option maxRecDepth 100000 in
theorem ck_139 : am_ckT prog_1_method_45_code 11 1 (some .boolean) T139 := by decide +kernel
theorem ok_139 : am_okM am_mi (⟨"LeaningWheel", "isNine", "(I)Z"⟩, prog_1_method_45_code, 2, some .boolean, 11) (am_fd T139) := am_ckT_ok (k := 0) am_m_139 rfl ck_139 (fun h => by cases h)
set_option maxRecDepth 100000 in
theorem ck_140 : am_ckT prog_1_method_46_code 11 1 (some .boolean) T140 := by decide +kernel
theorem ok_140 : am_okM am_mi (⟨"LeaningWheel", "isRelease", "(IIII)Z"⟩, prog_1_method_46_code, 6, some .boolean, 11) (am_fd T140) := am_ckT_ok (k := 0) am_m_140 rfl ck_140 (fun h => by cases h)
set_option maxRecDepth 100000 in
theorem ck_141 : am_ckT prog_1_method_47_code 11 1 (none) T141 := by decide +kernel
theorem ok_141 : am_okM am_mi (⟨"LeaningWheel", "foresee", "(IIIII)V"⟩, prog_1_method_47_code, 10, none, 11) (am_fd T141) := am_ckT_ok (k := 0) am_m_141 rfl ck_141 (fun h => by cases h)
set_option maxRecDepth 100000 in
theorem ck_142 : am_ckT prog_1_method_48_code 11 1 (some .int) T142 := by decide +kernel
theorem ok_142 : am_okM am_mi (⟨"LeaningWheel", "greatest", "([I)I"⟩, prog_1_method_48_code, 4, some .int, 11) (am_fd T142) := am_ckT_ok (k := 0) am_m_142 rfl ck_142 (fun h => by cases h)
set_option maxRecDepth 100000 in
theorem ck_143 : am_ckT prog_1_method_49_code 11 1 (some .int) T143 := by decide +kernel
theorem ok_143 : am_okM am_mi (⟨"LeaningWheel", "choose", "(I)I"⟩, prog_1_method_49_code, 6, some .int, 11) (am_fd T143) := am_ckT_ok (k := 0) am_m_143 rfl ck_143 (fun h => by cases h)
set_option maxRecDepth 100000 in
theorem ck_144 : am_ckT prog_1_method_50_code 11 1 (some .boolean) T144 := by decide +kernel
theorem ok_144 : am_okM am_mi (⟨"LeaningWheel", "isChosen", "(I)Z"⟩, prog_1_method_50_code, 2, some .boolean, 11) (am_fd T144) := am_ckT_ok (k := 0) am_m_144 rfl ck_144 (fun h => by cases h)
set_option maxRecDepth 100000 in
theorem ck_145 : am_ckT prog_1_method_51_code 11 1 (some .int) T145 := by decide +kernel
theorem ok_145 : am_okM am_mi (⟨"LeaningWheel", "chosenAt", "(I)I"⟩, prog_1_method_51_code, 4, some .int, 11) (am_fd T145) := am_ckT_ok (k := 0) am_m_145 rfl ck_145 (fun h => by cases h)
set_option maxRecDepth 100000 in
theorem ck_146 : am_ckT prog_1_method_52_code 11 1 (some .int) T146 := by decide +kernel
theorem ok_146 : am_okM am_mi (⟨"LeaningWheel", "countDistances", "(I)I"⟩, prog_1_method_52_code, 6, some .int, 11) (am_fd T146) := am_ckT_ok (k := 0) am_m_146 rfl ck_146 (fun h => by cases h)
set_option maxRecDepth 100000 in
theorem ck_147 : am_ckT prog_1_method_53_code 11 1 (some .int) T147 := by decide +kernel
theorem ok_147 : am_okM am_mi (⟨"LeaningWheel", "widest", "(I)I"⟩, prog_1_method_53_code, 4, some .int, 11) (am_fd T147) := am_ckT_ok (k := 0) am_m_147 rfl ck_147 (fun h => by cases h)
set_option maxRecDepth 100000 in
theorem ck_148 : am_ckT prog_1_method_54_code 11 1 (some .int) T148 := by decide +kernel
theorem ok_148 : am_okM am_mi (⟨"LeaningWheel", "inWidth", "(II)I"⟩, prog_1_method_54_code, 5, some .int, 11) (am_fd T148) := am_ckT_ok (k := 0) am_m_148 rfl ck_148 (fun h => by cases h)
set_option maxRecDepth 100000 in
theorem ck_149 : am_ckT prog_14_method_1_code 12 2 (none) T149 := by decide +kernel
theorem ok_149 : am_okM am_mi (⟨"LeaningWheelModel", "<init>", "(I)V"⟩, prog_14_method_1_code, 3, none, 12) (am_fd T149) := am_ckT_ok (k := 0) am_m_149 rfl ck_149 (fun h => rfl)
set_option maxRecDepth 100000 in
theorem ck_150 : am_ckT prog_14_method_2_code 12 0 (none) T150 := by decide +kernel
theorem ok_150 : am_okM am_mi (⟨"LeaningWheelModel", "copy", "([I[I)V"⟩, prog_14_method_2_code, 3, none, 12) (am_fd T150) := am_ckT_ok (k := 0) am_m_150 rfl ck_150 (fun h => by cases h)
set_option maxRecDepth 100000 in
theorem ck_151 : am_ckT prog_14_method_3_code 12 0 (some .boolean) T151 := by decide +kernel
theorem ok_151 : am_okM am_mi (⟨"LeaningWheelModel", "isIn", "(III)Z"⟩, prog_14_method_3_code, 3, some .boolean, 12) (am_fd T151) := am_ckT_ok (k := 0) am_m_151 rfl ck_151 (fun h => by cases h)
set_option maxRecDepth 100000 in
theorem ck_152 : am_ckT prog_14_method_4_code 12 0 (some .int) T152 := by decide +kernel
theorem ok_152 : am_okM am_mi (⟨"LeaningWheelModel", "abs", "(I)I"⟩, prog_14_method_4_code, 1, some .int, 12) (am_fd T152) := am_ckT_ok (k := 0) am_m_152 rfl ck_152 (fun h => by cases h)
set_option maxRecDepth 100000 in
theorem ck_153 : am_ckT prog_14_method_5_code 12 0 (some .boolean) T153 := by decide +kernel
theorem ok_153 : am_okM am_mi (⟨"LeaningWheelModel", "isWheel", "(I)Z"⟩, prog_14_method_5_code, 1, some .boolean, 12) (am_fd T153) := am_ckT_ok (k := 0) am_m_153 rfl ck_153 (fun h => by cases h)
set_option maxRecDepth 100000 in
theorem ck_154 : am_ckT prog_14_method_6_code 12 1 (some .boolean) T154 := by decide +kernel
theorem ok_154 : am_okM am_mi (⟨"LeaningWheelModel", "isPocket", "(I)Z"⟩, prog_14_method_6_code, 2, some .boolean, 12) (am_fd T154) := am_ckT_ok (k := 0) am_m_154 rfl ck_154 (fun h => by cases h)
set_option maxRecDepth 100000 in
theorem ck_155 : am_ckT prog_14_method_7_code 12 1 (some .boolean) T155 := by decide +kernel
theorem ok_155 : am_okM am_mi (⟨"LeaningWheelModel", "pocket", "(IIII)Z"⟩, prog_14_method_7_code, 5, some .boolean, 12) (am_fd T155) := am_ckT_ok (k := 0) am_m_155 rfl ck_155 (fun h => by cases h)
set_option maxRecDepth 100000 in
theorem ck_156 : am_ckT prog_14_method_8_code 12 0 (some .boolean) T156 := by decide +kernel
theorem ok_156 : am_okM am_mi (⟨"LeaningWheelModel", "isTenth", "(I)Z"⟩, prog_14_method_8_code, 1, some .boolean, 12) (am_fd T156) := am_ckT_ok (k := 0) am_m_156 rfl ck_156 (fun h => by cases h)
set_option maxRecDepth 100000 in
theorem ck_157 : am_ckT prog_14_method_9_code 12 1 (some .boolean) T157 := by decide +kernel
theorem ok_157 : am_okM am_mi (⟨"LeaningWheelModel", "stud", "(IIIIII)Z"⟩, prog_14_method_9_code, 9, some .boolean, 12) (am_fd T157) := am_ckT_ok (k := 0) am_m_157 rfl ck_157 (fun h => by cases h)
set_option maxRecDepth 100000 in
theorem ck_158 : am_ckT prog_14_method_10_code 12 1 (some .boolean) T158 := by decide +kernel
theorem ok_158 : am_okM am_mi (⟨"LeaningWheelModel", "tilt", "(II)Z"⟩, prog_14_method_10_code, 3, some .boolean, 12) (am_fd T158) := am_ckT_ok (k := 0) am_m_158 rfl ck_158 (fun h => by cases h)
set_option maxRecDepth 100000 in
theorem ck_159 : am_ckT prog_14_method_11_code 12 1 (some .boolean) T159 := by decide +kernel
theorem ok_159 : am_okM am_mi (⟨"LeaningWheelModel", "late", "(IIIII)Z"⟩, prog_14_method_11_code, 7, some .boolean, 12) (am_fd T159) := am_ckT_ok (k := 0) am_m_159 rfl ck_159 (fun h => by cases h)
set_option maxRecDepth 100000 in
theorem ck_160 : am_ckT prog_14_method_12_code 12 1 (some .boolean) T160 := by decide +kernel
theorem ok_160 : am_okM am_mi (⟨"LeaningWheelModel", "pays", "(I)Z"⟩, prog_14_method_12_code, 2, some .boolean, 12) (am_fd T160) := am_ckT_ok (k := 0) am_m_160 rfl ck_160 (fun h => by cases h)
set_option maxRecDepth 100000 in
theorem ck_161 : am_ckT prog_14_method_13_code 12 1 (none) T161 := by decide +kernel
theorem ok_161 : am_okM am_mi (⟨"LeaningWheelModel", "four", "(I)V"⟩, prog_14_method_13_code, 3, none, 12) (am_fd T161) := am_ckT_ok (k := 0) am_m_161 rfl ck_161 (fun h => by cases h)
set_option maxRecDepth 100000 in
theorem ck_162 : am_ckT prog_14_method_14_code 12 1 (some .int) T162 := by decide +kernel
theorem ok_162 : am_okM am_mi (⟨"LeaningWheelModel", "feed", "(IIIII)I"⟩, prog_14_method_14_code, 6, some .int, 12) (am_fd T162) := am_ckT_ok (k := 0) am_m_162 rfl ck_162 (fun h => by cases h)
set_option maxRecDepth 100000 in
theorem ck_163 : am_ckT prog_14_method_15_code 12 1 (some .int) T163 := by decide +kernel
theorem ok_163 : am_okM am_mi (⟨"LeaningWheelModel", "end", "(I)I"⟩, prog_14_method_15_code, 2, some .int, 12) (am_fd T163) := am_ckT_ok (k := 0) am_m_163 rfl ck_163 (fun h => by cases h)
set_option maxRecDepth 100000 in
theorem ck_164 : am_ckT prog_14_method_16_code 12 1 (some .int) T164 := by decide +kernel
theorem ok_164 : am_okM am_mi (⟨"LeaningWheelModel", "byteAt", "(I)I"⟩, prog_14_method_16_code, 2, some .int, 12) (am_fd T164) := am_ckT_ok (k := 0) am_m_164 rfl ck_164 (fun h => by cases h)
set_option maxRecDepth 100000 in
theorem ck_165 : am_ckT prog_14_method_17_code 12 0 (some .boolean) T165 := by decide +kernel
theorem ok_165 : am_okM am_mi (⟨"LeaningWheelModel", "isLetter", "(I)Z"⟩, prog_14_method_17_code, 1, some .boolean, 12) (am_fd T165) := am_ckT_ok (k := 0) am_m_165 rfl ck_165 (fun h => by cases h)
set_option maxRecDepth 100000 in
theorem ck_166 : am_ckT prog_14_method_18_code 12 0 (some .boolean) T166 := by decide +kernel
theorem ok_166 : am_okM am_mi (⟨"LeaningWheelModel", "isDigit", "(I)Z"⟩, prog_14_method_18_code, 1, some .boolean, 12) (am_fd T166) := am_ckT_ok (k := 0) am_m_166 rfl ck_166 (fun h => by cases h)
set_option maxRecDepth 100000 in
theorem ck_167 : am_ckT prog_14_method_19_code 12 1 (none) T167 := by decide +kernel
theorem ok_167 : am_okM am_mi (⟨"LeaningWheelModel", "nextToken", "()V"⟩, prog_14_method_19_code, 3, none, 12) (am_fd T167) := am_ckT_ok (k := 0) am_m_167 rfl ck_167 (fun h => by cases h)
set_option maxRecDepth 100000 in
theorem ck_168 : am_ckT prog_14_method_20_code 12 0 (some .long) T168 := by decide +kernel
theorem ok_168 : am_okM am_mi (⟨"LeaningWheelModel", "w3", "(III)J"⟩, prog_14_method_20_code, 3, some .long, 12) (am_fd T168) := am_ckT_ok (k := 0) am_m_168 rfl ck_168 (fun h => by cases h)
set_option maxRecDepth 100000 in
theorem ck_169 : am_ckT prog_14_method_21_code 12 0 (some .long) T169 := by decide +kernel
theorem ok_169 : am_okM am_mi (⟨"LeaningWheelModel", "w5", "(IIIII)J"⟩, prog_14_method_21_code, 5, some .long, 12) (am_fd T169) := am_ckT_ok (k := 0) am_m_169 rfl ck_169 (fun h => by cases h)
set_option maxRecDepth 100000 in
theorem ck_170 : am_ckT prog_14_method_22_code 12 0 (some .long) T170 := by decide +kernel
theorem ok_170 : am_okM am_mi (⟨"LeaningWheelModel", "w4", "(IIII)J"⟩, prog_14_method_22_code, 4, some .long, 12) (am_fd T170) := am_ckT_ok (k := 0) am_m_170 rfl ck_170 (fun h => by cases h)
set_option maxRecDepth 100000 in
theorem ck_171 : am_ckT prog_14_method_24_code 12 1 (some .boolean) T171 := by decide +kernel
theorem ok_171 : am_okM am_mi (⟨"LeaningWheelModel", "isWord", "(J)Z"⟩, prog_14_method_24_code, 3, some .boolean, 12) (am_fd T171) := am_ckT_ok (k := 0) am_m_171 rfl ck_171 (fun h => by cases h)
set_option maxRecDepth 100000 in
theorem ck_172 : am_ckT prog_14_method_25_code 12 1 (none) T172 := by decide +kernel
theorem ok_172 : am_okM am_mi (⟨"LeaningWheelModel", "emit", "(II)V"⟩, prog_14_method_25_code, 3, none, 12) (am_fd T172) := am_ckT_ok (k := 0) am_m_172 rfl ck_172 (fun h => by cases h)
set_option maxRecDepth 100000 in
theorem ck_173 : am_ckT prog_14_method_26_code 12 1 (none) T173 := by decide +kernel
theorem ok_173 : am_okM am_mi (⟨"LeaningWheelModel", "push", "(I)V"⟩, prog_14_method_26_code, 2, none, 12) (am_fd T173) := am_ckT_ok (k := 0) am_m_173 rfl ck_173 (fun h => by cases h)
set_option maxRecDepth 100000 in
theorem ck_174 : am_ckT prog_14_method_27_code 12 1 (none) T174 := by decide +kernel
theorem ok_174 : am_okM am_mi (⟨"LeaningWheelModel", "whole", "()V"⟩, prog_14_method_27_code, 1, none, 12) (am_fd T174) := am_ckT_ok (k := 0) am_m_174 rfl ck_174 (fun h => by cases h)
set_option maxRecDepth 100000 in
theorem ck_175 : am_ckT prog_14_method_28_code 12 1 (none) T175 := by decide +kernel
theorem ok_175 : am_okM am_mi (⟨"LeaningWheelModel", "settle", "(I)V"⟩, prog_14_method_28_code, 2, none, 12) (am_fd T175) := am_ckT_ok (k := 0) am_m_175 rfl ck_175 (fun h => by cases h)
set_option maxRecDepth 100000 in
theorem ck_176 : am_ckT prog_14_method_29_code 12 1 (some .int) T176 := by decide +kernel
theorem ok_176 : am_okM am_mi (⟨"LeaningWheelModel", "nameOf", "()I"⟩, prog_14_method_29_code, 1, some .int, 12) (am_fd T176) := am_ckT_ok (k := 0) am_m_176 rfl ck_176 (fun h => by cases h)
set_option maxRecDepth 100000 in
theorem ck_177 : am_ckT prog_14_method_30_code 12 1 (some .int) T177 := by decide +kernel
theorem ok_177 : am_okM am_mi (⟨"LeaningWheelModel", "opener", "()I"⟩, prog_14_method_30_code, 2, some .int, 12) (am_fd T177) := am_ckT_ok (k := 0) am_m_177 rfl ck_177 (fun h => by cases h)
set_option maxRecDepth 100000 in
theorem ck_178 : am_ckT prog_14_method_31_code 12 1 (some .int) T178 := by decide +kernel
theorem ok_178 : am_okM am_mi (⟨"LeaningWheelModel", "beginOne", "()I"⟩, prog_14_method_31_code, 3, some .int, 12) (am_fd T178) := am_ckT_ok (k := 0) am_m_178 rfl ck_178 (fun h => by cases h)
set_option maxRecDepth 100000 in
theorem ck_179 : am_ckT prog_14_method_32_code 12 1 (some .int) T179 := by decide +kernel
theorem ok_179 : am_okM am_mi (⟨"LeaningWheelModel", "latest", "()I"⟩, prog_14_method_32_code, 2, some .int, 12) (am_fd T179) := am_ckT_ok (k := 0) am_m_179 rfl ck_179 (fun h => by cases h)
set_option maxRecDepth 100000 in
theorem ck_180 : am_ckT prog_14_method_33_code 12 1 (some .boolean) T180 := by decide +kernel
theorem ok_180 : am_okM am_mi (⟨"LeaningWheelModel", "goesOn", "()Z"⟩, prog_14_method_33_code, 1, some .boolean, 12) (am_fd T180) := am_ckT_ok (k := 0) am_m_180 rfl ck_180 (fun h => by cases h)
set_option maxRecDepth 100000 in
theorem ck_181 : am_ckT prog_14_method_34_code 12 1 (some .int) T181 := by decide +kernel
theorem ok_181 : am_okM am_mi (⟨"LeaningWheelModel", "behindOne", "()I"⟩, prog_14_method_34_code, 4, some .int, 12) (am_fd T181) := am_ckT_ok (k := 0) am_m_181 rfl ck_181 (fun h => by cases h)
set_option maxRecDepth 100000 in
theorem ck_182 : am_ckT prog_14_method_35_code 12 1 (some .int) T182 := by decide +kernel
theorem ok_182 : am_okM am_mi (⟨"LeaningWheelModel", "summed", "()I"⟩, prog_14_method_35_code, 2, some .int, 12) (am_fd T182) := am_ckT_ok (k := 0) am_m_182 rfl ck_182 (fun h => by cases h)
set_option maxRecDepth 100000 in
theorem ck_183 : am_ckT prog_14_method_36_code 12 1 (some .int) T183 := by decide +kernel
theorem ok_183 : am_okM am_mi (⟨"LeaningWheelModel", "sortOf", "()I"⟩, prog_14_method_36_code, 1, some .int, 12) (am_fd T183) := am_ckT_ok (k := 0) am_m_183 rfl ck_183 (fun h => by cases h)
set_option maxRecDepth 100000 in
theorem ck_184 : am_ckT prog_14_method_37_code 12 1 (some .int) T184 := by decide +kernel
theorem ok_184 : am_okM am_mi (⟨"LeaningWheelModel", "clause", "()I"⟩, prog_14_method_37_code, 2, some .int, 12) (am_fd T184) := am_ckT_ok (k := 0) am_m_184 rfl ck_184 (fun h => by cases h)
set_option maxRecDepth 100000 in
theorem ck_185 : am_ckT prog_14_method_38_code 12 1 (some .int) T185 := by decide +kernel
theorem ok_185 : am_okM am_mi (⟨"LeaningWheelModel", "readText", "()I"⟩, prog_14_method_38_code, 2, some .int, 12) (am_fd T185) := am_ckT_ok (k := 0) am_m_185 rfl ck_185 (fun h => by cases h)
set_option maxRecDepth 100000 in
theorem ck_186 : am_ckT prog_14_method_39_code 12 1 (some .int) T186 := by decide +kernel
theorem ok_186 : am_okM am_mi (⟨"LeaningWheelModel", "text", "()I"⟩, prog_14_method_39_code, 1, some .int, 12) (am_fd T186) := am_ckT_ok (k := 0) am_m_186 rfl ck_186 (fun h => by cases h)
set_option maxRecDepth 100000 in
theorem ck_187 : am_ckT prog_14_method_40_code 12 1 (some .int) T187 := by decide +kernel
theorem ok_187 : am_okM am_mi (⟨"LeaningWheelModel", "fault", "(I)I"⟩, prog_14_method_40_code, 2, some .int, 12) (am_fd T187) := am_ckT_ok (k := 0) am_m_187 rfl ck_187 (fun h => by cases h)
set_option maxRecDepth 100000 in
theorem ck_188 : am_ckT prog_14_method_41_code 12 1 (some .boolean) T188 := by decide +kernel
theorem ok_188 : am_okM am_mi (⟨"LeaningWheelModel", "law", "(I)Z"⟩, prog_14_method_41_code, 2, some .boolean, 12) (am_fd T188) := am_ckT_ok (k := 0) am_m_188 rfl ck_188 (fun h => by cases h)
set_option maxRecDepth 100000 in
theorem ck_189 : am_ckT prog_14_method_42_code 12 0 (some .long) T189 := by decide +kernel
theorem ok_189 : am_okM am_mi (⟨"LeaningWheelModel", "held", "(J)J"⟩, prog_14_method_42_code, 2, some .long, 12) (am_fd T189) := am_ckT_ok (k := 0) am_m_189 rfl ck_189 (fun h => by cases h)
set_option maxRecDepth 100000 in
theorem ck_190 : am_ckT prog_14_method_43_code 12 0 (some .long) T190 := by decide +kernel
theorem ok_190 : am_okM am_mi (⟨"LeaningWheelModel", "two", "(IJJ)J"⟩, prog_14_method_43_code, 5, some .long, 12) (am_fd T190) := am_ckT_ok (k := 0) am_m_190 rfl ck_190 (fun h => by cases h)
set_option maxRecDepth 100000 in
theorem ck_191 : am_ckT prog_14_method_44_code 12 1 (some .int) T191 := by decide +kernel
theorem ok_191 : am_okM am_mi (⟨"LeaningWheelModel", "valueOf", "(III)I"⟩, prog_14_method_44_code, 11, some .int, 12) (am_fd T191) := am_ckT_ok (k := 0) am_m_191 rfl ck_191 (fun h => by cases h)
set_option maxRecDepth 100000 in
theorem ck_192 : am_ckT prog_14_method_45_code 12 1 (some .int) T192 := by decide +kernel
theorem ok_192 : am_okM am_mi (⟨"LeaningWheelModel", "ring", "(I)I"⟩, prog_14_method_45_code, 3, some .int, 12) (am_fd T192) := am_ckT_ok (k := 0) am_m_192 rfl ck_192 (fun h => by cases h)
set_option maxRecDepth 100000 in
theorem ck_193 : am_ckT prog_14_method_46_code 12 1 (none) T193 := by decide +kernel
theorem ok_193 : am_okM am_mi (⟨"LeaningWheelModel", "roll", "(IIIII)V"⟩, prog_14_method_46_code, 11, none, 12) (am_fd T193) := am_ckT_ok (k := 0) am_m_193 rfl ck_193 (fun h => by cases h)
set_option maxRecDepth 100000 in
theorem ck_194 : am_ckT prog_14_method_47_code 12 1 (none) T194 := by decide +kernel
theorem ok_194 : am_okM am_mi (⟨"LeaningWheelModel", "addOdds", "(II)V"⟩, prog_14_method_47_code, 10, none, 12) (am_fd T194) := am_ckT_ok (k := 0) am_m_194 rfl ck_194 (fun h => by cases h)
set_option maxRecDepth 100000 in
theorem ck_195 : am_ckT prog_14_method_48_code 12 1 (none) T195 := by decide +kernel
theorem ok_195 : am_okM am_mi (⟨"LeaningWheelModel", "clearOdds", "()V"⟩, prog_14_method_48_code, 2, none, 12) (am_fd T195) := am_ckT_ok (k := 0) am_m_195 rfl ck_195 (fun h => by cases h)
set_option maxRecDepth 100000 in
theorem ck_196 : am_ckT prog_14_method_49_code 12 1 (some .boolean) T196 := by decide +kernel
theorem ok_196 : am_okM am_mi (⟨"LeaningWheelModel", "isPoint", "(I)Z"⟩, prog_14_method_49_code, 2, some .boolean, 12) (am_fd T196) := am_ckT_ok (k := 0) am_m_196 rfl ck_196 (fun h => by cases h)
set_option maxRecDepth 100000 in
theorem ck_197 : am_ckT prog_14_method_50_code 12 1 (some .boolean) T197 := by decide +kernel
theorem ok_197 : am_okM am_mi (⟨"LeaningWheelModel", "isDrop", "(IIIII)Z"⟩, prog_14_method_50_code, 6, some .boolean, 12) (am_fd T197) := am_ckT_ok (k := 0) am_m_197 rfl ck_197 (fun h => by cases h)
set_option maxRecDepth 100000 in
theorem ck_198 : am_ckT prog_14_method_51_code 12 1 (some .int) T198 := by decide +kernel
theorem ok_198 : am_okM am_mi (⟨"LeaningWheelModel", "drop", "(IIIIII)I"⟩, prog_14_method_51_code, 7, some .int, 12) (am_fd T198) := am_ckT_ok (k := 0) am_m_198 rfl ck_198 (fun h => by cases h)
set_option maxRecDepth 100000 in
theorem ck_199 : am_ckT prog_14_method_52_code 12 1 (some .int) T199 := by decide +kernel
theorem ok_199 : am_okM am_mi (⟨"LeaningWheelModel", "bestPocket", "()I"⟩, prog_14_method_52_code, 3, some .int, 12) (am_fd T199) := am_ckT_ok (k := 0) am_m_199 rfl ck_199 (fun h => by cases h)
set_option maxRecDepth 100000 in
theorem ck_200 : am_ckT prog_14_method_53_code 12 1 (some .int) T200 := by decide +kernel
theorem ok_200 : am_okM am_mi (⟨"LeaningWheelModel", "foretold", "(IIIIII)I"⟩, prog_14_method_53_code, 9, some .int, 12) (am_fd T200) := am_ckT_ok (k := 0) am_m_200 rfl ck_200 (fun h => by cases h)
set_option maxRecDepth 100000 in
theorem ck_201 : am_ckT prog_14_method_54_code 12 0 (some .boolean) T201 := by decide +kernel
theorem ok_201 : am_okM am_mi (⟨"LeaningWheelModel", "isHand", "(I)Z"⟩, prog_14_method_54_code, 1, some .boolean, 12) (am_fd T201) := am_ckT_ok (k := 0) am_m_201 rfl ck_201 (fun h => by cases h)
set_option maxRecDepth 100000 in
theorem ck_202 : am_ckT prog_14_method_55_code 12 1 (some .int) T202 := by decide +kernel
theorem ok_202 : am_okM am_mi (⟨"LeaningWheelModel", "start", "(IIIIII)I"⟩, prog_14_method_55_code, 8, some .int, 12) (am_fd T202) := am_ckT_ok (k := 0) am_m_202 rfl ck_202 (fun h => by cases h)
set_option maxRecDepth 100000 in
theorem ck_203 : am_ckT prog_14_method_56_code 12 1 (some .int) T203 := by decide +kernel
theorem ok_203 : am_okM am_mi (⟨"LeaningWheelModel", "odds", "(III)I"⟩, prog_14_method_56_code, 7, some .int, 12) (am_fd T203) := am_ckT_ok (k := 0) am_m_203 rfl ck_203 (fun h => by cases h)
set_option maxRecDepth 100000 in
theorem ck_204 : am_ckT prog_14_method_57_code 12 1 (none) T204 := by decide +kernel
theorem ok_204 : am_okM am_mi (⟨"LeaningWheelModel", "put", "(II)V"⟩, prog_14_method_57_code, 5, none, 12) (am_fd T204) := am_ckT_ok (k := 0) am_m_204 rfl ck_204 (fun h => by cases h)
set_option maxRecDepth 100000 in
theorem ck_205 : am_ckT prog_14_method_58_code 12 1 (none) T205 := by decide +kernel
theorem ok_205 : am_okM am_mi (⟨"LeaningWheelModel", "lay", "(II)V"⟩, prog_14_method_58_code, 4, none, 12) (am_fd T205) := am_ckT_ok (k := 0) am_m_205 rfl ck_205 (fun h => by cases h)
set_option maxRecDepth 100000 in
theorem ck_206 : am_ckT prog_14_method_59_code 12 1 (none) T206 := by decide +kernel
theorem ok_206 : am_okM am_mi (⟨"LeaningWheelModel", "times", "(II)V"⟩, prog_14_method_59_code, 7, none, 12) (am_fd T206) := am_ckT_ok (k := 0) am_m_206 rfl ck_206 (fun h => by cases h)
set_option maxRecDepth 100000 in
theorem ck_207 : am_ckT prog_14_method_60_code 12 1 (none) T207 := by decide +kernel
theorem ok_207 : am_okM am_mi (⟨"LeaningWheelModel", "add", "(III)V"⟩, prog_14_method_60_code, 7, none, 12) (am_fd T207) := am_ckT_ok (k := 0) am_m_207 rfl ck_207 (fun h => by cases h)
set_option maxRecDepth 100000 in
theorem ck_208 : am_ckT prog_14_method_61_code 12 1 (some .int) T208 := by decide +kernel
theorem ok_208 : am_okM am_mi (⟨"LeaningWheelModel", "compare", "(II)I"⟩, prog_14_method_61_code, 4, some .int, 12) (am_fd T208) := am_ckT_ok (k := 0) am_m_208 rfl ck_208 (fun h => by cases h)
set_option maxRecDepth 100000 in
theorem ck_209 : am_ckT prog_14_method_62_code 12 1 (none) T209 := by decide +kernel
theorem ok_209 : am_okM am_mi (⟨"LeaningWheelModel", "product", "(III)V"⟩, prog_14_method_62_code, 9, none, 12) (am_fd T209) := am_ckT_ok (k := 0) am_m_209 rfl ck_209 (fun h => by cases h)
set_option maxRecDepth 100000 in
theorem ck_210 : am_ckT prog_14_method_63_code 12 1 (some .int) T210 := by decide +kernel
theorem ok_210 : am_okM am_mi (⟨"LeaningWheelModel", "into", "(II)I"⟩, prog_14_method_63_code, 6, some .int, 12) (am_fd T210) := am_ckT_ok (k := 0) am_m_210 rfl ck_210 (fun h => by cases h)
set_option maxRecDepth 100000 in
theorem ck_211 : am_ckT prog_14_method_64_code 12 1 (none) T211 := by decide +kernel
theorem ok_211 : am_okM am_mi (⟨"LeaningWheelModel", "power", "(III)V"⟩, prog_14_method_64_code, 5, none, 12) (am_fd T211) := am_ckT_ok (k := 0) am_m_211 rfl ck_211 (fun h => by cases h)
set_option maxRecDepth 100000 in
theorem ck_212 : am_ckT prog_14_method_65_code 12 1 (none) T212 := by decide +kernel
theorem ok_212 : am_okM am_mi (⟨"LeaningWheelModel", "tryMore", "(IIII)V"⟩, prog_14_method_65_code, 6, none, 12) (am_fd T212) := am_ckT_ok (k := 0) am_m_212 rfl ck_212 (fun h => by cases h)
set_option maxRecDepth 100000 in
theorem ck_213 : am_ckT prog_14_method_66_code 12 1 (none) T213 := by decide +kernel
theorem ok_213 : am_okM am_mi (⟨"LeaningWheelModel", "tryAll", "(III)V"⟩, prog_14_method_66_code, 5, none, 12) (am_fd T213) := am_ckT_ok (k := 0) am_m_213 rfl ck_213 (fun h => by cases h)
set_option maxRecDepth 100000 in
theorem ck_214 : am_ckT prog_14_method_67_code 12 1 (none) T214 := by decide +kernel
theorem ok_214 : am_okM am_mi (⟨"LeaningWheelModel", "sum", "(IIII)V"⟩, prog_14_method_67_code, 6, none, 12) (am_fd T214) := am_ckT_ok (k := 0) am_m_214 rfl ck_214 (fun h => by cases h)
set_option maxRecDepth 100000 in
theorem ck_215 : am_ckT prog_14_method_68_code 12 1 (none) T215 := by decide +kernel
theorem ok_215 : am_okM am_mi (⟨"LeaningWheelModel", "tail", "(III)V"⟩, prog_14_method_68_code, 4, none, 12) (am_fd T215) := am_ckT_ok (k := 0) am_m_215 rfl ck_215 (fun h => by cases h)
set_option maxRecDepth 100000 in
theorem ck_216 : am_ckT prog_14_method_69_code 12 1 (some .int) T216 := by decide +kernel
theorem ok_216 : am_okM am_mi (⟨"LeaningWheelModel", "millionths", "()I"⟩, prog_14_method_69_code, 1, some .int, 12) (am_fd T216) := am_ckT_ok (k := 0) am_m_216 rfl ck_216 (fun h => by cases h)
set_option maxRecDepth 100000 in
theorem ck_217 : am_ckT prog_14_method_70_code 12 1 (some .int) T217 := by decide +kernel
theorem ok_217 : am_okM am_mi (⟨"LeaningWheelModel", "above", "(III)I"⟩, prog_14_method_70_code, 4, some .int, 12) (am_fd T217) := am_ckT_ok (k := 0) am_m_217 rfl ck_217 (fun h => by cases h)
set_option maxRecDepth 100000 in
theorem ck_218 : am_ckT prog_14_method_71_code 12 1 (some .int) T218 := by decide +kernel
theorem ok_218 : am_okM am_mi (⟨"LeaningWheelModel", "setsOf", "(I)I"⟩, prog_14_method_71_code, 5, some .int, 12) (am_fd T218) := am_ckT_ok (k := 0) am_m_218 rfl ck_218 (fun h => by cases h)
set_option maxRecDepth 100000 in
theorem ck_219 : am_ckT prog_14_method_72_code 12 1 (some .int) T219 := by decide +kernel
theorem ok_219 : am_okM am_mi (⟨"LeaningWheelModel", "among", "(III)I"⟩, prog_14_method_72_code, 4, some .int, 12) (am_fd T219) := am_ckT_ok (k := 0) am_m_219 rfl ck_219 (fun h => by cases h)
set_option maxRecDepth 100000 in
theorem ck_220 : am_ckT prog_14_method_73_code 12 1 (some .boolean) T220 := by decide +kernel
theorem ok_220 : am_okM am_mi (⟨"LeaningWheelModel", "isLikely", "(IIIII)Z"⟩, prog_14_method_73_code, 6, some .boolean, 12) (am_fd T220) := am_ckT_ok (k := 0) am_m_220 rfl ck_220 (fun h => by cases h)
set_option maxRecDepth 100000 in
theorem ck_221 : am_ckT prog_14_method_74_code 12 0 (some .boolean) T221 := by decide +kernel
theorem ok_221 : am_okM am_mi (⟨"LeaningWheelModel", "isTold", "(I)Z"⟩, prog_14_method_74_code, 1, some .boolean, 12) (am_fd T221) := am_ckT_ok (k := 0) am_m_221 rfl ck_221 (fun h => by cases h)
set_option maxRecDepth 100000 in
theorem ck_222 : am_ckT prog_14_method_75_code 12 1 (some .int) T222 := by decide +kernel
theorem ok_222 : am_okM am_mi (⟨"LeaningWheelModel", "span", "(IIIZ)I"⟩, prog_14_method_75_code, 9, some .int, 12) (am_fd T222) := am_ckT_ok (k := 0) am_m_222 rfl ck_222 (fun h => by cases h)
set_option maxRecDepth 100000 in
theorem ck_223 : am_ckT prog_14_method_76_code 12 0 (some .boolean) T223 := by decide +kernel
theorem ok_223 : am_okM am_mi (⟨"LeaningWheelModel", "isThousandth", "(I)Z"⟩, prog_14_method_76_code, 1, some .boolean, 12) (am_fd T223) := am_ckT_ok (k := 0) am_m_223 rfl ck_223 (fun h => by cases h)
set_option maxRecDepth 100000 in
theorem ck_224 : am_ckT prog_14_method_77_code 12 1 (some .int) T224 := by decide +kernel
theorem ok_224 : am_okM am_mi (⟨"LeaningWheelModel", "need", "(IIII)I"⟩, prog_14_method_77_code, 8, some .int, 12) (am_fd T224) := am_ckT_ok (k := 0) am_m_224 rfl ck_224 (fun h => by cases h)
set_option maxRecDepth 100000 in
theorem ck_225 : am_ckT prog_14_method_78_code 12 1 (some .int) T225 := by decide +kernel
theorem ok_225 : am_okM am_mi (⟨"LeaningWheelModel", "write", "(IIII)I"⟩, prog_14_method_78_code, 7, some .int, 12) (am_fd T225) := am_ckT_ok (k := 0) am_m_225 rfl ck_225 (fun h => by cases h)
set_option maxRecDepth 100000 in
theorem ck_226 : am_ckT prog_14_method_79_code 12 1 (some .boolean) T226 := by decide +kernel
theorem ok_226 : am_okM am_mi (⟨"LeaningWheelModel", "scratch", "(III)Z"⟩, prog_14_method_79_code, 4, some .boolean, 12) (am_fd T226) := am_ckT_ok (k := 0) am_m_226 rfl ck_226 (fun h => by cases h)
set_option maxRecDepth 100000 in
theorem ck_227 : am_ckT prog_14_method_80_code 12 1 (some .boolean) T227 := by decide +kernel
theorem ok_227 : am_okM am_mi (⟨"LeaningWheelModel", "isSpin", "(III)Z"⟩, prog_14_method_80_code, 4, some .boolean, 12) (am_fd T227) := am_ckT_ok (k := 0) am_m_227 rfl ck_227 (fun h => by cases h)
set_option maxRecDepth 100000 in
theorem ck_228 : am_ckT prog_14_method_81_code 12 1 (some .int) T228 := by decide +kernel
theorem ok_228 : am_okM am_mi (⟨"LeaningWheelModel", "spins", "(II)I"⟩, prog_14_method_81_code, 5, some .int, 12) (am_fd T228) := am_ckT_ok (k := 0) am_m_228 rfl ck_228 (fun h => by cases h)
set_option maxRecDepth 100000 in
theorem ck_229 : am_ckT prog_14_method_82_code 12 1 (some .int) T229 := by decide +kernel
theorem ok_229 : am_okM am_mi (⟨"LeaningWheelModel", "leans", "(I)I"⟩, prog_14_method_82_code, 4, some .int, 12) (am_fd T229) := am_ckT_ok (k := 0) am_m_229 rfl ck_229 (fun h => by cases h)
set_option maxRecDepth 100000 in
theorem ck_230 : am_ckT prog_14_method_83_code 12 1 (some .boolean) T230 := by decide +kernel
theorem ok_230 : am_okM am_mi (⟨"LeaningWheelModel", "isScratched", "(I)Z"⟩, prog_14_method_83_code, 5, some .boolean, 12) (am_fd T230) := am_ckT_ok (k := 0) am_m_230 rfl ck_230 (fun h => by cases h)
set_option maxRecDepth 100000 in
theorem ck_231 : am_ckT prog_14_method_84_code 12 1 (some .boolean) T231 := by decide +kernel
theorem ok_231 : am_okM am_mi (⟨"LeaningWheelModel", "isWay", "(I)Z"⟩, prog_14_method_84_code, 4, some .boolean, 12) (am_fd T231) := am_ckT_ok (k := 0) am_m_231 rfl ck_231 (fun h => by cases h)
set_option maxRecDepth 100000 in
theorem ck_232 : am_ckT prog_14_method_85_code 12 1 (none) T232 := by decide +kernel
theorem ok_232 : am_okM am_mi (⟨"LeaningWheelModel", "likeliness", "(I)V"⟩, prog_14_method_85_code, 6, none, 12) (am_fd T232) := am_ckT_ok (k := 0) am_m_232 rfl ck_232 (fun h => by cases h)
set_option maxRecDepth 100000 in
theorem ck_233 : am_ckT prog_14_method_86_code 12 1 (none) T233 := by decide +kernel
theorem ok_233 : am_okM am_mi (⟨"LeaningWheelModel", "findWays", "(I)V"⟩, prog_14_method_86_code, 4, none, 12) (am_fd T233) := am_ckT_ok (k := 0) am_m_233 rfl ck_233 (fun h => by cases h)
set_option maxRecDepth 100000 in
theorem ck_234 : am_ckT prog_14_method_87_code 12 1 (some .int) T234 := by decide +kernel
theorem ok_234 : am_okM am_mi (⟨"LeaningWheelModel", "which", "(II)I"⟩, prog_14_method_87_code, 3, some .int, 12) (am_fd T234) := am_ckT_ok (k := 0) am_m_234 rfl ck_234 (fun h => by cases h)
set_option maxRecDepth 100000 in
theorem ck_235 : am_ckT prog_14_method_88_code 12 1 (none) T235 := by decide +kernel
theorem ok_235 : am_okM am_mi (⟨"LeaningWheelModel", "fall", "(I)V"⟩, prog_14_method_88_code, 5, none, 12) (am_fd T235) := am_ckT_ok (k := 0) am_m_235 rfl ck_235 (fun h => by cases h)
set_option maxRecDepth 100000 in
theorem ck_236 : am_ckT prog_14_method_89_code 12 1 (some .int) T236 := by decide +kernel
theorem ok_236 : am_okM am_mi (⟨"LeaningWheelModel", "falls", "(II)I"⟩, prog_14_method_89_code, 3, some .int, 12) (am_fd T236) := am_ckT_ok (k := 0) am_m_236 rfl ck_236 (fun h => by cases h)
set_option maxRecDepth 100000 in
theorem ck_237 : am_ckT prog_14_method_90_code 12 1 (some .int) T237 := by decide +kernel
theorem ok_237 : am_okM am_mi (⟨"LeaningWheelModel", "pickMost", "(I)I"⟩, prog_14_method_90_code, 6, some .int, 12) (am_fd T237) := am_ckT_ok (k := 0) am_m_237 rfl ck_237 (fun h => by cases h)
set_option maxRecDepth 100000 in
theorem ck_238 : am_ckT prog_14_method_91_code 12 1 (some .int) T238 := by decide +kernel
theorem ok_238 : am_okM am_mi (⟨"LeaningWheelModel", "nine", "(III)I"⟩, prog_14_method_91_code, 7, some .int, 12) (am_fd T238) := am_ckT_ok (k := 0) am_m_238 rfl ck_238 (fun h => by cases h)
set_option maxRecDepth 100000 in
theorem ck_239 : am_ckT prog_14_method_92_code 12 1 (some .int) T239 := by decide +kernel
theorem ok_239 : am_okM am_mi (⟨"LeaningWheelModel", "habit", "(III)I"⟩, prog_14_method_92_code, 11, some .int, 12) (am_fd T239) := am_ckT_ok (k := 0) am_m_239 rfl ck_239 (fun h => by cases h)
set_option maxRecDepth 100000 in
theorem ck_240 : am_ckT prog_14_method_93_code 12 1 (none) T240 := by decide +kernel
theorem ok_240 : am_okM am_mi (⟨"LeaningWheelModel", "bets", "(IIIII)V"⟩, prog_14_method_93_code, 9, none, 12) (am_fd T240) := am_ckT_ok (k := 0) am_m_240 rfl ck_240 (fun h => by cases h)
set_option maxRecDepth 100000 in
theorem ck_241 : am_ckT prog_14_method_94_code 12 1 (some .int) T241 := by decide +kernel
theorem ok_241 : am_okM am_mi (⟨"LeaningWheelModel", "goal", "(IIIII)I"⟩, prog_14_method_94_code, 7, some .int, 12) (am_fd T241) := am_ckT_ok (k := 0) am_m_241 rfl ck_241 (fun h => by cases h)
set_option maxRecDepth 100000 in
theorem ck_242 : am_ckT prog_14_method_95_code 12 1 (some .int) T242 := by decide +kernel
theorem ok_242 : am_okM am_mi (⟨"LeaningWheelModel", "luck", "(IIII)I"⟩, prog_14_method_95_code, 8, some .int, 12) (am_fd T242) := am_ckT_ok (k := 0) am_m_242 rfl ck_242 (fun h => by cases h)
set_option maxRecDepth 100000 in
theorem ck_243 : am_ckT prog_14_method_96_code 12 1 (some .int) T243 := by decide +kernel
theorem ok_243 : am_okM am_mi (⟨"LeaningWheelModel", "run", "(IIIII)I"⟩, prog_14_method_96_code, 11, some .int, 12) (am_fd T243) := am_ckT_ok (k := 0) am_m_243 rfl ck_243 (fun h => by cases h)
set_option maxRecDepth 100000 in
theorem ck_244 : am_ckT prog_14_method_97_code 12 1 (some .int) T244 := by decide +kernel
theorem ok_244 : am_okM am_mi (⟨"LeaningWheelModel", "bet", "(III)I"⟩, prog_14_method_97_code, 5, some .int, 12) (am_fd T244) := am_ckT_ok (k := 0) am_m_244 rfl ck_244 (fun h => by cases h)
set_option maxRecDepth 100000 in
theorem ck_245 : am_ckT prog_14_method_98_code 12 1 (some .int) T245 := by decide +kernel
theorem ok_245 : am_okM am_mi (⟨"LeaningWheelModel", "watched", "(II)I"⟩, prog_14_method_98_code, 7, some .int, 12) (am_fd T245) := am_ckT_ok (k := 0) am_m_245 rfl ck_245 (fun h => by cases h)
set_option maxRecDepth 100000 in
theorem ck_246 : am_ckT prog_14_method_99_code 12 1 (some .int) T246 := by decide +kernel
theorem ok_246 : am_okM am_mi (⟨"LeaningWheelModel", "house", "(IIIII)I"⟩, prog_14_method_99_code, 12, some .int, 12) (am_fd T246) := am_ckT_ok (k := 0) am_m_246 rfl ck_246 (fun h => by cases h)
set_option maxRecDepth 100000 in
theorem ck_247 : am_ckT prog_14_method_100_code 12 1 (some .int) T247 := by decide +kernel
theorem ok_247 : am_okM am_mi (⟨"LeaningWheelModel", "seen", "(II)I"⟩, prog_14_method_100_code, 3, some .int, 12) (am_fd T247) := am_ckT_ok (k := 0) am_m_247 rfl ck_247 (fun h => by cases h)
set_option maxRecDepth 100000 in
theorem ck_248 : am_ckT prog_14_method_101_code 12 1 (some .int) T248 := by decide +kernel
theorem ok_248 : am_okM am_mi (⟨"LeaningWheelModel", "shoe", "(I)I"⟩, prog_14_method_101_code, 9, some .int, 12) (am_fd T248) := am_ckT_ok (k := 0) am_m_248 rfl ck_248 (fun h => by cases h)
set_option maxRecDepth 100000 in
theorem ck_249 : am_ckT prog_14_method_102_code 12 1 (some .int) T249 := by decide +kernel
theorem ok_249 : am_okM am_mi (⟨"LeaningWheelModel", "image", "()I"⟩, prog_14_method_102_code, 1, some .int, 12) (am_fd T249) := am_ckT_ok (k := 0) am_m_249 rfl ck_249 (fun h => by cases h)
set_option maxRecDepth 100000 in
theorem ck_250 : am_ckT prog_14_method_103_code 12 1 (some .int) T250 := by decide +kernel
theorem ok_250 : am_okM am_mi (⟨"LeaningWheelModel", "back", "()I"⟩, prog_14_method_103_code, 1, some .int, 12) (am_fd T250) := am_ckT_ok (k := 0) am_m_250 rfl ck_250 (fun h => by cases h)
set_option maxRecDepth 100000 in
theorem ck_251 : am_ckT prog_14_method_104_code 12 1 (some .int) T251 := by decide +kernel
theorem ok_251 : am_okM am_mi (⟨"LeaningWheelModel", "about", "(I)I"⟩, prog_14_method_104_code, 2, some .int, 12) (am_fd T251) := am_ckT_ok (k := 0) am_m_251 rfl ck_251 (fun h => by cases h)
set_option maxRecDepth 100000 in
theorem ck_252 : am_ckT method_2_code 13 0 (some .int) T252 := by decide +kernel
theorem ok_252 : am_okM am_mi (⟨"LeaningWheelLaw", "cell", "([II)I"⟩, method_2_code, 2, some .int, 98) (am_fd T252) := am_ckT_ok (k := 0) am_m_252 rfl ck_252 (fun h => by cases h)
set_option maxRecDepth 100000 in
theorem ck_253 : am_ckT prog_15_method_50_code 14 0 (some .int) T253 := by decide +kernel
theorem ok_253 : am_okM am_mi (⟨"java/lang/Math", "floorMod", "(II)I"⟩, prog_15_method_50_code, 3, some .int, 98) (am_fd T253) := am_ckT_ok (k := 0) am_m_253 rfl ck_253 (fun h => by cases h)
set_option maxRecDepth 100000 in
theorem ck_254 : am_ckT prog_15_method_59_code 14 0 (some .int) T254 := by decide +kernel
theorem ok_254 : am_okM am_mi (⟨"java/lang/Math", "abs", "(I)I"⟩, prog_15_method_59_code, 1, some .int, 98) (am_fd T254) := am_ckT_ok (k := 0) am_m_254 rfl ck_254 (fun h => by cases h)
set_option maxRecDepth 100000 in
theorem ck_255 : am_ckT prog_15_method_65_code 14 0 (some .int) T255 := by decide +kernel
theorem ok_255 : am_okM am_mi (⟨"java/lang/Math", "max", "(II)I"⟩, prog_15_method_65_code, 2, some .int, 98) (am_fd T255) := am_ckT_ok (k := 0) am_m_255 rfl ck_255 (fun h => by cases h)
set_option maxRecDepth 100000 in
theorem ck_256 : am_ckT prog_15_method_66_code 14 0 (some .long) T256 := by decide +kernel
theorem ok_256 : am_okM am_mi (⟨"java/lang/Math", "max", "(JJ)J"⟩, prog_15_method_66_code, 4, some .long, 98) (am_fd T256) := am_ckT_ok (k := 0) am_m_256 rfl ck_256 (fun h => by cases h)
set_option maxRecDepth 100000 in
theorem ck_257 : am_ckT prog_15_method_69_code 14 0 (some .int) T257 := by decide +kernel
theorem ok_257 : am_okM am_mi (⟨"java/lang/Math", "min", "(II)I"⟩, prog_15_method_69_code, 2, some .int, 98) (am_fd T257) := am_ckT_ok (k := 0) am_m_257 rfl ck_257 (fun h => by cases h)
set_option maxRecDepth 100000 in
theorem ck_258 : am_ckT prog_15_method_70_code 14 0 (some .long) T258 := by decide +kernel
theorem ok_258 : am_okM am_mi (⟨"java/lang/Math", "min", "(JJ)J"⟩, prog_15_method_70_code, 4, some .long, 98) (am_fd T258) := am_ckT_ok (k := 0) am_m_258 rfl ck_258 (fun h => by cases h)
set_option maxRecDepth 100000 in
theorem ck_259 : am_ckT prog_20_method_103_code 15 0 (none) T259 := by decide +kernel
theorem ok_259 : am_okM am_mi (⟨"java/util/Arrays", "fill", "([II)V"⟩, prog_20_method_103_code, 4, none, 98) (am_fd T259) := am_ckT_ok (k := 0) am_m_259 rfl ck_259 (fun h => by cases h)
