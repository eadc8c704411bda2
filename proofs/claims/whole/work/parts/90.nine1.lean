/-! NINE: the class -/
theorem lshr_k {m k : Nat} (hm : m < 9223372036854775808) (hk : k < 37) : (Int64.ofInt (m : Int) >>> ((Int32.ofInt (k : Int)).toInt64 &&& 63)).toInt = ((m / 2 ^ k : Nat) : Int) := by
  have e1 : (BitVec.ofInt 64 (m : Int)).toInt = (m : Int) := by
    rw [BitVec.toInt_ofInt]
    rw [Int.bmod_def]
    omega
  have h : ∀ k : Fin 37, (((Int32.ofInt (k.val : Int)).toInt64 &&& 63).toBitVec.smod 64).toNat = k.val := by decide +kernel
  show ((BitVec.ofInt 64 (m : Int)).sshiftRight (((Int32.ofInt (k : Int)).toInt64 &&& 63).toBitVec.smod 64).toNat).toInt = _
  rw [h ⟨k, hk⟩, BitVec.toInt_sshiftRight, e1, Int.shiftRight_eq_div_pow]
  rfl
theorem land_1 {s : Nat} (hs : s < 9223372036854775808) : (Int64.ofInt (s : Int) &&& Int64.ofInt 1).toInt = ((s % 2 : Nat) : Int) := by
  have e1 : (BitVec.ofInt 64 (s : Int)).toNat = s := by
    rw [BitVec.toNat_ofInt]
    omega
  have e2 : (BitVec.ofInt 64 (1 : Int)).toNat = 1 := by rfl
  have e3 : (BitVec.ofInt 64 (s : Int) &&& BitVec.ofInt 64 1).toNat = s % 2 := by
    rw [BitVec.toNat_and, e1, e2]
    exact Nat.and_two_pow_sub_one_eq_mod s 1
  show (BitVec.ofInt 64 (s : Int) &&& BitVec.ofInt 64 1).toInt = _
  rw [BitVec.toInt_eq_toNat_of_lt (by rw [e3]; omega), e3]
theorem lshl_37 {k : Nat} (hk : k < 37) : (Int64.ofInt 1 <<< ((Int32.ofInt (k : Int)).toInt64 &&& 63)).toInt = ((2 ^ k : Nat) : Int) := by
  have h : ∀ k : Fin 37, (Int64.ofInt 1 <<< ((Int32.ofInt (k.val : Int)).toInt64 &&& 63)).toInt = ((2 ^ k.val : Nat) : Int) := by decide +kernel
  exact h ⟨k, hk⟩
theorem lor_k {m n : Nat} (hm : m < 137438953472) (hn : n < 137438953472) : (Int64.ofInt (m : Int) ||| Int64.ofInt (n : Int)).toInt = ((m ||| n : Nat) : Int) := by
  have e1 : (BitVec.ofInt 64 (m : Int)).toNat = m := by
    rw [BitVec.toNat_ofInt]
    omega
  have e2 : (BitVec.ofInt 64 (n : Int)).toNat = n := by
    rw [BitVec.toNat_ofInt]
    omega
  have e3 : (BitVec.ofInt 64 (m : Int) ||| BitVec.ofInt 64 (n : Int)).toNat = m ||| n := by rw [BitVec.toNat_or, e1, e2]
  have e4 : m ||| n < 2 ^ 37 := Nat.or_lt_two_pow (by omega) (by omega)
  show (BitVec.ofInt 64 (m : Int) ||| BitVec.ofInt 64 (n : Int)).toInt = _
  rw [BitVec.toInt_eq_toNat_of_lt (by rw [e3]; omega), e3]
def bst (T : Nat → Int) (X : Nat → Bool) : Nat → Int
  | 0 => -1
  | n + 1 => if X n = false ∧ (bst T X n = -1 ∨ T (bst T X n).toNat < T n) then (n : Int) else bst T X n
theorem bst_s (T : Nat → Int) (X : Nat → Bool) (n : Nat) : bst T X (n + 1) = if X n = false ∧ (bst T X n = -1 ∨ T (bst T X n).toNat < T n) then (n : Int) else bst T X n := rfl
def pks (T : Nat → Int) (P : Nat) : Nat → Nat → Bool
  | 0 => fun _ => false
  | q + 1 => fun p => pks T P q p || decide ((p : Int) = bst T (pks T P q) P)
def psm (T : Nat → Int) (P : Nat) : Nat → Int
  | 0 => 0
  | q + 1 => psm T P q + T (bst T (pks T P q) P).toNat
def cnB (X : Nat → Bool) : Nat → Nat
  | 0 => 0
  | n + 1 => cnB X n + (if X n = true then 1 else 0)
theorem bst_in (T : Nat → Int) (X : Nat → Bool) (n : Nat) : -1 ≤ bst T X n ∧ bst T X n < (n : Int) ∧ (bst T X n = -1 ∨ X (bst T X n).toNat = false) := by
  induction n with
  | zero => exact ⟨by show (-1 : Int) ≤ -1; omega, by show (-1 : Int) < 0; omega, Or.inl rfl⟩
  | succ n ih =>
    rw [bst_s]
    split
    · rename_i h
      exact ⟨by omega, by omega, Or.inr (by rw [Int.toNat_natCast]; exact h.1)⟩
    · exact ⟨ih.1, by omega, ih.2.2⟩
theorem bst_none {T : Nat → Int} {X : Nat → Bool} {n : Nat} : bst T X n = -1 → ∀ p, p < n → X p = true := by
  induction n with
  | zero => intro _ p hp; omega
  | succ n ih =>
    intro h p hp
    rw [bst_s] at h
    by_cases q : X n = false ∧ (bst T X n = -1 ∨ T (bst T X n).toNat < T n)
    · rw [if_pos q] at h; omega
    · rw [if_neg q] at h
      by_cases e : p = n
      · subst e
        cases hx : X p with
        | true => rfl
        | false => exact absurd ⟨hx, Or.inl h⟩ q
      · exact ih h p (by omega)
theorem cnB_all {X : Nat → Bool} {n : Nat} : (∀ p, p < n → X p = true) → cnB X n = n := by
  induction n with
  | zero => intro _; rfl
  | succ n ih => intro h; rw [cnB, if_pos (h n (by omega)), ih fun p hp => h p (by omega)]
theorem cnB_le (X : Nat → Bool) (n : Nat) : cnB X n ≤ n := by
  induction n with
  | zero => exact Nat.le_refl _
  | succ n ih => rw [cnB]; split <;> omega
theorem cnB_eq {X Y : Nat → Bool} {n : Nat} (h : ∀ p, p < n → X p = Y p) : cnB X n = cnB Y n := by
  induction n with
  | zero => rfl
  | succ n ih => rw [cnB, cnB, ih fun p hp => h p (by omega), h n (by omega)]
theorem cnB_add {X Y : Nat → Bool} {i n : Nat} (hi : i < n) (hx : X i = false) (hy : Y i = true) (h : ∀ p, p < n → p ≠ i → X p = Y p) : cnB Y n = cnB X n + 1 := by
  induction n with
  | zero => omega
  | succ n ih =>
    rw [cnB, cnB]
    by_cases e : i = n
    · subst e
      rw [if_pos hy, if_neg (by rw [hx]; decide), cnB_eq (X := Y) (Y := X) fun p hp => (h p (by omega) (by omega)).symm]
    · rw [ih (by omega) fun p hp => h p (by omega), h n (by omega) (by omega)]; omega
theorem pks_s (T : Nat → Int) (P q p : Nat) : pks T P (q + 1) p = (pks T P q p || decide ((p : Int) = bst T (pks T P q) P)) := rfl
theorem pks_cn {T : Nat → Int} {P : Nat} : ∀ q, q ≤ P → cnB (pks T P q) P = q ∧ (q < P → 0 ≤ bst T (pks T P q) P) := by
  have key : ∀ q, cnB (pks T P q) P = q → q < P → 0 ≤ bst T (pks T P q) P := by
    intro q h hq
    have hb := bst_in T (pks T P q) P
    by_cases e : bst T (pks T P q) P = -1
    · have := cnB_all (bst_none e); omega
    · omega
  intro q
  induction q with
  | zero =>
    intro _
    have h0 : ∀ n, cnB (pks T P 0) n = 0 := fun n => by
      induction n with
      | zero => rfl
      | succ n ih => rw [cnB, ih]; rfl
    exact ⟨h0 P, key 0 (h0 P)⟩
  | succ q ih =>
    intro hq
    have h1 := ih (by omega)
    have h2 := h1.2 (by omega)
    have hb := bst_in T (pks T P q) P
    have h3 : cnB (pks T P (q + 1)) P = q + 1 := by
      rw [cnB_add (X := pks T P q) (i := (bst T (pks T P q) P).toNat) (by omega) (hb.2.2.resolve_left (by omega)) (by rw [pks_s, decide_eq_true (by omega), Bool.or_true]) fun p _ hne => by rw [pks_s, decide_eq_false (by omega), Bool.or_false], h1.1]
    exact ⟨h3, key _ h3⟩
theorem bst_eq {T T' : Nat → Int} {X X' : Nat → Bool} : ∀ n, (∀ p, p < n → T p = T' p ∧ X p = X' p) → bst T X n = bst T' X' n := by
  intro n
  induction n with
  | zero => intro _; rfl
  | succ n ih =>
    intro h
    have h1 := ih fun p hp => h p (by omega)
    have hb := bst_in T' X' n
    rw [bst_s, bst_s, h1, (h n (by omega)).1, (h n (by omega)).2]
    by_cases e : bst T' X' n = -1
    · rw [e]
      simp only [true_or]
    · rw [(h (bst T' X' n).toNat (by omega)).1]
theorem pks_eq {T T' : Nat → Int} {P : Nat} (h : ∀ p, p < P → T p = T' p) : ∀ q, pks T P q = pks T' P q := by
  intro q
  induction q with
  | zero => rfl
  | succ q ih =>
    funext p
    rw [pks_s, pks_s, ih, bst_eq P fun p hp => ⟨h p hp, rfl⟩]
theorem psm_eq {T T' : Nat → Int} {P : Nat} (h : ∀ p, p < P → T p = T' p) : ∀ q, q ≤ P → psm T P q = psm T' P q := by
  intro q
  induction q with
  | zero => intro _; rfl
  | succ q ih =>
    intro hq
    have h2 := (pks_cn (T := T') (P := P) q (by omega)).2 (by omega)
    have hb := bst_in T' (pks T' P q) P
    rw [psm, psm, ih (by omega), pks_eq h q, bst_eq (T := T) (T' := T') P fun p hp => ⟨h p hp, rfl⟩, h _ (by omega)]
theorem psm_in {T : Nat → Int} {P : Nat} {M : Int} (h : ∀ p, p < P → 0 ≤ T p ∧ T p ≤ M) : ∀ q : Nat, q ≤ P → 0 ≤ psm T P q ∧ psm T P q ≤ M * (q : Int) := by
  intro q
  induction q with
  | zero => intro _; exact ⟨Int.le_refl _, by show (0 : Int) ≤ M * 0; omega⟩
  | succ q ih =>
    intro hq
    have h2 := (pks_cn (T := T) (P := P) q (by omega)).2 (by omega)
    have hb := bst_in T (pks T P q) P
    have h3 := h (bst T (pks T P q) P).toNat (by omega)
    have h4 := ih (by omega)
    rw [psm, Int.natCast_add, Int.mul_add]
    omega
theorem pks_P {T : Nat → Int} {P q p : Nat} (h : P ≤ p) : pks T P q p = false := by
  induction q with
  | zero => rfl
  | succ q ih =>
    have hb := bst_in T (pks T P q) P
    rw [pks_s, ih, Bool.false_or]
    exact decide_eq_false (by omega)
/-- picks are in T: their sum is at most all -/
def NiD (P : Nat) (w j x : Int) : Prop := 0 ≤ w ∧ w ≤ 3 ∧ 1 ≤ j ∧ j ≤ 9 ∧ j < (P : Int) ∧ ((0 ≤ x ∧ x ≤ 1) ∨ (10 ≤ x ∧ x < 10 + j))
def NiV (P N : Nat) (T : Nat → Int) (j x v : Int) : Prop := (x = 0 ∧ v = psm T P j.toNat) ∨ (x = 1 ∧ AmA P N (psm T P j.toNat) j v) ∨ (10 ≤ x ∧ ∃ p : Nat, v = (p : Int) ∧ p < P ∧ pks T P j.toNat p = true ∧ (cnB (pks T P j.toNat) p : Int) = x - 10)
def NiA (P : Nat) (c : am_G) (w j x v : Int) : Prop := (NiD P w j x ∧ ∃ N T, FaC P c w N T ∧ NiV P N T j x v) ∨ (¬ NiD P w j x ∧ v = -1)
theorem cnB_lt {X : Nat → Bool} {p n : Nat} (hx : X p = true) : p < n → cnB X p < cnB X n := by
  induction n with
  | zero => intro h; omega
  | succ n ih =>
    intro h
    rw [cnB]
    by_cases e : p = n
    · subst e; rw [if_pos hx]; omega
    · have := ih (by omega); omega
theorem NiA.uniq {P : Nat} {c : am_G} (hI : CInv P c) {w j x v v' : Int} (h : NiA P c w j x v) (h' : NiA P c w j x v') : v = v' := by
  rcases h with ⟨h1, N, T, h2, h3⟩ | h <;> rcases h' with ⟨k1, N', T', k2, k3⟩ | h'
  · have e := h2.uniq hI.bk k2
    obtain ⟨a1, a2, a3, a4, a5, a6⟩ := h1
    have hp := pks_eq e.2 j.toNat
    have hs := psm_eq e.2 j.toNat (by omega)
    unfold NiV at h3 k3
    rw [e.1, hp, hs] at h3
    rcases h3 with h3 | h3 | ⟨h3, p, b1, b2, b3, b4⟩ <;> rcases k3 with k3 | k3 | ⟨k3, p', d1, d2, d3, d4⟩
    · exact h3.2.trans k3.2.symm
    · omega
    · omega
    · omega
    · exact h3.2.uniq hI.ck.1.1 k3.2
    · omega
    · omega
    · omega
    · rcases Nat.lt_trichotomy p p' with q | q | q
      · have := cnB_lt b3 q; omega
      · omega
      · have := cnB_lt d3 q; omega
  · exact absurd h1 h'.1
  · exact absurd k1 h.1
  · exact h.2.trans h'.2.symm
/-- the chosen ones as bits -/
def ChB (g : am_G) (X : Nat → Bool) : Prop := ∃ m : Nat, g 0 14 = (m : Int) ∧ m < 137438953472 ∧ ∀ p, p < 37 → m.testBit p = X p
set_option maxHeartbeats 400000 in
set_option maxRecDepth 20000 in
theorem e_isChosen {sn : Nat} {sx : Nat → Int} {b : Nat} {g : am_G} {p : Nat} {X : Nat → Bool} (hX : ChB g X) (hp : p < 37) : Ev sn sx 1 144 [(2, 0), (0, ((p : Nat) : Int))] (SH b) g (fun r => Is1 r (SH b) g (X p = true)) := by
  obtain ⟨m, hm1, hm2, hm3⟩ := hX
  obtain ⟨q, hq⟩ : ∃ q, q = m / 2 ^ p % 2 := ⟨_, rfl⟩
  have hq2 : q < 2 := by rw [hq]; exact Nat.mod_lt _ (by decide)
  refine ev_of (K := 0) T144 (by decide) rfl rfl (Nat.le_of_ble_eq_true rfl) ?_
  refine wp_eq (L' := [(2, 0), (0, ((p : Nat) : Int))]) (st' := []) (g' := g) ?_
  refine wp_n 2 (pc' := 4) (L' := [(2, 0), (0, ((p : Nat) : Int))]) (st' := [(1, (g 0 14))]) (g' := g) rfl ?_
  refine wp_eq (L' := [(2, 0), (0, ((p : Nat) : Int))]) (st' := [(1, ((m : Nat) : Int))]) (g' := g) ?_ (by rfl) (by rw [hm1]) (by rfl)
  refine wp_n 2 (pc' := 6) (L' := [(2, 0), (0, ((p : Nat) : Int))]) (st' := [(1, (Int64.ofInt ((m : Nat) : Int) >>> ((Int32.ofInt ((p : Nat) : Int)).toInt64 &&& 63)).toInt)]) (g' := g) rfl ?_
  refine wp_eq (L' := [(2, 0), (0, ((p : Nat) : Int))]) (st' := [(1, (((m / 2 ^ p) : Nat) : Int))]) (g' := g) ?_ (by rfl) (by rw [lshr_k (by omega) hp]) (by rfl)
  refine wp_n 2 (pc' := 8) (L' := [(2, 0), (0, ((p : Nat) : Int))]) (st' := [(1, (Int64.ofInt (((m / 2 ^ p) : Nat) : Int) &&& Int64.ofInt 1).toInt)]) (g' := g) rfl ?_
  refine wp_eq (L' := [(2, 0), (0, ((p : Nat) : Int))]) (st' := [(1, ((q : Nat) : Int))]) (g' := g) ?_ (by rfl) (by rw [land_1 (Nat.lt_of_le_of_lt (Nat.div_le_self _ _) (by omega)), ← hq]) (by rfl)
  refine wp_n 1 (pc' := 9) (L' := [(2, 0), (0, ((p : Nat) : Int))]) (st' := [(1, 1), (1, ((q : Nat) : Int))]) (g' := g) rfl ?_
  refine wp_lc_ne rfl rfl (by omega) (by omega) (fun c1 => ?_) (fun c1 => ?_)
  · refine wp_n 1 (pc' := 18) (L' := [(2, 0), (0, ((p : Nat) : Int))]) (st' := [(0, 0)]) (g' := g) rfl ?_
    exact wp_ret rfl rfl rfl (Or.inr ⟨rfl, by rw [← hm3 p hp, Nat.testBit_eq_decide_div_mod_eq, decide_eq_false (by omega)]; decide⟩)
  · refine wp_n 2 (pc' := 18) (L' := [(2, 0), (0, ((p : Nat) : Int))]) (st' := [(0, 1)]) (g' := g) rfl ?_
    exact wp_ret rfl rfl rfl (Or.inl ⟨rfl, by rw [← hm3 p hp, Nat.testBit_eq_decide_div_mod_eq]; exact decide_eq_true (by omega)⟩)
set_option maxHeartbeats 400000 in
set_option maxRecDepth 20000 in
theorem e_choose {sn : Nat} {sx : Nat → Int} {b : Nat} {g : am_G} {P j : Nat} (hP : g 0 0 = (P : Int)) (h5 : 5 ≤ P ∧ P ≤ 37) (hj : j < P) (hT : ∀ p, p < P → 0 ≤ g 126 p ∧ g 126 p ≤ 200) : Ev sn sx 2 143 [(2, 0), (0, ((j : Nat) : Int))] (SH b) g (fun r => ∃ g', r = (some (0, psm (g 126) P j), SH b, g') ∧ ChB g' (pks (g 126) P j) ∧ ∀ c k, (c ≠ 0 ∨ k ≠ 14) → g' c k = g c k) := by
  refine ev_of (K := 1) T143 (by decide) rfl rfl (Nat.le_of_ble_eq_true rfl) ?_
  refine wp_eq (L' := [(2, 0), (0, ((j : Nat) : Int)), (9, 0), (9, 0), (9, 0), (9, 0)]) (st' := []) (g' := g) ?_
  refine wp_n 7 (pc' := 9) (L' := [(2, 0), (0, ((j : Nat) : Int)), (0, 0), (0, 0), (9, 0), (9, 0)]) (st' := []) (g' := (am_up g 0 14 0)) rfl ?_
  have L9 : ∀ (lf : Nat) (i : Nat) (h : am_G) (w4 w5 : am_V), j - i < lf → (i ≤ j) → (ChB h (pks (g 126) P i)) → (∀ c k, (c ≠ 0 ∨ k ≠ 14) → h c k = g c k) → Wp sn sx 1 T143 9 [(2, 0), (0, ((j : Nat) : Int)), (0, (psm (g 126) P i)), (0, ((i : Nat) : Int)), w4, w5] [] (SH b) h (fun r => ∃ g', r = (some (0, psm (g 126) P j), SH b, g') ∧ ChB g' (pks (g 126) P j) ∧ ∀ c k, (c ≠ 0 ∨ k ≠ 14) → g' c k = g c k) := by
    intro lf
    induction lf with
    | zero => intro i h w4 w5 hlf; exact absurd hlf (Nat.not_lt_zero _)
    | succ lf ih9 =>
      intro i h w4 w5 hlf hi hC hF
      refine wp_n 2 (pc' := 11) (L' := [(2, 0), (0, ((j : Nat) : Int)), (0, (psm (g 126) P i)), (0, ((i : Nat) : Int)), w4, w5]) (st' := [(0, ((j : Nat) : Int)), (0, ((i : Nat) : Int))]) (g' := h) rfl ?_
      refine wp_ic_ge rfl (fun c1 => ?_) (fun c1 => ?_)
      · have hij : i = j := by omega
        refine wp_n 1 (pc' := 107) (L' := [(2, 0), (0, ((j : Nat) : Int)), (0, (psm (g 126) P i)), (0, ((i : Nat) : Int)), w4, w5]) (st' := [(0, (psm (g 126) P i))]) (g' := h) rfl ?_
        exact wp_ret rfl rfl rfl ⟨_, by rw [hij], by rw [← hij]; exact hC, hF⟩
      · have hpb := (pks_cn (T := g 126) (P := P) i (by omega)).2 (by omega)
        have hpi := bst_in (g 126) (pks (g 126) P i) P
        have hps := psm_in (P := P) hT i (by omega)
        have hTb := hT (bst (g 126) (pks (g 126) P i) P).toNat (by omega)
        refine wp_n 4 (pc' := 20) (L' := [(2, 0), (0, ((j : Nat) : Int)), (0, (psm (g 126) P i)), (0, ((i : Nat) : Int)), (0, (-1)), (0, 0)]) (st' := []) (g' := h) rfl ?_
        have L20 : ∀ (lf : Nat) (p : Nat), P - p < lf → (p ≤ P) → Wp sn sx 1 T143 20 [(2, 0), (0, ((j : Nat) : Int)), (0, (psm (g 126) P i)), (0, ((i : Nat) : Int)), (0, (bst (g 126) (pks (g 126) P i) p)), (0, ((p : Nat) : Int))] [] (SH b) h (fun r => ∃ g', r = (some (0, psm (g 126) P j), SH b, g') ∧ ChB g' (pks (g 126) P j) ∧ ∀ c k, (c ≠ 0 ∨ k ≠ 14) → g' c k = g c k) := by
          intro lf
          induction lf with
          | zero => intro p hlf; exact absurd hlf (Nat.not_lt_zero _)
          | succ lf ih20 =>
            intro p hlf hp
            refine wp_n 3 (pc' := 26) (L' := [(2, 0), (0, ((j : Nat) : Int)), (0, (psm (g 126) P i)), (0, ((i : Nat) : Int)), (0, (bst (g 126) (pks (g 126) P i) p)), (0, ((p : Nat) : Int))]) (st' := [(0, (h 0 0)), (0, ((p : Nat) : Int))]) (g' := h) rfl ?_
            refine wp_eq (L' := [(2, 0), (0, ((j : Nat) : Int)), (0, (psm (g 126) P i)), (0, ((i : Nat) : Int)), (0, (bst (g 126) (pks (g 126) P i) p)), (0, ((p : Nat) : Int))]) (st' := [(0, ((P : Nat) : Int)), (0, ((p : Nat) : Int))]) (g' := h) ?_ (by rfl) (by rw [hF 0 0 (by omega), hP]) (by rfl)
            refine wp_ic_ge rfl (fun c2 => ?_) (fun c2 => ?_)
            · have hpP : p = P := by omega
              obtain ⟨m, hm1, hm2, hm3⟩ := hC
              refine wp_eq (L' := [(2, 0), (0, ((j : Nat) : Int)), (0, (psm (g 126) P i)), (0, ((i : Nat) : Int)), (0, (bst (g 126) (pks (g 126) P i) P)), (0, ((p : Nat) : Int))]) (st' := []) (g' := h) ?_ (by rw [hpP]) (by rfl) (by rfl)
              refine wp_n 2 (pc' := 74) (L' := [(2, 0), (0, ((j : Nat) : Int)), (0, (psm (g 126) P i)), (0, ((i : Nat) : Int)), (0, (bst (g 126) (pks (g 126) P i) P)), (0, ((p : Nat) : Int))]) (st' := [(0, (-1)), (0, (bst (g 126) (pks (g 126) P i) P))]) (g' := h) rfl ?_
              refine wp_ic_eq rfl (fun c3 => ?_) (fun c3 => ?_)
              · exfalso; omega
              · refine wp_n 3 (pc' := 82) (L' := [(2, 0), (0, ((j : Nat) : Int)), (0, (psm (g 126) P i)), (0, ((i : Nat) : Int)), (0, (bst (g 126) (pks (g 126) P i) P)), (0, ((p : Nat) : Int))]) (st' := [(1, (h 0 14)), (2, 0)]) (g' := h) rfl ?_
                refine wp_eq (L' := [(2, 0), (0, ((j : Nat) : Int)), (0, (psm (g 126) P i)), (0, ((i : Nat) : Int)), (0, (bst (g 126) (pks (g 126) P i) P)), (0, ((p : Nat) : Int))]) (st' := [(1, ((m : Nat) : Int)), (2, 0)]) (g' := h) ?_ (by rfl) (by rw [hm1]) (by rfl)
                refine wp_n 2 (pc' := 85) (L' := [(2, 0), (0, ((j : Nat) : Int)), (0, (psm (g 126) P i)), (0, ((i : Nat) : Int)), (0, (bst (g 126) (pks (g 126) P i) P)), (0, ((p : Nat) : Int))]) (st' := [(0, (bst (g 126) (pks (g 126) P i) P)), (1, 1), (1, ((m : Nat) : Int)), (2, 0)]) (g' := h) rfl ?_
                refine wp_eq (L' := [(2, 0), (0, ((j : Nat) : Int)), (0, (psm (g 126) P i)), (0, ((i : Nat) : Int)), (0, (bst (g 126) (pks (g 126) P i) P)), (0, ((p : Nat) : Int))]) (st' := [(0, (((bst (g 126) (pks (g 126) P i) P).toNat : Nat) : Int)), (1, 1), (1, ((m : Nat) : Int)), (2, 0)]) (g' := h) ?_ (by rfl) (by rw [Int.toNat_of_nonneg (by omega)]) (by rfl)
                refine wp_n 1 (pc' := 86) (L' := [(2, 0), (0, ((j : Nat) : Int)), (0, (psm (g 126) P i)), (0, ((i : Nat) : Int)), (0, (bst (g 126) (pks (g 126) P i) P)), (0, ((p : Nat) : Int))]) (st' := [(1, (Int64.ofInt 1 <<< ((Int32.ofInt (((bst (g 126) (pks (g 126) P i) P).toNat : Nat) : Int)).toInt64 &&& 63)).toInt), (1, ((m : Nat) : Int)), (2, 0)]) (g' := h) rfl ?_
                refine wp_eq (L' := [(2, 0), (0, ((j : Nat) : Int)), (0, (psm (g 126) P i)), (0, ((i : Nat) : Int)), (0, (bst (g 126) (pks (g 126) P i) P)), (0, ((p : Nat) : Int))]) (st' := [(1, (((2 ^ (bst (g 126) (pks (g 126) P i) P).toNat) : Nat) : Int)), (1, ((m : Nat) : Int)), (2, 0)]) (g' := h) ?_ (by rfl) (by rw [lshl_37 (by omega)]) (by rfl)
                refine wp_n 1 (pc' := 87) (L' := [(2, 0), (0, ((j : Nat) : Int)), (0, (psm (g 126) P i)), (0, ((i : Nat) : Int)), (0, (bst (g 126) (pks (g 126) P i) P)), (0, ((p : Nat) : Int))]) (st' := [(1, (Int64.ofInt ((m : Nat) : Int) ||| Int64.ofInt (((2 ^ (bst (g 126) (pks (g 126) P i) P).toNat) : Nat) : Int)).toInt), (2, 0)]) (g' := h) rfl ?_
                refine wp_eq (L' := [(2, 0), (0, ((j : Nat) : Int)), (0, (psm (g 126) P i)), (0, ((i : Nat) : Int)), (0, (bst (g 126) (pks (g 126) P i) P)), (0, ((p : Nat) : Int))]) (st' := [(1, (((m ||| 2 ^ (bst (g 126) (pks (g 126) P i) P).toNat) : Nat) : Int)), (2, 0)]) (g' := h) ?_ (by rfl) (by rw [lor_k hm2 (Nat.lt_of_lt_of_le (Nat.pow_lt_pow_right (show 1 < 2 by decide) (show (bst (g 126) (pks (g 126) P i) P).toNat < 37 by omega)) (by decide))]) (by rfl)
                refine wp_n 5 (pc' := 97) (L' := [(2, 0), (0, ((j : Nat) : Int)), (0, (psm (g 126) P i)), (0, ((i : Nat) : Int)), (0, (bst (g 126) (pks (g 126) P i) P)), (0, ((p : Nat) : Int))]) (st' := [(0, (bst (g 126) (pks (g 126) P i) P)), (2, 126), (0, (psm (g 126) P i))]) (g' := (am_up h 0 14 (((m ||| 2 ^ (bst (g 126) (pks (g 126) P i) P).toNat) : Nat) : Int))) rfl ?_
                refine wp_iald (k := 126) ((bst (g 126) (pks (g 126) P i) P).toNat) rfl rfl (by omega) (by omega) (by decide) ?_
                refine wp_eq (L' := [(2, 0), (0, ((j : Nat) : Int)), (0, (psm (g 126) P i)), (0, ((i : Nat) : Int)), (0, (bst (g 126) (pks (g 126) P i) P)), (0, ((p : Nat) : Int))]) (st' := [(0, (g 126 (bst (g 126) (pks (g 126) P i) P).toNat)), (0, (psm (g 126) P i))]) (g' := (am_up h 0 14 (((m ||| 2 ^ (bst (g 126) (pks (g 126) P i) P).toNat) : Nat) : Int))) ?_ (by rfl) (by rw [up_ne (by decide), hF 126 _ (by omega)]) (by rfl)
                refine wp_n 4 (pc' := 9) (L' := [(2, 0), (0, ((j : Nat) : Int)), (0, ((psm (g 126) P i) + (g 126 (bst (g 126) (pks (g 126) P i) P).toNat))), (0, (((i : Nat) : Int) + 1)), (0, (bst (g 126) (pks (g 126) P i) P)), (0, ((p : Nat) : Int))]) (st' := []) (g' := (am_up h 0 14 (((m ||| 2 ^ (bst (g 126) (pks (g 126) P i) P).toNat) : Nat) : Int))) rfl ?_
                refine wp_eq (ih9 (i + 1) ((am_up h 0 14 (((m ||| 2 ^ (bst (g 126) (pks (g 126) P i) P).toNat) : Nat) : Int))) ((0, (bst (g 126) (pks (g 126) P i) P))) ((0, ((p : Nat) : Int))) ?_ ?_ ?_ ?_) (by rw [psm]; rfl) (by rfl) (by rfl)
                · omega
                · omega
                · refine ⟨m ||| 2 ^ (bst (g 126) (pks (g 126) P i) P).toNat, up_eq, Nat.or_lt_two_pow (n := 37) (by omega) (Nat.pow_lt_pow_right (by decide) (by omega)), fun p hp => ?_⟩
                  rw [Nat.testBit_or, hm3 p hp, Nat.testBit_two_pow, pks_s]
                  congr 1
                  exact decide_eq_decide.mpr (by omega)
                · exact fun c k q => (up_no q).trans (hF c k q)
            · have hbi := bst_in (g 126) (pks (g 126) P i) p
              have hTp := hT p (by omega)
              refine wp_n 2 (pc' := 32) (L' := [(2, 0), (0, ((j : Nat) : Int)), (0, (psm (g 126) P i)), (0, ((i : Nat) : Int)), (0, (bst (g 126) (pks (g 126) P i) p)), (0, ((p : Nat) : Int))]) (st' := [(0, ((p : Nat) : Int)), (2, 0)]) (g' := h) rfl ?_
              refine wp_cv (as := [(2, 0), (0, ((p : Nat) : Int))]) (rest := []) rfl rfl rfl (Nat.le_of_ble_eq_true rfl) rfl (e_isChosen (p := p) hC (by omega)) (by decide) (fun r4 h5 => ?_)
              rcases h5 with ⟨rfl, p32⟩ | ⟨rfl, p32⟩
              · refine wp_eq (L' := [(2, 0), (0, ((j : Nat) : Int)), (0, (psm (g 126) P i)), (0, ((i : Nat) : Int)), (0, (bst (g 126) (pks (g 126) P i) p)), (0, ((p : Nat) : Int))]) (st' := [(0, 1)]) (g' := h) ?_
                refine wp_n 3 (pc' := 20) (L' := [(2, 0), (0, ((j : Nat) : Int)), (0, (psm (g 126) P i)), (0, ((i : Nat) : Int)), (0, (bst (g 126) (pks (g 126) P i) p)), (0, (((p : Nat) : Int) + 1))]) (st' := []) (g' := h) rfl ?_
                refine wp_eq (ih20 (p + 1) ?_ ?_) (by first | (rw [bst_s, if_pos ⟨hxf, by omega⟩]; rfl) | (rw [bst_s, if_neg (fun k => by have := k.2; omega)]; rfl) | (rw [bst_s, if_neg (fun k => by rw [p32] at k; exact absurd k.1 (by decide))]; rfl)) (by rfl) (by rfl)
                · omega
                · omega
              · have hxf : (pks (g 126) P i) p = false := by cases hx : (pks (g 126) P i) p with | true => exact absurd hx p32 | false => rfl
                refine wp_eq (L' := [(2, 0), (0, ((j : Nat) : Int)), (0, (psm (g 126) P i)), (0, ((i : Nat) : Int)), (0, (bst (g 126) (pks (g 126) P i) p)), (0, ((p : Nat) : Int))]) (st' := [(0, 0)]) (g' := h) ?_
                refine wp_n 3 (pc' := 41) (L' := [(2, 0), (0, ((j : Nat) : Int)), (0, (psm (g 126) P i)), (0, ((i : Nat) : Int)), (0, (bst (g 126) (pks (g 126) P i) p)), (0, ((p : Nat) : Int))]) (st' := [(0, (-1)), (0, (bst (g 126) (pks (g 126) P i) p))]) (g' := h) rfl ?_
                refine wp_ic_eq rfl (fun c6 => ?_) (fun c6 => ?_)
                · refine wp_n 4 (pc' := 20) (L' := [(2, 0), (0, ((j : Nat) : Int)), (0, (psm (g 126) P i)), (0, ((i : Nat) : Int)), (0, ((p : Nat) : Int)), (0, (((p : Nat) : Int) + 1))]) (st' := []) (g' := h) rfl ?_
                  refine wp_eq (ih20 (p + 1) ?_ ?_) (by first | (rw [bst_s, if_pos ⟨hxf, by omega⟩]; rfl) | (rw [bst_s, if_neg (fun k => by have := k.2; omega)]; rfl) | (rw [bst_s, if_neg (fun k => by rw [p32] at k; exact absurd k.1 (by decide))]; rfl)) (by rfl) (by rfl)
                  · omega
                  · omega
                · have hTc := hT (bst (g 126) (pks (g 126) P i) p).toNat (by omega)
                  refine wp_n 3 (pc' := 50) (L' := [(2, 0), (0, ((j : Nat) : Int)), (0, (psm (g 126) P i)), (0, ((i : Nat) : Int)), (0, (bst (g 126) (pks (g 126) P i) p)), (0, ((p : Nat) : Int))]) (st' := [(0, ((p : Nat) : Int)), (2, 126)]) (g' := h) rfl ?_
                  refine wp_iald (k := 126) (p) rfl rfl (by omega) (by omega) (by decide) ?_
                  refine wp_eq (L' := [(2, 0), (0, ((j : Nat) : Int)), (0, (psm (g 126) P i)), (0, ((i : Nat) : Int)), (0, (bst (g 126) (pks (g 126) P i) p)), (0, ((p : Nat) : Int))]) (st' := [(0, (g 126 p))]) (g' := h) ?_ (by rfl) (by rw [hF 126 p (by omega)]) (by rfl)
                  refine wp_n 3 (pc' := 57) (L' := [(2, 0), (0, ((j : Nat) : Int)), (0, (psm (g 126) P i)), (0, ((i : Nat) : Int)), (0, (bst (g 126) (pks (g 126) P i) p)), (0, ((p : Nat) : Int))]) (st' := [(0, (bst (g 126) (pks (g 126) P i) p)), (2, 126), (0, (g 126 p))]) (g' := h) rfl ?_
                  refine wp_iald (k := 126) ((bst (g 126) (pks (g 126) P i) p).toNat) rfl rfl (by omega) (by omega) (by decide) ?_
                  refine wp_eq (L' := [(2, 0), (0, ((j : Nat) : Int)), (0, (psm (g 126) P i)), (0, ((i : Nat) : Int)), (0, (bst (g 126) (pks (g 126) P i) p)), (0, ((p : Nat) : Int))]) (st' := [(0, (g 126 (bst (g 126) (pks (g 126) P i) p).toNat)), (0, (g 126 p))]) (g' := h) ?_ (by rfl) (by rw [hF 126 _ (by omega)]) (by rfl)
                  refine wp_ic_le rfl (fun c7 => ?_) (fun c7 => ?_)
                  · refine wp_n 2 (pc' := 20) (L' := [(2, 0), (0, ((j : Nat) : Int)), (0, (psm (g 126) P i)), (0, ((i : Nat) : Int)), (0, (bst (g 126) (pks (g 126) P i) p)), (0, (((p : Nat) : Int) + 1))]) (st' := []) (g' := h) rfl ?_
                    refine wp_eq (ih20 (p + 1) ?_ ?_) (by first | (rw [bst_s, if_pos ⟨hxf, by omega⟩]; rfl) | (rw [bst_s, if_neg (fun k => by have := k.2; omega)]; rfl) | (rw [bst_s, if_neg (fun k => by rw [p32] at k; exact absurd k.1 (by decide))]; rfl)) (by rfl) (by rfl)
                    · omega
                    · omega
                  · refine wp_n 4 (pc' := 20) (L' := [(2, 0), (0, ((j : Nat) : Int)), (0, (psm (g 126) P i)), (0, ((i : Nat) : Int)), (0, ((p : Nat) : Int)), (0, (((p : Nat) : Int) + 1))]) (st' := []) (g' := h) rfl ?_
                    refine wp_eq (ih20 (p + 1) ?_ ?_) (by first | (rw [bst_s, if_pos ⟨hxf, by omega⟩]; rfl) | (rw [bst_s, if_neg (fun k => by have := k.2; omega)]; rfl) | (rw [bst_s, if_neg (fun k => by rw [p32] at k; exact absurd k.1 (by decide))]; rfl)) (by rfl) (by rfl)
                    · omega
                    · omega
        refine wp_eq (L20 (_ + 1) (0) (Nat.lt_succ_self _) ?_) (by first | rfl | (simp; done) | (simp; omega)) (by rfl) (by rfl)
        · exact Nat.zero_le _
  refine wp_eq (L9 (_ + 1) (0) ((am_up g 0 14 0)) ((9, 0)) ((9, 0)) (Nat.lt_succ_self _) ?_ ?_ ?_) (by first | rfl | (simp; done) | (simp; omega)) (by rfl) (by rfl)
  · exact Nat.zero_le _
  · exact ⟨0, up_eq, by decide, fun p _ => Nat.zero_testBit p⟩
  · exact fun c k q => up_no q
set_option maxHeartbeats 400000 in
set_option maxRecDepth 20000 in
theorem e_chosenAt {sn : Nat} {sx : Nat → Int} {b : Nat} {g : am_G} {P : Nat} {x : Int} {X : Nat → Bool} (hP : g 0 0 = (P : Int)) (h5 : 5 ≤ P ∧ P ≤ 37) (hX : ChB g X) (hx : 0 ≤ x ∧ x < (cnB X P : Int)) : Ev sn sx 2 145 [(2, 0), (0, x)] (SH b) g (fun r => ∃ p : Nat, r = (some (0, (p : Int)), SH b, g) ∧ p < P ∧ X p = true ∧ (cnB X p : Int) = x) := by
  refine ev_of (K := 1) T145 (by decide) rfl rfl (Nat.le_of_ble_eq_true rfl) ?_
  refine wp_eq (L' := [(2, 0), (0, x), (9, 0), (9, 0)]) (st' := []) (g' := g) ?_
  refine wp_n 4 (pc' := 4) (L' := [(2, 0), (0, x), (0, 0), (0, 0)]) (st' := []) (g' := g) rfl ?_
  have L4 : ∀ (lf : Nat) (p : Nat), P - p < lf → (p ≤ P) → ((cnB X p : Int) ≤ x) → Wp sn sx 1 T145 4 [(2, 0), (0, x), (0, (((cnB X p) : Nat) : Int)), (0, ((p : Nat) : Int))] [] (SH b) g (fun r => ∃ p : Nat, r = (some (0, (p : Int)), SH b, g) ∧ p < P ∧ X p = true ∧ (cnB X p : Int) = x) := by
    intro lf
    induction lf with
    | zero => intro p hlf; exact absurd hlf (Nat.not_lt_zero _)
    | succ lf ih4 =>
      intro p hlf hp hc
      refine wp_n 3 (pc' := 9) (L' := [(2, 0), (0, x), (0, (((cnB X p) : Nat) : Int)), (0, ((p : Nat) : Int))]) (st' := [(0, (g 0 0)), (0, ((p : Nat) : Int))]) (g' := g) rfl ?_
      refine wp_eq (L' := [(2, 0), (0, x), (0, (((cnB X p) : Nat) : Int)), (0, ((p : Nat) : Int))]) (st' := [(0, ((P : Nat) : Int)), (0, ((p : Nat) : Int))]) (g' := g) ?_ (by rfl) (by rw [hP]) (by rfl)
      refine wp_ic_ge rfl (fun c1 => ?_) (fun c1 => ?_)
      · have hpP : p = P := by omega
        rw [hpP] at hc
        refine wp_n 1 (pc' := 37) (L' := [(2, 0), (0, x), (0, (((cnB X p) : Nat) : Int)), (0, ((p : Nat) : Int))]) (st' := [(0, (-1))]) (g' := g) rfl ?_
        exfalso; omega
      · have hcl := cnB_le X p
        have hcP := cnB_le X P
        refine wp_n 2 (pc' := 14) (L' := [(2, 0), (0, x), (0, (((cnB X p) : Nat) : Int)), (0, ((p : Nat) : Int))]) (st' := [(0, ((p : Nat) : Int)), (2, 0)]) (g' := g) rfl ?_
        refine wp_cv (as := [(2, 0), (0, ((p : Nat) : Int))]) (rest := []) rfl rfl rfl (Nat.le_of_ble_eq_true rfl) rfl (e_isChosen (p := p) hX (by omega)) (by decide) (fun r2 h3 => ?_)
        rcases h3 with ⟨rfl, p14⟩ | ⟨rfl, p14⟩
        · refine wp_eq (L' := [(2, 0), (0, x), (0, (((cnB X p) : Nat) : Int)), (0, ((p : Nat) : Int))]) (st' := [(0, 1)]) (g' := g) ?_
          refine wp_n 3 (pc' := 22) (L' := [(2, 0), (0, x), (0, (((cnB X p) : Nat) : Int)), (0, ((p : Nat) : Int))]) (st' := [(0, x), (0, (((cnB X p) : Nat) : Int))]) (g' := g) rfl ?_
          refine wp_ic_ne rfl (fun c4 => ?_) (fun c4 => ?_)
          · refine wp_n 3 (pc' := 4) (L' := [(2, 0), (0, x), (0, ((((cnB X p) : Nat) : Int) + 1)), (0, (((p : Nat) : Int) + 1))]) (st' := []) (g' := g) rfl ?_
            refine wp_eq (ih4 (p + 1) ?_ ?_ ?_) (by first | (rw [cnB, if_pos p14]; rfl) | (rw [cnB, if_neg p14]; rfl)) (by rfl) (by rfl)
            · omega
            · omega
            · first | (rw [cnB, if_pos p14]; omega) | (rw [cnB, if_neg p14]; omega)
          · refine wp_n 1 (pc' := 26) (L' := [(2, 0), (0, x), (0, (((cnB X p) : Nat) : Int)), (0, ((p : Nat) : Int))]) (st' := [(0, ((p : Nat) : Int))]) (g' := g) rfl ?_
            exact wp_ret rfl rfl rfl ⟨p, rfl, by omega, p14, by omega⟩
        · refine wp_eq (L' := [(2, 0), (0, x), (0, (((cnB X p) : Nat) : Int)), (0, ((p : Nat) : Int))]) (st' := [(0, 0)]) (g' := g) ?_
          refine wp_n 3 (pc' := 4) (L' := [(2, 0), (0, x), (0, (((cnB X p) : Nat) : Int)), (0, (((p : Nat) : Int) + 1))]) (st' := []) (g' := g) rfl ?_
          refine wp_eq (ih4 (p + 1) ?_ ?_ ?_) (by first | (rw [cnB, if_pos p14]; rfl) | (rw [cnB, if_neg p14]; rfl)) (by rfl) (by rfl)
          · omega
          · omega
          · first | (rw [cnB, if_pos p14]; omega) | (rw [cnB, if_neg p14]; omega)
  refine wp_eq (L4 (_ + 1) (0) (Nat.lt_succ_self _) ?_ ?_) (by first | rfl | (simp; done) | (simp; omega)) (by rfl) (by rfl)
  · exact Nat.zero_le _
  · exact hx.1
def smX (T : Nat → Int) (X : Nat → Bool) : Nat → Int
  | 0 => 0
  | n + 1 => smX T X n + (if X n = true then T n else 0)
theorem smX_s (T : Nat → Int) (X : Nat → Bool) (n : Nat) : smX T X (n + 1) = smX T X n + (if X n = true then T n else 0) := rfl
theorem smX_eq {T T' : Nat → Int} {X Y : Nat → Bool} {n : Nat} (h : ∀ p, p < n → T p = T' p ∧ X p = Y p) : smX T X n = smX T' Y n := by
  induction n with
  | zero => rfl
  | succ n ih => rw [smX_s, smX_s, ih fun p hp => h p (by omega), (h n (by omega)).1, (h n (by omega)).2]
theorem smX_add {T : Nat → Int} {X Y : Nat → Bool} {i n : Nat} (hi : i < n) (hx : X i = false) (hy : Y i = true) (h : ∀ p, p < n → p ≠ i → X p = Y p) : smX T Y n = smX T X n + T i := by
  induction n with
  | zero => omega
  | succ n ih =>
    rw [smX_s, smX_s]
    by_cases e : i = n
    · subst e
      rw [if_pos hy, if_neg (by rw [hx]; decide), smX_eq (T := T) (T' := T) (X := Y) (Y := X) fun p hp => ⟨rfl, (h p (by omega) (by omega)).symm⟩]
      omega
    · rw [ih (by omega) fun p hp => h p (by omega), h n (by omega) (by omega)]; omega
theorem psm_smX {T : Nat → Int} {P : Nat} : ∀ q, q ≤ P → psm T P q = smX T (pks T P q) P := by
  intro q
  induction q with
  | zero =>
    intro _
    have h0 : ∀ n, smX T (pks T P 0) n = 0 := fun n => by
      induction n with
      | zero => rfl
      | succ n ih => rw [smX_s, ih]; rfl
    exact (h0 P).symm
  | succ q ih =>
    intro hq
    have h2 := (pks_cn (T := T) (P := P) q (by omega)).2 (by omega)
    have hb := bst_in T (pks T P q) P
    rw [psm, ih (by omega), smX_add (X := pks T P q) (Y := pks T P (q + 1)) (i := (bst T (pks T P q) P).toNat) (by omega) (hb.2.2.resolve_left (by omega)) (by rw [pks_s, decide_eq_true (by omega), Bool.or_true]) fun p _ hne => by rw [pks_s, decide_eq_false (by omega), Bool.or_false]]
theorem smX_le {T : Nat → Int} {X : Nat → Bool} {n : Nat} (h : ∀ p, p < n → 0 ≤ T p) : smX T X n ≤ smX T (fun _ => true) n := by
  induction n with
  | zero => exact Int.le_refl _
  | succ n ih =>
    have h1 := ih fun p hp => h p (by omega)
    have h2 := h n (by omega)
    rw [smX_s, smX_s, if_pos rfl]
    split <;> omega
theorem smX_bump {T : Nat → Int} {k n : Nat} : smX (fun p => T p + (if k = p then 1 else 0)) (fun _ => true) n = smX T (fun _ => true) n + (if k < n then 1 else 0) := by
  induction n with
  | zero => rfl
  | succ n ih =>
    rw [smX_s, smX_s, ih, if_pos rfl, if_pos rfl]
    by_cases e : k = n
    · subst e; rw [if_neg (by omega), if_pos rfl, if_pos (by omega)]; omega
    · rw [if_neg e]
      by_cases e2 : k < n
      · rw [if_pos e2, if_pos (by omega)]; omega
      · rw [if_neg e2, if_neg (by omega)]; omega
theorem sm_all {ev tb fl S : Nat → Int} {w : Int} {P n : Nat} (hf : ∀ k, k < n → fl k ≠ -1 → (fl k).toNat < P) : ∀ i, i ≤ n → smX (fun p => fallT ev tb fl S w p i) (fun _ => true) P = (fallN ev tb fl S w i : Int) := by
  intro i
  induction i with
  | zero =>
    intro _
    have h0 : ∀ m, smX (fun p => fallT ev tb fl S w p 0) (fun _ => true) m = 0 := fun m => by
      induction m with
      | zero => rfl
      | succ m ih => rw [smX_s, ih]; rfl
    exact h0 P
  | succ i ih =>
    intro hi
    rw [fallN]
    by_cases h : fl i ≠ -1 ∧ S (3 * ev i + tb i).toNat = w
    · have e : (fun p => fallT ev tb fl S w p (i + 1)) = fun p => fallT ev tb fl S w p i + (if (fl i).toNat = p then 1 else 0) := funext fun p => by
        rw [fallT]
        by_cases q : (fl i).toNat = p
        · rw [if_pos ⟨h.1, h.2, q⟩, if_pos q]
        · rw [if_neg fun k => q k.2.2, if_neg q]
      rw [e, smX_bump, ih (by omega), if_pos h, if_pos (hf i (by omega) h.1)]
      rfl
    · have e : (fun p => fallT ev tb fl S w p (i + 1)) = fun p => fallT ev tb fl S w p i := funext fun p => by
        rw [fallT, if_neg fun k => h ⟨k.1, k.2.1⟩, Int.add_zero]
      rw [e, ih (by omega), if_neg h]
      rfl
theorem fallsum {P n : Nat} {l ev tb fl sc S : Nat → Int} {w : Int} {T : Nat → Int} (H : BkH P n l ev tb fl sc) (hT : ∀ p, p < P → T p = fallT ev tb fl S w p n) (q : Nat) (hq : q ≤ P) : psm T P q ≤ (fallN ev tb fl S w n : Int) := by
  rw [psm_smX q hq, ← sm_all (ev := ev) (tb := tb) (S := S) (w := w) (P := P) (fun k hk h1 => by have := (H.2.2.1 k hk).2.2; omega) n (Nat.le_refl _), ← smX_eq (T := T) (X := fun _ => true) fun p hp => ⟨hT p hp, rfl⟩]
  exact smX_le fun p hp => by rw [hT p hp]; exact (fallT_in n).1
set_option maxHeartbeats 400000 in
set_option maxRecDepth 20000 in
theorem e_nine {sn : Nat} {sx : Nat → Int} {b : Nat} {g : am_G} {P : Nat} {w j x : Int} (h_w : R32 w) (h_j : R32 j) (h_x : R32 x) (hI : CInv P g) : Ev sn sx 10 114 [(2, 0), (0, w), (0, j), (0, x)] (SH b) g (fun r => ∃ g' v, r = (some (0, v), SH b, g') ∧ NiA P g w j x v ∧ CInv P g' ∧ ∀ c k, (c < 56 ∨ 102 < c) → (c < 104 ∨ 119 < c) → c ≠ 126 → (c ≠ 0 ∨ k ≠ 14) → (c ≠ 103 ∨ k = 0) → g' c k = g c k) := by
  have hP := hI.ck.2.1
  have h5 := hI.ck.1
  have hw1 : -2147483648 ≤ w ∧ w < 2147483648 := h_w
  have hj1 : -2147483648 ≤ j ∧ j < 2147483648 := h_j
  have hx1 : -2147483648 ≤ x ∧ x < 2147483648 := h_x
  refine ev_of (K := 9) T114 (by decide) rfl rfl (Nat.le_of_ble_eq_true rfl) ?_
  refine wp_eq (L' := [(2, 0), (0, w), (0, j), (0, x), (9, 0), (9, 0), (9, 0)]) (st' := []) (g' := g) ?_
  refine wp_n 3 (pc' := 3) (L' := [(2, 0), (0, w), (0, j), (0, x), (9, 0), (9, 0), (9, 0)]) (st' := [(0, 1), (0, 0), (0, x)]) (g' := g) rfl ?_
  refine wp_cs (as := [(0, x), (0, 0), (0, 1)]) (rest := []) rfl (by decide) rfl (Nat.le_of_ble_eq_true rfl) (e_within (by omega) (by omega) (by omega)) (by decide) (fun r2 h3 => ?_)
  rcases h3 with ⟨rfl, p1⟩ | ⟨rfl, p1⟩
  · refine wp_eq (L' := [(2, 0), (0, w), (0, j), (0, x), (9, 0), (9, 0), (9, 0)]) (st' := [(0, 1)]) (g' := g) ?_
    refine wp_n 5 (pc' := 31) (L' := [(2, 0), (0, w), (0, j), (0, x), (0, 1), (9, 0), (9, 0)]) (st' := [(0, w)]) (g' := g) rfl ?_
    refine wp_cs (as := [(0, w)]) (rest := []) rfl (by decide) rfl (Nat.le_of_ble_eq_true rfl) (e_isWheel (by omega)) (by decide) (fun r5 h6 => ?_)
    rcases h6 with ⟨rfl, p4⟩ | ⟨rfl, p4⟩
    · refine wp_eq (L' := [(2, 0), (0, w), (0, j), (0, x), (0, 1), (9, 0), (9, 0)]) (st' := [(0, 1)]) (g' := g) ?_
      refine wp_n 3 (pc' := 39) (L' := [(2, 0), (0, w), (0, j), (0, x), (0, 1), (9, 0), (9, 0)]) (st' := [(0, j), (2, 0)]) (g' := g) rfl ?_
      refine wp_cv (as := [(2, 0), (0, j)]) (rest := []) rfl rfl rfl (Nat.le_of_ble_eq_true rfl) rfl (e_isNine (by omega) hP (by omega)) (by decide) (fun r7 h8 => ?_)
      rcases h8 with ⟨rfl, p39⟩ | ⟨rfl, p39⟩
      · refine wp_eq (L' := [(2, 0), (0, w), (0, j), (0, x), (0, 1), (9, 0), (9, 0)]) (st' := [(0, 1)]) (g' := g) ?_
        refine wp_n 8 (pc' := 61) (L' := [(2, 0), (0, w), (0, j), (0, x), (0, 1), (9, 0), (9, 0)]) (st' := [(2, 126), (0, w), (2, 56)]) (g' := g) rfl ?_
        refine wp_cv (as := [(2, 56), (0, w), (2, 126)]) (rest := []) rfl rfl rfl (Nat.le_of_ble_eq_true rfl) rfl (e_countFalls (P := P) (w := w) hI (by assumption)) (by decide) (fun r9 h10 => ?_)
        obtain ⟨g61, N61, rfl, hI61, hF61, hA61⟩ := h10
        obtain ⟨S61, hS61, hNe, hTe⟩ := id hA61
        have hn := hI.rg.r10_6 4 rfl
        have hfN := fallN_le (ev := g 11) (tb := g 12) (fl := g 14) (S := S61) (w := w) (g 10 4).toNat
        have hTb : ∀ p, p < P → 0 ≤ g61 126 p ∧ g61 126 p ≤ 200 := fun p hp => by
          rw [hTe p hp]
          have := fallT_in (ev := g 11) (tb := g 12) (fl := g 14) (S := S61) (w := w) (p := p) (g 10 4).toNat
          omega
        have hP61 := hI61.ck.2.1
        have hs61 := psm_in (P := P) hTb j.toNat (by omega)
        have hcn61 := (pks_cn (T := g61 126) (P := P) j.toNat (by omega)).1
        have hsN : psm (g61 126) P j.toNat ≤ (N61 : Int) := by rw [hNe]; exact fallsum hI.bk hTe j.toNat (by omega)
        refine wp_eq (L' := [(2, 0), (0, w), (0, j), (0, x), (0, 1), (9, 0), (9, 0)]) (st' := [(0, ((N61 : Nat) : Int))]) (g' := g61) ?_
        refine wp_n 3 (pc' := 68) (L' := [(2, 0), (0, w), (0, j), (0, x), (0, 1), (0, ((N61 : Nat) : Int)), (9, 0)]) (st' := [(0, j), (2, 0)]) (g' := g61) rfl ?_
        refine wp_eq (L' := [(2, 0), (0, w), (0, j), (0, x), (0, 1), (0, ((N61 : Nat) : Int)), (9, 0)]) (st' := [(0, ((j.toNat : Nat) : Int)), (2, 0)]) (g' := g61) ?_ (by rfl) (by rw [Int.toNat_of_nonneg (by omega)]) (by rfl)
        refine wp_cv (as := [(2, 0), (0, ((j.toNat : Nat) : Int))]) (rest := []) rfl rfl rfl (Nat.le_of_ble_eq_true rfl) rfl (e_choose (P := P) (j := (j.toNat)) hP61 h5 (by omega) hTb) (by decide) (fun r11 h12 => ?_)
        obtain ⟨g68, rfl, hC68, hF68⟩ := h12
        have hI68 : CInv P g68 := hI61.keepQ fun c k hc => hF68 c k (by unfold Sq at hc; omega)
        have hF68 : ∀ c k, (c < 56 ∨ 102 < c) → (c < 104 ∨ 119 < c) → c ≠ 126 → (c ≠ 0 ∨ k ≠ 14) → (c ≠ 103 ∨ k = 0) → g68 c k = g c k := fun c k q1 q2 q3 q4 q5 => (hF68 c k q4).trans (hF61 c k q1 q3)
        refine wp_eq (L' := [(2, 0), (0, w), (0, j), (0, x), (0, 1), (0, ((N61 : Nat) : Int)), (9, 0)]) (st' := [(0, (psm (g61 126) P (j.toNat)))]) (g' := g68) ?_
        refine wp_n 2 (pc' := 74) (L' := [(2, 0), (0, w), (0, j), (0, x), (0, 1), (0, ((N61 : Nat) : Int)), (0, (psm (g61 126) P (j.toNat)))]) (st' := [(0, x)]) (g' := g68) rfl ?_
        refine wp_if_ne rfl (fun c13 => ?_) (fun c13 => ?_)
        · refine wp_n 2 (pc' := 83) (L' := [(2, 0), (0, w), (0, j), (0, x), (0, 1), (0, ((N61 : Nat) : Int)), (0, (psm (g61 126) P (j.toNat)))]) (st' := [(0, 10), (0, x)]) (g' := g68) rfl ?_
          refine wp_ic_lt rfl (fun c14 => ?_) (fun c14 => ?_)
          · refine wp_n 3 (pc' := 100) (L' := [(2, 0), (0, w), (0, j), (0, x), (0, 1), (0, ((N61 : Nat) : Int)), (0, (psm (g61 126) P (j.toNat)))]) (st' := [(0, 60), (0, 1), (0, ((N61 : Nat) : Int))]) (g' := g68) rfl ?_
            refine wp_cs (as := [(0, ((N61 : Nat) : Int)), (0, 1), (0, 60)]) (rest := []) rfl (by decide) rfl (Nat.le_of_ble_eq_true rfl) (e_within (by omega) (by omega) (by omega)) (by decide) (fun r16 h17 => ?_)
            rcases h17 with ⟨rfl, p15⟩ | ⟨rfl, p15⟩
            · refine wp_eq (L' := [(2, 0), (0, w), (0, j), (0, x), (0, 1), (0, ((N61 : Nat) : Int)), (0, (psm (g61 126) P (j.toNat)))]) (st' := [(0, 1)]) (g' := g68) ?_
              refine wp_n 5 (pc' := 114) (L' := [(2, 0), (0, w), (0, j), (0, x), (0, 1), (0, ((N61 : Nat) : Int)), (0, (psm (g61 126) P (j.toNat)))]) (st' := [(0, (psm (g61 126) P (j.toNat))), (0, ((N61 : Nat) : Int)), (2, 103)]) (g' := g68) rfl ?_
              refine wp_eq (L' := [(2, 0), (0, w), (0, j), (0, x), (0, 1), (0, ((N61 : Nat) : Int)), (0, (psm (g61 126) P (j.toNat)))]) (st' := [(0, (((psm (g61 126) P j.toNat).toNat : Nat) : Int)), (0, ((N61 : Nat) : Int)), (2, 103)]) (g' := g68) ?_ (by rfl) (by rw [Int.toNat_of_nonneg (by omega)]) (by rfl)
              refine wp_n 4 (pc' := 120) (L' := [(2, 0), (0, w), (0, j), (0, x), (0, 1), (0, ((N61 : Nat) : Int)), (0, (psm (g61 126) P (j.toNat)))]) (st' := [(0, j), (2, 103), (0, j), (0, (((psm (g61 126) P j.toNat).toNat : Nat) : Int)), (0, ((N61 : Nat) : Int)), (2, 103)]) (g' := g68) rfl ?_
              refine wp_eq (L' := [(2, 0), (0, w), (0, j), (0, x), (0, 1), (0, ((N61 : Nat) : Int)), (0, (psm (g61 126) P (j.toNat)))]) (st' := [(0, ((j.toNat : Nat) : Int)), (2, 103), (0, j), (0, (((psm (g61 126) P j.toNat).toNat : Nat) : Int)), (0, ((N61 : Nat) : Int)), (2, 103)]) (g' := g68) ?_ (by rfl) (by rw [Int.toNat_of_nonneg (by omega)]) (by rfl)
              refine wp_cv (as := [(2, 103), (0, ((j.toNat : Nat) : Int))]) (rest := [(0, j), (0, (((psm (g61 126) P j.toNat).toNat : Nat) : Int)), (0, ((N61 : Nat) : Int)), (2, 103)]) rfl rfl rfl (Nat.le_of_ble_eq_true rfl) rfl (e_sets (j := (j.toNat)) hI68.ck.2.2.2.2.2.2 (by omega) (by omega)) (by decide) (fun r18 h19 => ?_)
              obtain rfl := h19
              refine wp_eq (L' := [(2, 0), (0, w), (0, j), (0, x), (0, 1), (0, ((N61 : Nat) : Int)), (0, (psm (g61 126) P (j.toNat)))]) (st' := [(0, (cb P (j.toNat))), (0, j), (0, (((psm (g61 126) P j.toNat).toNat : Nat) : Int)), (0, ((N61 : Nat) : Int)), (2, 103)]) (g' := g68) ?_
              refine wp_cv (as := [(2, 103), (0, ((N61 : Nat) : Int)), (0, (((psm (g61 126) P j.toNat).toNat : Nat) : Int)), (0, j), (0, (cb P (j.toNat)))]) (rest := []) rfl rfl rfl (Nat.le_of_ble_eq_true rfl) rfl (e_even (n := N61) (k := (psm (g61 126) P j.toNat).toNat) hI68.ck.2.2.2.2.2.2 (by omega) (by omega) (by omega) (by omega) (by have := cb_set (P := P) (j := j.toNat) (by omega) (by omega); omega) hI68.cls) (by decide) (fun r20 h21 => ?_)
              obtain ⟨g123, q123, rfl, hS123, hL123, hF123⟩ := h21
              have hSh : IsShare (tl j ((P : Int) - j) (N61 : Int).toNat (psm (g61 126) P j.toNat).toNat * cb P j.toNat) 1000000 ((P : Int) ^ (N61 : Int).toNat) q123 := by rw [Int.toNat_natCast]; exact hS123
              refine wp_eq (L' := [(2, 0), (0, w), (0, j), (0, x), (0, 1), (0, ((N61 : Nat) : Int)), (0, (psm (g61 126) P (j.toNat)))]) (st' := [(0, q123)]) (g' := g123) ?_
              refine wp_n 1 (pc' := 130) (L' := [(2, 0), (0, w), (0, j), (0, x), (0, 1), (0, ((N61 : Nat) : Int)), (0, (psm (g61 126) P (j.toNat)))]) (st' := [(0, q123)]) (g' := g123) rfl ?_
              exact wp_ret rfl rfl rfl ⟨_, _, rfl, Or.inl ⟨by unfold NiD; omega, _, _, hA61, Or.inr (Or.inl ⟨by omega, Or.inl ⟨by unfold AmD; omega, hSh⟩⟩)⟩, hI68.keepK hF123.k hL123, fun c j q1 q2 q3 q4 q5 => (hF123 c j (by omega)).trans (hF68 c j q1 q2 q3 q4 q5)⟩
            · refine wp_eq (L' := [(2, 0), (0, w), (0, j), (0, x), (0, 1), (0, ((N61 : Nat) : Int)), (0, (psm (g61 126) P (j.toNat)))]) (st' := [(0, 0)]) (g' := g68) ?_
              refine wp_n 2 (pc' := 130) (L' := [(2, 0), (0, w), (0, j), (0, x), (0, 1), (0, ((N61 : Nat) : Int)), (0, (psm (g61 126) P (j.toNat)))]) (st' := [(0, (-1))]) (g' := g68) rfl ?_
              exact wp_ret rfl rfl rfl ⟨_, _, rfl, Or.inl ⟨by unfold NiD; omega, _, _, hA61, Or.inr (Or.inl ⟨by omega, Or.inr ⟨by unfold AmD; omega, rfl⟩⟩)⟩, hI68, hF68⟩
          · refine wp_n 4 (pc' := 91) (L' := [(2, 0), (0, w), (0, j), (0, x), (0, 1), (0, ((N61 : Nat) : Int)), (0, (psm (g61 126) P (j.toNat)))]) (st' := [(0, (x - 10)), (2, 0)]) (g' := g68) rfl ?_
            refine wp_cv (as := [(2, 0), (0, (x - 10))]) (rest := []) rfl rfl rfl (Nat.le_of_ble_eq_true rfl) rfl (e_chosenAt (P := P) (x := (x - 10)) hI68.ck.2.1 h5 hC68 (by rw [hcn61]; omega)) (by decide) (fun r22 h23 => ?_)
            obtain ⟨p91, rfl, hp91, hq91, hn91⟩ := h23
            refine wp_eq (L' := [(2, 0), (0, w), (0, j), (0, x), (0, 1), (0, ((N61 : Nat) : Int)), (0, (psm (g61 126) P (j.toNat)))]) (st' := [(0, ((p91 : Nat) : Int))]) (g' := g68) ?_
            exact wp_ret rfl rfl rfl ⟨_, _, rfl, Or.inl ⟨by unfold NiD; omega, _, _, hA61, Or.inr (Or.inr ⟨by omega, _, rfl, hp91, hq91, hn91⟩)⟩, hI68, hF68⟩
        · refine wp_n 1 (pc' := 79) (L' := [(2, 0), (0, w), (0, j), (0, x), (0, 1), (0, ((N61 : Nat) : Int)), (0, (psm (g61 126) P (j.toNat)))]) (st' := [(0, (psm (g61 126) P (j.toNat)))]) (g' := g68) rfl ?_
          exact wp_ret rfl rfl rfl ⟨_, _, rfl, Or.inl ⟨by unfold NiD; omega, _, _, hA61, Or.inl ⟨by omega, rfl⟩⟩, hI68, hF68⟩
      · refine wp_eq (L' := [(2, 0), (0, w), (0, j), (0, x), (0, 1), (9, 0), (9, 0)]) (st' := [(0, 0)]) (g' := g) ?_
        refine wp_n 2 (pc' := 51) (L' := [(2, 0), (0, w), (0, j), (0, x), (0, 1), (9, 0), (9, 0)]) (st' := [(0, (-1))]) (g' := g) rfl ?_
        exact wp_ret rfl rfl rfl ⟨_, _, rfl, Or.inr ⟨by unfold NiD; omega, rfl⟩, hI, fun _ _ _ _ _ _ _ => rfl⟩
    · refine wp_eq (L' := [(2, 0), (0, w), (0, j), (0, x), (0, 1), (9, 0), (9, 0)]) (st' := [(0, 0)]) (g' := g) ?_
      refine wp_n 2 (pc' := 51) (L' := [(2, 0), (0, w), (0, j), (0, x), (0, 1), (9, 0), (9, 0)]) (st' := [(0, (-1))]) (g' := g) rfl ?_
      exact wp_ret rfl rfl rfl ⟨_, _, rfl, Or.inr ⟨by unfold NiD; omega, rfl⟩, hI, fun _ _ _ _ _ _ _ => rfl⟩
  · refine wp_eq (L' := [(2, 0), (0, w), (0, j), (0, x), (9, 0), (9, 0), (9, 0)]) (st' := [(0, 0)]) (g' := g) ?_
    refine wp_n 3 (pc' := 12) (L' := [(2, 0), (0, w), (0, j), (0, x), (9, 0), (9, 0), (9, 0)]) (st' := [(0, 10), (0, x)]) (g' := g) rfl ?_
    refine wp_ic_lt rfl (fun c24 => ?_) (fun c24 => ?_)
    · refine wp_n 3 (pc' := 31) (L' := [(2, 0), (0, w), (0, j), (0, x), (0, 0), (9, 0), (9, 0)]) (st' := [(0, w)]) (g' := g) rfl ?_
      refine wp_cs (as := [(0, w)]) (rest := []) rfl (by decide) rfl (Nat.le_of_ble_eq_true rfl) (e_isWheel (by omega)) (by decide) (fun r26 h27 => ?_)
      rcases h27 with ⟨rfl, p25⟩ | ⟨rfl, p25⟩
      · refine wp_eq (L' := [(2, 0), (0, w), (0, j), (0, x), (0, 0), (9, 0), (9, 0)]) (st' := [(0, 1)]) (g' := g) ?_
        refine wp_n 3 (pc' := 39) (L' := [(2, 0), (0, w), (0, j), (0, x), (0, 0), (9, 0), (9, 0)]) (st' := [(0, j), (2, 0)]) (g' := g) rfl ?_
        refine wp_cv (as := [(2, 0), (0, j)]) (rest := []) rfl rfl rfl (Nat.le_of_ble_eq_true rfl) rfl (e_isNine (by omega) hP (by omega)) (by decide) (fun r28 h29 => ?_)
        rcases h29 with ⟨rfl, p39⟩ | ⟨rfl, p39⟩
        · refine wp_eq (L' := [(2, 0), (0, w), (0, j), (0, x), (0, 0), (9, 0), (9, 0)]) (st' := [(0, 1)]) (g' := g) ?_
          refine wp_n 4 (pc' := 51) (L' := [(2, 0), (0, w), (0, j), (0, x), (0, 0), (9, 0), (9, 0)]) (st' := [(0, (-1))]) (g' := g) rfl ?_
          exact wp_ret rfl rfl rfl ⟨_, _, rfl, Or.inr ⟨by unfold NiD; omega, rfl⟩, hI, fun _ _ _ _ _ _ _ => rfl⟩
        · refine wp_eq (L' := [(2, 0), (0, w), (0, j), (0, x), (0, 0), (9, 0), (9, 0)]) (st' := [(0, 0)]) (g' := g) ?_
          refine wp_n 2 (pc' := 51) (L' := [(2, 0), (0, w), (0, j), (0, x), (0, 0), (9, 0), (9, 0)]) (st' := [(0, (-1))]) (g' := g) rfl ?_
          exact wp_ret rfl rfl rfl ⟨_, _, rfl, Or.inr ⟨by unfold NiD; omega, rfl⟩, hI, fun _ _ _ _ _ _ _ => rfl⟩
      · refine wp_eq (L' := [(2, 0), (0, w), (0, j), (0, x), (0, 0), (9, 0), (9, 0)]) (st' := [(0, 0)]) (g' := g) ?_
        refine wp_n 2 (pc' := 51) (L' := [(2, 0), (0, w), (0, j), (0, x), (0, 0), (9, 0), (9, 0)]) (st' := [(0, (-1))]) (g' := g) rfl ?_
        exact wp_ret rfl rfl rfl ⟨_, _, rfl, Or.inr ⟨by unfold NiD; omega, rfl⟩, hI, fun _ _ _ _ _ _ _ => rfl⟩
    · refine wp_n 4 (pc' := 20) (L' := [(2, 0), (0, w), (0, j), (0, x), (9, 0), (9, 0), (9, 0)]) (st' := [(0, j), (0, (x - 10))]) (g' := g) rfl ?_
      refine wp_ic_ge rfl (fun c30 => ?_) (fun c30 => ?_)
      · refine wp_n 3 (pc' := 31) (L' := [(2, 0), (0, w), (0, j), (0, x), (0, 0), (9, 0), (9, 0)]) (st' := [(0, w)]) (g' := g) rfl ?_
        refine wp_cs (as := [(0, w)]) (rest := []) rfl (by decide) rfl (Nat.le_of_ble_eq_true rfl) (e_isWheel (by omega)) (by decide) (fun r32 h33 => ?_)
        rcases h33 with ⟨rfl, p31⟩ | ⟨rfl, p31⟩
        · refine wp_eq (L' := [(2, 0), (0, w), (0, j), (0, x), (0, 0), (9, 0), (9, 0)]) (st' := [(0, 1)]) (g' := g) ?_
          refine wp_n 3 (pc' := 39) (L' := [(2, 0), (0, w), (0, j), (0, x), (0, 0), (9, 0), (9, 0)]) (st' := [(0, j), (2, 0)]) (g' := g) rfl ?_
          refine wp_cv (as := [(2, 0), (0, j)]) (rest := []) rfl rfl rfl (Nat.le_of_ble_eq_true rfl) rfl (e_isNine (by omega) hP (by omega)) (by decide) (fun r34 h35 => ?_)
          rcases h35 with ⟨rfl, p39⟩ | ⟨rfl, p39⟩
          · refine wp_eq (L' := [(2, 0), (0, w), (0, j), (0, x), (0, 0), (9, 0), (9, 0)]) (st' := [(0, 1)]) (g' := g) ?_
            refine wp_n 4 (pc' := 51) (L' := [(2, 0), (0, w), (0, j), (0, x), (0, 0), (9, 0), (9, 0)]) (st' := [(0, (-1))]) (g' := g) rfl ?_
            exact wp_ret rfl rfl rfl ⟨_, _, rfl, Or.inr ⟨by unfold NiD; omega, rfl⟩, hI, fun _ _ _ _ _ _ _ => rfl⟩
          · refine wp_eq (L' := [(2, 0), (0, w), (0, j), (0, x), (0, 0), (9, 0), (9, 0)]) (st' := [(0, 0)]) (g' := g) ?_
            refine wp_n 2 (pc' := 51) (L' := [(2, 0), (0, w), (0, j), (0, x), (0, 0), (9, 0), (9, 0)]) (st' := [(0, (-1))]) (g' := g) rfl ?_
            exact wp_ret rfl rfl rfl ⟨_, _, rfl, Or.inr ⟨by unfold NiD; omega, rfl⟩, hI, fun _ _ _ _ _ _ _ => rfl⟩
        · refine wp_eq (L' := [(2, 0), (0, w), (0, j), (0, x), (0, 0), (9, 0), (9, 0)]) (st' := [(0, 0)]) (g' := g) ?_
          refine wp_n 2 (pc' := 51) (L' := [(2, 0), (0, w), (0, j), (0, x), (0, 0), (9, 0), (9, 0)]) (st' := [(0, (-1))]) (g' := g) rfl ?_
          exact wp_ret rfl rfl rfl ⟨_, _, rfl, Or.inr ⟨by unfold NiD; omega, rfl⟩, hI, fun _ _ _ _ _ _ _ => rfl⟩
      · refine wp_n 4 (pc' := 31) (L' := [(2, 0), (0, w), (0, j), (0, x), (0, 1), (9, 0), (9, 0)]) (st' := [(0, w)]) (g' := g) rfl ?_
        refine wp_cs (as := [(0, w)]) (rest := []) rfl (by decide) rfl (Nat.le_of_ble_eq_true rfl) (e_isWheel (by omega)) (by decide) (fun r37 h38 => ?_)
        rcases h38 with ⟨rfl, p36⟩ | ⟨rfl, p36⟩
        · refine wp_eq (L' := [(2, 0), (0, w), (0, j), (0, x), (0, 1), (9, 0), (9, 0)]) (st' := [(0, 1)]) (g' := g) ?_
          refine wp_n 3 (pc' := 39) (L' := [(2, 0), (0, w), (0, j), (0, x), (0, 1), (9, 0), (9, 0)]) (st' := [(0, j), (2, 0)]) (g' := g) rfl ?_
          refine wp_cv (as := [(2, 0), (0, j)]) (rest := []) rfl rfl rfl (Nat.le_of_ble_eq_true rfl) rfl (e_isNine (by omega) hP (by omega)) (by decide) (fun r39 h40 => ?_)
          rcases h40 with ⟨rfl, p39⟩ | ⟨rfl, p39⟩
          · refine wp_eq (L' := [(2, 0), (0, w), (0, j), (0, x), (0, 1), (9, 0), (9, 0)]) (st' := [(0, 1)]) (g' := g) ?_
            refine wp_n 8 (pc' := 61) (L' := [(2, 0), (0, w), (0, j), (0, x), (0, 1), (9, 0), (9, 0)]) (st' := [(2, 126), (0, w), (2, 56)]) (g' := g) rfl ?_
            refine wp_cv (as := [(2, 56), (0, w), (2, 126)]) (rest := []) rfl rfl rfl (Nat.le_of_ble_eq_true rfl) rfl (e_countFalls (P := P) (w := w) hI (by assumption)) (by decide) (fun r41 h42 => ?_)
            obtain ⟨g61, N61, rfl, hI61, hF61, hA61⟩ := h42
            obtain ⟨S61, hS61, hNe, hTe⟩ := id hA61
            have hn := hI.rg.r10_6 4 rfl
            have hfN := fallN_le (ev := g 11) (tb := g 12) (fl := g 14) (S := S61) (w := w) (g 10 4).toNat
            have hTb : ∀ p, p < P → 0 ≤ g61 126 p ∧ g61 126 p ≤ 200 := fun p hp => by
              rw [hTe p hp]
              have := fallT_in (ev := g 11) (tb := g 12) (fl := g 14) (S := S61) (w := w) (p := p) (g 10 4).toNat
              omega
            have hP61 := hI61.ck.2.1
            have hs61 := psm_in (P := P) hTb j.toNat (by omega)
            have hcn61 := (pks_cn (T := g61 126) (P := P) j.toNat (by omega)).1
            have hsN : psm (g61 126) P j.toNat ≤ (N61 : Int) := by rw [hNe]; exact fallsum hI.bk hTe j.toNat (by omega)
            refine wp_eq (L' := [(2, 0), (0, w), (0, j), (0, x), (0, 1), (9, 0), (9, 0)]) (st' := [(0, ((N61 : Nat) : Int))]) (g' := g61) ?_
            refine wp_n 3 (pc' := 68) (L' := [(2, 0), (0, w), (0, j), (0, x), (0, 1), (0, ((N61 : Nat) : Int)), (9, 0)]) (st' := [(0, j), (2, 0)]) (g' := g61) rfl ?_
            refine wp_eq (L' := [(2, 0), (0, w), (0, j), (0, x), (0, 1), (0, ((N61 : Nat) : Int)), (9, 0)]) (st' := [(0, ((j.toNat : Nat) : Int)), (2, 0)]) (g' := g61) ?_ (by rfl) (by rw [Int.toNat_of_nonneg (by omega)]) (by rfl)
            refine wp_cv (as := [(2, 0), (0, ((j.toNat : Nat) : Int))]) (rest := []) rfl rfl rfl (Nat.le_of_ble_eq_true rfl) rfl (e_choose (P := P) (j := (j.toNat)) hP61 h5 (by omega) hTb) (by decide) (fun r43 h44 => ?_)
            obtain ⟨g68, rfl, hC68, hF68⟩ := h44
            have hI68 : CInv P g68 := hI61.keepQ fun c k hc => hF68 c k (by unfold Sq at hc; omega)
            have hF68 : ∀ c k, (c < 56 ∨ 102 < c) → (c < 104 ∨ 119 < c) → c ≠ 126 → (c ≠ 0 ∨ k ≠ 14) → (c ≠ 103 ∨ k = 0) → g68 c k = g c k := fun c k q1 q2 q3 q4 q5 => (hF68 c k q4).trans (hF61 c k q1 q3)
            refine wp_eq (L' := [(2, 0), (0, w), (0, j), (0, x), (0, 1), (0, ((N61 : Nat) : Int)), (9, 0)]) (st' := [(0, (psm (g61 126) P (j.toNat)))]) (g' := g68) ?_
            refine wp_n 2 (pc' := 74) (L' := [(2, 0), (0, w), (0, j), (0, x), (0, 1), (0, ((N61 : Nat) : Int)), (0, (psm (g61 126) P (j.toNat)))]) (st' := [(0, x)]) (g' := g68) rfl ?_
            refine wp_if_ne rfl (fun c45 => ?_) (fun c45 => ?_)
            · refine wp_n 2 (pc' := 83) (L' := [(2, 0), (0, w), (0, j), (0, x), (0, 1), (0, ((N61 : Nat) : Int)), (0, (psm (g61 126) P (j.toNat)))]) (st' := [(0, 10), (0, x)]) (g' := g68) rfl ?_
              refine wp_ic_lt rfl (fun c46 => ?_) (fun c46 => ?_)
              · refine wp_n 3 (pc' := 100) (L' := [(2, 0), (0, w), (0, j), (0, x), (0, 1), (0, ((N61 : Nat) : Int)), (0, (psm (g61 126) P (j.toNat)))]) (st' := [(0, 60), (0, 1), (0, ((N61 : Nat) : Int))]) (g' := g68) rfl ?_
                refine wp_cs (as := [(0, ((N61 : Nat) : Int)), (0, 1), (0, 60)]) (rest := []) rfl (by decide) rfl (Nat.le_of_ble_eq_true rfl) (e_within (by omega) (by omega) (by omega)) (by decide) (fun r48 h49 => ?_)
                rcases h49 with ⟨rfl, p47⟩ | ⟨rfl, p47⟩
                · refine wp_eq (L' := [(2, 0), (0, w), (0, j), (0, x), (0, 1), (0, ((N61 : Nat) : Int)), (0, (psm (g61 126) P (j.toNat)))]) (st' := [(0, 1)]) (g' := g68) ?_
                  refine wp_n 5 (pc' := 114) (L' := [(2, 0), (0, w), (0, j), (0, x), (0, 1), (0, ((N61 : Nat) : Int)), (0, (psm (g61 126) P (j.toNat)))]) (st' := [(0, (psm (g61 126) P (j.toNat))), (0, ((N61 : Nat) : Int)), (2, 103)]) (g' := g68) rfl ?_
                  refine wp_eq (L' := [(2, 0), (0, w), (0, j), (0, x), (0, 1), (0, ((N61 : Nat) : Int)), (0, (psm (g61 126) P (j.toNat)))]) (st' := [(0, (((psm (g61 126) P j.toNat).toNat : Nat) : Int)), (0, ((N61 : Nat) : Int)), (2, 103)]) (g' := g68) ?_ (by rfl) (by rw [Int.toNat_of_nonneg (by omega)]) (by rfl)
                  refine wp_n 4 (pc' := 120) (L' := [(2, 0), (0, w), (0, j), (0, x), (0, 1), (0, ((N61 : Nat) : Int)), (0, (psm (g61 126) P (j.toNat)))]) (st' := [(0, j), (2, 103), (0, j), (0, (((psm (g61 126) P j.toNat).toNat : Nat) : Int)), (0, ((N61 : Nat) : Int)), (2, 103)]) (g' := g68) rfl ?_
                  refine wp_eq (L' := [(2, 0), (0, w), (0, j), (0, x), (0, 1), (0, ((N61 : Nat) : Int)), (0, (psm (g61 126) P (j.toNat)))]) (st' := [(0, ((j.toNat : Nat) : Int)), (2, 103), (0, j), (0, (((psm (g61 126) P j.toNat).toNat : Nat) : Int)), (0, ((N61 : Nat) : Int)), (2, 103)]) (g' := g68) ?_ (by rfl) (by rw [Int.toNat_of_nonneg (by omega)]) (by rfl)
                  refine wp_cv (as := [(2, 103), (0, ((j.toNat : Nat) : Int))]) (rest := [(0, j), (0, (((psm (g61 126) P j.toNat).toNat : Nat) : Int)), (0, ((N61 : Nat) : Int)), (2, 103)]) rfl rfl rfl (Nat.le_of_ble_eq_true rfl) rfl (e_sets (j := (j.toNat)) hI68.ck.2.2.2.2.2.2 (by omega) (by omega)) (by decide) (fun r50 h51 => ?_)
                  obtain rfl := h51
                  refine wp_eq (L' := [(2, 0), (0, w), (0, j), (0, x), (0, 1), (0, ((N61 : Nat) : Int)), (0, (psm (g61 126) P (j.toNat)))]) (st' := [(0, (cb P (j.toNat))), (0, j), (0, (((psm (g61 126) P j.toNat).toNat : Nat) : Int)), (0, ((N61 : Nat) : Int)), (2, 103)]) (g' := g68) ?_
                  refine wp_cv (as := [(2, 103), (0, ((N61 : Nat) : Int)), (0, (((psm (g61 126) P j.toNat).toNat : Nat) : Int)), (0, j), (0, (cb P (j.toNat)))]) (rest := []) rfl rfl rfl (Nat.le_of_ble_eq_true rfl) rfl (e_even (n := N61) (k := (psm (g61 126) P j.toNat).toNat) hI68.ck.2.2.2.2.2.2 (by omega) (by omega) (by omega) (by omega) (by have := cb_set (P := P) (j := j.toNat) (by omega) (by omega); omega) hI68.cls) (by decide) (fun r52 h53 => ?_)
                  obtain ⟨g123, q123, rfl, hS123, hL123, hF123⟩ := h53
                  have hSh : IsShare (tl j ((P : Int) - j) (N61 : Int).toNat (psm (g61 126) P j.toNat).toNat * cb P j.toNat) 1000000 ((P : Int) ^ (N61 : Int).toNat) q123 := by rw [Int.toNat_natCast]; exact hS123
                  refine wp_eq (L' := [(2, 0), (0, w), (0, j), (0, x), (0, 1), (0, ((N61 : Nat) : Int)), (0, (psm (g61 126) P (j.toNat)))]) (st' := [(0, q123)]) (g' := g123) ?_
                  refine wp_n 1 (pc' := 130) (L' := [(2, 0), (0, w), (0, j), (0, x), (0, 1), (0, ((N61 : Nat) : Int)), (0, (psm (g61 126) P (j.toNat)))]) (st' := [(0, q123)]) (g' := g123) rfl ?_
                  exact wp_ret rfl rfl rfl ⟨_, _, rfl, Or.inl ⟨by unfold NiD; omega, _, _, hA61, Or.inr (Or.inl ⟨by omega, Or.inl ⟨by unfold AmD; omega, hSh⟩⟩)⟩, hI68.keepK hF123.k hL123, fun c j q1 q2 q3 q4 q5 => (hF123 c j (by omega)).trans (hF68 c j q1 q2 q3 q4 q5)⟩
                · refine wp_eq (L' := [(2, 0), (0, w), (0, j), (0, x), (0, 1), (0, ((N61 : Nat) : Int)), (0, (psm (g61 126) P (j.toNat)))]) (st' := [(0, 0)]) (g' := g68) ?_
                  refine wp_n 2 (pc' := 130) (L' := [(2, 0), (0, w), (0, j), (0, x), (0, 1), (0, ((N61 : Nat) : Int)), (0, (psm (g61 126) P (j.toNat)))]) (st' := [(0, (-1))]) (g' := g68) rfl ?_
                  exact wp_ret rfl rfl rfl ⟨_, _, rfl, Or.inl ⟨by unfold NiD; omega, _, _, hA61, Or.inr (Or.inl ⟨by omega, Or.inr ⟨by unfold AmD; omega, rfl⟩⟩)⟩, hI68, hF68⟩
              · refine wp_n 4 (pc' := 91) (L' := [(2, 0), (0, w), (0, j), (0, x), (0, 1), (0, ((N61 : Nat) : Int)), (0, (psm (g61 126) P (j.toNat)))]) (st' := [(0, (x - 10)), (2, 0)]) (g' := g68) rfl ?_
                refine wp_cv (as := [(2, 0), (0, (x - 10))]) (rest := []) rfl rfl rfl (Nat.le_of_ble_eq_true rfl) rfl (e_chosenAt (P := P) (x := (x - 10)) hI68.ck.2.1 h5 hC68 (by rw [hcn61]; omega)) (by decide) (fun r54 h55 => ?_)
                obtain ⟨p91, rfl, hp91, hq91, hn91⟩ := h55
                refine wp_eq (L' := [(2, 0), (0, w), (0, j), (0, x), (0, 1), (0, ((N61 : Nat) : Int)), (0, (psm (g61 126) P (j.toNat)))]) (st' := [(0, ((p91 : Nat) : Int))]) (g' := g68) ?_
                exact wp_ret rfl rfl rfl ⟨_, _, rfl, Or.inl ⟨by unfold NiD; omega, _, _, hA61, Or.inr (Or.inr ⟨by omega, _, rfl, hp91, hq91, hn91⟩)⟩, hI68, hF68⟩
            · refine wp_n 1 (pc' := 79) (L' := [(2, 0), (0, w), (0, j), (0, x), (0, 1), (0, ((N61 : Nat) : Int)), (0, (psm (g61 126) P (j.toNat)))]) (st' := [(0, (psm (g61 126) P (j.toNat)))]) (g' := g68) rfl ?_
              exact wp_ret rfl rfl rfl ⟨_, _, rfl, Or.inl ⟨by unfold NiD; omega, _, _, hA61, Or.inl ⟨by omega, rfl⟩⟩, hI68, hF68⟩
          · refine wp_eq (L' := [(2, 0), (0, w), (0, j), (0, x), (0, 1), (9, 0), (9, 0)]) (st' := [(0, 0)]) (g' := g) ?_
            refine wp_n 2 (pc' := 51) (L' := [(2, 0), (0, w), (0, j), (0, x), (0, 1), (9, 0), (9, 0)]) (st' := [(0, (-1))]) (g' := g) rfl ?_
            exact wp_ret rfl rfl rfl ⟨_, _, rfl, Or.inr ⟨by unfold NiD; omega, rfl⟩, hI, fun _ _ _ _ _ _ _ => rfl⟩
        · refine wp_eq (L' := [(2, 0), (0, w), (0, j), (0, x), (0, 1), (9, 0), (9, 0)]) (st' := [(0, 0)]) (g' := g) ?_
          refine wp_n 2 (pc' := 51) (L' := [(2, 0), (0, w), (0, j), (0, x), (0, 1), (9, 0), (9, 0)]) (st' := [(0, (-1))]) (g' := g) rfl ?_
          exact wp_ret rfl rfl rfl ⟨_, _, rfl, Or.inr ⟨by unfold NiD; omega, rfl⟩, hI, fun _ _ _ _ _ _ _ => rfl⟩
theorem C_nine {sn : Nat} {sx : Nat → Int} {b : Nat} {g : am_G} {P : Nat} {w j x : Int} (h_w : R32 w) (h_j : R32 j) (h_x : R32 x) (hI : CInv P g) : Ev sn sx 10 114 [(2, 0), (0, w), (0, j), (0, x)] (SH b) g (CPost P g (fun c1 v1 => NiA P g w j x v1 ∧ CoE g c1)) := (e_nine h_w h_j h_x hI).mono fun r hh => by
  obtain ⟨g', v, h1, h2, h3, h4⟩ := hh
  exact ⟨g', v, b, h1, h3, fun c k hc => h4 c k (by omega) (by omega) (by omega) (by omega) (by omega), h2, fun c k hc => by
    unfold Co at hc
    exact h4 c k (by omega) (by omega) (by omega) (by omega) (by omega)⟩
