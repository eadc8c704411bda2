/-! LUCK -/
def luS (F : Nat → Int) (D : Nat) : Nat → Int
  | 0 => 0
  | i + 1 => luS F D i + cb D i * F i
theorem luS_s (F : Nat → Int) (D i : Nat) : luS F D (i + 1) = luS F D i + cb D i * F i := rfl
def lpc (s : Nat) : Nat → Nat
  | 0 => 0
  | k + 1 => lpc s k + s / 2 ^ k % 2
theorem lpc_s (s k : Nat) : lpc s (k + 1) = lpc s k + s / 2 ^ k % 2 := rfl
theorem lpc_le (s k : Nat) : lpc s k ≤ k := by
  induction k with
  | zero => exact Nat.le_refl _
  | succ k ih =>
    have := Nat.mod_lt (s / 2 ^ k) (show 2 > 0 by decide)
    rw [lpc_s]
    omega
def lpr (W L : Int) (s : Nat) : Nat → Int
  | 0 => 1
  | k + 1 => lpr W L s k * (if s / 2 ^ k % 2 = 1 then W else L)
theorem lpr_s (W L : Int) (s k : Nat) : lpr W L s (k + 1) = lpr W L s k * (if s / 2 ^ k % 2 = 1 then W else L) := rfl
theorem lpr_p (W L : Int) (s k : Nat) : lpr W L s k = W ^ (lpc s k) * L ^ (k - lpc s k) := by
  induction k with
  | zero => show (1 : Int) = W ^ 0 * L ^ 0; rw [Int.pow_zero, Int.pow_zero]; rfl
  | succ k ih =>
    have h0 := lpc_le s k
    have h1 := Nat.mod_lt (s / 2 ^ k) (show 2 > 0 by decide)
    rw [lpr_s, lpc_s, ih]
    by_cases q : s / 2 ^ k % 2 = 1
    · rw [if_pos q, q, show k + 1 - (lpc s k + 1) = k - lpc s k by omega, Int.pow_succ]
      generalize W ^ lpc s k = A
      generalize L ^ (k - lpc s k) = B
      grind
    · rw [if_neg q, show s / 2 ^ k % 2 = 0 by omega, Nat.add_zero, show k + 1 - lpc s k = (k - lpc s k) + 1 by omega, Int.pow_succ, Int.mul_assoc]
theorem lpr_in {W L H : Int} (hW : 0 ≤ W ∧ W ≤ H) (hL : 0 ≤ L ∧ L ≤ H) (h1 : 1 ≤ H) (s k : Nat) : 0 ≤ lpr W L s k ∧ lpr W L s k ≤ H ^ k := by
  induction k with
  | zero => exact ⟨by show (0 : Int) ≤ 1; decide, by rw [Int.pow_zero]; exact Int.le_refl _⟩
  | succ k ih =>
    rw [lpr_s, Int.pow_succ]
    split
    · exact ⟨Int.mul_nonneg ih.1 hW.1, Int.mul_le_mul ih.2 hW.2 hW.1 (Int.pow_nonneg (by omega))⟩
    · exact ⟨Int.mul_nonneg ih.1 hL.1, Int.mul_le_mul ih.2 hL.2 hL.1 (Int.pow_nonneg (by omega))⟩
def lrS (F : Nat → Int) (D : Nat) : Nat → Int
  | 0 => 0
  | s + 1 => lrS F D s + F (lpc s D)
theorem lrS_s (F : Nat → Int) (D s : Nat) : lrS F D (s + 1) = lrS F D s + F (lpc s D) := rfl
theorem lr_lu (F : Nat → Int) {D : Nat} (h : 1 ≤ D ∧ D ≤ 4) : lrS F D (2 ^ D) = luS F D (D + 1) := by
  rcases (show D = 1 ∨ D = 2 ∨ D = 3 ∨ D = 4 by omega) with e | e | e | e <;> subst e
  · have e1 : lrS F 1 (2 ^ 1) = ((0 + F 0) + F 1) := rfl
    have e2 : luS F 1 (1 + 1) = ((0 + cb 1 0 * F 0) + cb 1 1 * F 1) := rfl
    have c0 : cb 1 0 = 1 := by decide
    have c1 : cb 1 1 = 1 := by decide
    rw [e1, e2, c0, c1]
    omega
  · have e1 : lrS F 2 (2 ^ 2) = ((((0 + F 0) + F 1) + F 1) + F 2) := rfl
    have e2 : luS F 2 (2 + 1) = (((0 + cb 2 0 * F 0) + cb 2 1 * F 1) + cb 2 2 * F 2) := rfl
    have c0 : cb 2 0 = 1 := by decide
    have c1 : cb 2 1 = 2 := by decide
    have c2 : cb 2 2 = 1 := by decide
    rw [e1, e2, c0, c1, c2]
    omega
  · have e1 : lrS F 3 (2 ^ 3) = ((((((((0 + F 0) + F 1) + F 1) + F 2) + F 1) + F 2) + F 2) + F 3) := rfl
    have e2 : luS F 3 (3 + 1) = ((((0 + cb 3 0 * F 0) + cb 3 1 * F 1) + cb 3 2 * F 2) + cb 3 3 * F 3) := rfl
    have c0 : cb 3 0 = 1 := by decide
    have c1 : cb 3 1 = 3 := by decide
    have c2 : cb 3 2 = 3 := by decide
    have c3 : cb 3 3 = 1 := by decide
    rw [e1, e2, c0, c1, c2, c3]
    omega
  · have e1 : lrS F 4 (2 ^ 4) = ((((((((((((((((0 + F 0) + F 1) + F 1) + F 2) + F 1) + F 2) + F 2) + F 3) + F 1) + F 2) + F 2) + F 3) + F 2) + F 3) + F 3) + F 4) := rfl
    have e2 : luS F 4 (4 + 1) = (((((0 + cb 4 0 * F 0) + cb 4 1 * F 1) + cb 4 2 * F 2) + cb 4 3 * F 3) + cb 4 4 * F 4) := rfl
    have c0 : cb 4 0 = 1 := by decide
    have c1 : cb 4 1 = 4 := by decide
    have c2 : cb 4 2 = 6 := by decide
    have c3 : cb 4 3 = 4 := by decide
    have c4 : cb 4 4 = 1 := by decide
    rw [e1, e2, c0, c1, c2, c3, c4]
    omega
theorem cb_6 {D i : Nat} (hD : D ≤ 4) : 0 ≤ cb D i ∧ cb D i ≤ 6 := by
  by_cases h : D < i
  · rw [cb_gt h]; decide
  · have h2 : i ≤ 4 := by omega
    rcases (show D = 0 ∨ D = 1 ∨ D = 2 ∨ D = 3 ∨ D = 4 by omega) with e | e | e | e | e <;> subst e <;> rcases (show i = 0 ∨ i = 1 ∨ i = 2 ∨ i = 3 ∨ i = 4 by omega) with e | e | e | e | e <;> subst e <;> decide
def luF (W L : Int) (D : Nat) (q : Int) (c : Nat) : Int := if (c : Int) < q then 0 else W ^ c * L ^ (D - c)
theorem luF_in {W L H : Int} (hW : 0 ≤ W ∧ W ≤ H) (hL : 0 ≤ L ∧ L ≤ H) (h1 : 1 ≤ H) {D c : Nat} {q : Int} (hc : c ≤ D) : 0 ≤ luF W L D q c ∧ luF W L D q c ≤ H ^ D := by
  have hH : 0 ≤ H ^ D := Int.pow_nonneg (by omega)
  unfold luF
  split
  · exact ⟨Int.le_refl _, hH⟩
  · refine ⟨Int.mul_nonneg (Int.pow_nonneg hW.1) (Int.pow_nonneg hL.1), ?_⟩
    have := Int.mul_le_mul (pow_lex hW.1 hW.2 c) (pow_lex hL.1 hL.2 (D - c)) (Int.pow_nonneg hL.1) (Int.pow_nonneg (by omega))
    rw [← Int.pow_add, show c + (D - c) = D by omega] at this
    exact this
theorem luS_in {W L H : Int} (hW : 0 ≤ W ∧ W ≤ H) (hL : 0 ≤ L ∧ L ≤ H) (h1 : 1 ≤ H) {D : Nat} {q : Int} (hD : D ≤ 4) : ∀ i, i ≤ D + 1 → 0 ≤ luS (luF W L D q) D i ∧ luS (luF W L D q) D i ≤ 6 * H ^ D * (i : Int) := by
  intro i
  induction i with
  | zero => intro _; exact ⟨Int.le_refl _, by show (0 : Int) ≤ _ * 0; omega⟩
  | succ i ih =>
    intro hi
    have h0 := ih (by omega)
    have h2 := luF_in hW hL h1 (q := q) (show i ≤ D by omega)
    have h3 := cb_6 (i := i) hD
    have h4 := Int.mul_nonneg h3.1 h2.1
    have h5 := Int.mul_le_mul h3.2 h2.2 h2.1 (by decide)
    rw [luS_s, Int.natCast_add, Int.natCast_one, Int.mul_add, Int.mul_one]
    omega
theorem lrS_in {W L H : Int} (hW : 0 ≤ W ∧ W ≤ H) (hL : 0 ≤ L ∧ L ≤ H) (h1 : 1 ≤ H) {D : Nat} {q : Int} : ∀ s, 0 ≤ lrS (luF W L D q) D s ∧ lrS (luF W L D q) D s ≤ H ^ D * (s : Int) := by
  intro s
  induction s with
  | zero => exact ⟨Int.le_refl _, by show (0 : Int) ≤ _ * 0; omega⟩
  | succ s ih =>
    have h2 := luF_in hW hL h1 (q := q) (lpc_le s D)
    rw [lrS_s, Int.natCast_add, Int.natCast_one, Int.mul_add, Int.mul_one]
    omega
theorem pow_pd {H : Int} {D : Nat} (h : 1 ≤ D) : H * H ^ (D - 1) = H ^ D := by
  obtain ⟨d, rfl⟩ : ∃ d, D = d + 1 := ⟨D - 1, by omega⟩
  rw [Nat.add_sub_cancel, Int.pow_succ, Int.mul_comm]
/-- how great a power may become -/
theorem lu_pow {P n D : Nat} (h5 : 5 ≤ P ∧ P ≤ 37) (hn : n ≤ 20) (hD : D ≤ 4) : 1 ≤ (P : Int) ^ n ∧ (P : Int) ^ n ≤ 37 ^ 20 ∧ 1 ≤ ((P : Int) ^ n) ^ D ∧ ((P : Int) ^ n) ^ D ≤ (37 ^ 20) ^ 4 := by
  have a1 : (0 : Int) < (P : Int) ^ n := Int.pow_pos (by omega)
  have a2 : (P : Int) ^ n ≤ 37 ^ 20 := Int.le_trans (pow_lex (by omega) (show (P : Int) ≤ 37 by omega) n) (pow_up (by decide) hn)
  have a3 : (0 : Int) < ((P : Int) ^ n) ^ D := Int.pow_pos a1
  have a4 : ((P : Int) ^ n) ^ D ≤ (37 ^ 20) ^ 4 := Int.le_trans (pow_lex (by omega) a2 D) (pow_up (by decide) hD)
  exact ⟨a1, a2, a3, a4⟩
theorem mul_up {v w H B : Int} {i n : Nat} (hv : 0 ≤ v) (hw : 0 ≤ w ∧ w ≤ H) (h1 : 1 ≤ H) (hi : i + 1 ≤ n) (h : v * H ^ n < B) : v * w ^ i * w < B := by
  rw [Int.mul_assoc, ← Int.pow_succ]
  exact Int.lt_of_le_of_lt (Int.mul_le_mul_of_nonneg_left (Int.le_trans (pow_lex hw.1 hw.2 (i + 1)) (pow_up h1 hi)) hv) h
theorem CLs.frT {g g' : am_G} (h : CLs g) (hF : FrC 106 112 g g') (hM : BigL g' 106) (hN : BigL g' 112) : CLs g' := by
  obtain ⟨a1, a2, a3, a4, a5, a6, a7, a8⟩ := h
  exact ⟨a1.frc hF (by decide) (by decide), hM, a3.frc hF (by decide) (by decide), a4.frc hF (by decide) (by decide), hN, a6.frc hF (by decide) (by decide), a7.frc hF (by decide) (by decide), a8.frc hF (by decide) (by decide)⟩
theorem FrH.b {k : Nat} {g h i : am_G} (h1 : FrH g h) (h2 : FrB k h i) (hk : 104 ≤ k ∧ k ≤ 118) : FrH g i := fun c j hc => (h2 c j (by omega) (by omega)).trans (h1 c j hc)
theorem FrH.c {k r : Nat} {g h i : am_G} (h1 : FrH g h) (h2 : FrC k r h i) (hk : 104 ≤ k ∧ k ≤ 118) (hr : 104 ≤ r ∧ r ≤ 118) : FrH g i := fun c j hc => (h2 c j (by omega) (by omega) (by omega) (by omega)).trans (h1 c j hc)
theorem FrH.rfl' {g : am_G} : FrH g g := fun _ _ _ => Eq.refl _
theorem shl_1 {D : Int} (h : 1 ≤ D ∧ D ≤ 4) : (Int32.ofInt 1 <<< (Int32.ofInt D &&& 31)).toInt = ((2 ^ D.toNat : Nat) : Int) := by
  rcases (show D = 1 ∨ D = 2 ∨ D = 3 ∨ D = 4 by omega) with e | e | e | e <;> subst e <;> decide
theorem shr_b {s k : Nat} (hs : s < 16) (hk : k < 4) : (Int32.ofInt (Int32.ofInt ((s : Nat) : Int) >>> (Int32.ofInt ((k : Nat) : Int) &&& 31)).toInt &&& Int32.ofInt 1).toInt = ((s / 2 ^ k % 2 : Nat) : Int) := by
  have h : ∀ s : Fin 16, ∀ k : Fin 4, (Int32.ofInt (Int32.ofInt ((s.val : Nat) : Int) >>> (Int32.ofInt ((k.val : Nat) : Int) &&& 31)).toInt &&& Int32.ofInt 1).toInt = ((s.val / 2 ^ k.val % 2 : Nat) : Int) := by decide +kernel
  exact h ⟨s, hs⟩ ⟨k, hk⟩
theorem CLs.fr812 {g g' : am_G} (h : CLs g) (hF : FrC 118 112 g g') (hM : BigL g' 118) (hN : BigL g' 112) : CLs g' := by
  obtain ⟨a1, a2, a3, a4, a5, a6, a7, a8⟩ := h
  exact ⟨a1.frc hF (by decide) (by decide), a2.frc hF (by decide) (by decide), a3.frc hF (by decide) (by decide), a4.frc hF (by decide) (by decide), hN, a6.frc hF (by decide) (by decide), a7.frc hF (by decide) (by decide), hM⟩
set_option maxHeartbeats 400000 in
set_option maxRecDepth 20000 in
theorem e_multiply {sn : Nat} {sx : Nat → Int} {b : Nat} {g : am_G} {a : Nat} (hk_a : IsBig b a) {n : Nat} {v w H : Int} (hn : n ≤ 4) (hB : BigR g 106 v) (hA : BigR g a w) (hL : BigL g 112) (ha : a = 108 ∨ a = 114 ∨ a = 116) (hw : w ≤ H) (h1 : 1 ≤ H) (ho : v * H ^ n < 2147483648 ^ 39) : Ev sn sx 4 34 [(2, 103), (2, 106), (2, ((a : Nat) : Int)), (0, ((n : Nat) : Int))] (SH b) g (fun x => ∃ g', x = (none, SH b, g') ∧ BigR g' 106 (v * w ^ n) ∧ BigL g' 112 ∧ FrC 106 112 g g') := by
  refine ev_of (K := 3) T34 (by decide) rfl rfl (Nat.le_of_ble_eq_true rfl) ?_
  refine wp_eq (L' := [(2, 103), (2, 106), (2, ((a : Nat) : Int)), (0, ((n : Nat) : Int)), (9, 0)]) (st' := []) (g' := g) ?_
  refine wp_n 2 (pc' := 3) (L' := [(2, 103), (2, 106), (2, ((a : Nat) : Int)), (0, ((n : Nat) : Int)), (0, 0)]) (st' := []) (g' := g) rfl ?_
  have L3 : ∀ (lf : Nat) (i : Nat) (h : am_G), n - i < lf → (i ≤ n) → (BigR h 106 (v * w ^ i)) → (BigL h 112) → (FrC 106 112 g h) → Wp sn sx 3 T34 3 [(2, 103), (2, 106), (2, ((a : Nat) : Int)), (0, ((n : Nat) : Int)), (0, ((i : Nat) : Int))] [] (SH b) h (fun x => ∃ g', x = (none, SH b, g') ∧ BigR g' 106 (v * w ^ n) ∧ BigL g' 112 ∧ FrC 106 112 g g') := by
    intro lf
    induction lf with
    | zero => intro i h hlf; exact absurd hlf (Nat.not_lt_zero _)
    | succ lf ih3 =>
      intro i h hlf hi hH hL2 hF
      refine wp_n 2 (pc' := 6) (L' := [(2, 103), (2, 106), (2, ((a : Nat) : Int)), (0, ((n : Nat) : Int)), (0, ((i : Nat) : Int))]) (st' := [(0, ((n : Nat) : Int)), (0, ((i : Nat) : Int))]) (g' := h) rfl ?_
      refine wp_ic_ge rfl (fun c1 => ?_) (fun c1 => ?_)
      · have hk2 : i = n := by omega
        exact wp_ret rfl rfl rfl ⟨_, rfl, by rw [hk2] at hH; exact hH, hL2, hF⟩
      · refine wp_n 4 (pc' := 15) (L' := [(2, 103), (2, 106), (2, ((a : Nat) : Int)), (0, ((n : Nat) : Int)), (0, ((i : Nat) : Int))]) (st' := [(2, 112), (2, ((a : Nat) : Int)), (2, 106)]) (g' := h) rfl ?_
        refine wp_cv (as := [(2, 106), (2, ((a : Nat) : Int)), (2, 112)]) (rest := []) rfl rfl rfl (Nat.le_of_ble_eq_true rfl) rfl (e_timesb (k := 106) ⟨rfl, rfl⟩ hk_a (r := 112) ⟨rfl, rfl⟩ hH (hA.frc hF (by rcases ha with e | e | e <;> subst e <;> decide) (by rcases ha with e | e | e <;> subst e <;> decide)) hL2 (by rcases ha with e | e | e <;> subst e <;> decide) (by decide) (by decide) (by rcases ha with e | e | e <;> subst e <;> decide) (mul_up hB.nn ⟨hA.nn, hw⟩ h1 (show i + 1 ≤ n by omega) ho)) (by decide) (fun r2 h3 => ?_)
        obtain ⟨g15, rfl, hR15, hF15, hL15⟩ := h3
        refine wp_eq (L' := [(2, 103), (2, 106), (2, ((a : Nat) : Int)), (0, ((n : Nat) : Int)), (0, ((i : Nat) : Int))]) (st' := []) (g' := g15) ?_
        refine wp_n 2 (pc' := 3) (L' := [(2, 103), (2, 106), (2, ((a : Nat) : Int)), (0, ((n : Nat) : Int)), (0, (((i : Nat) : Int) + 1))]) (st' := []) (g' := g15) rfl ?_
        refine wp_eq (ih3 (i + 1) (g15) ?_ ?_ ?_ ?_ ?_) (by first | rfl | (simp; done) | (simp; omega)) (by rfl) (by rfl)
        · omega
        · omega
        · rw [Int.pow_succ, ← Int.mul_assoc]; exact hR15
        · exact hL15
        · exact fun c j n1 n2 n3 n4 => (hF15 c j n1 n2 n3 n4).trans (hF c j n1 n2 n3 n4)
  refine wp_eq (L3 (_ + 1) (0) (g) (Nat.lt_succ_self _) ?_ ?_ ?_ ?_) (by first | rfl | (simp; done) | (simp; omega)) (by rfl) (by rfl)
  · exact Nat.zero_le _
  · rw [Int.pow_zero, Int.mul_one]; exact hB
  · exact hL
  · exact fun _ _ _ _ _ _ => rfl
set_option maxHeartbeats 2000000 in
set_option maxRecDepth 20000 in
theorem e_luckyDays {sn : Nat} {sx : Nat → Int} {b : Nat} {g : am_G} {P D n w : Nat} {q : Int} (hP : g 103 0 = (P : Int)) (h5 : 5 ≤ P ∧ P ≤ 37) (hD : 1 ≤ D ∧ D ≤ 4) (hq : 0 ≤ q ∧ q ≤ D) (hn : 1 ≤ n ∧ n ≤ 20) (hw : w ≤ n) (hL : CLs g) : Ev sn sx 6 33 [(2, 103), (0, ((D : Nat) : Int)), (0, q), (0, ((n : Nat) : Int)), (0, ((w : Nat) : Int))] (SH b) g (fun x => ∃ g' v, x = (some (0, v), SH b, g') ∧ IsShare (luS (luF (tl 1 ((P : Int) - 1) n w) (((P : Int) ^ n) - (tl 1 ((P : Int) - 1) n w)) D q) D (D + 1)) 1000000 (((P : Int) ^ n) ^ D) v ∧ CLs g' ∧ FrH g g') := by
  have hu := lu_pow h5 hn.2 hD.2
  have ht0 := tl_in (p := 1) (q := (P : Int) - 1) (t := n) (k := w) (by decide) (by omega) (by omega)
  rw [show 1 + ((P : Int) - 1) = (P : Int) by omega] at ht0
  have hW2 : 0 ≤ (tl 1 ((P : Int) - 1) n w) ∧ (tl 1 ((P : Int) - 1) n w) ≤ ((P : Int) ^ n) := ht0
  have hL2 : 0 ≤ (((P : Int) ^ n) - (tl 1 ((P : Int) - 1) n w)) ∧ (((P : Int) ^ n) - (tl 1 ((P : Int) - 1) n w)) ≤ ((P : Int) ^ n) := by omega
  refine ev_of (K := 5) T33 (by decide) rfl rfl (Nat.le_of_ble_eq_true rfl) ?_
  refine wp_eq (L' := [(2, 103), (0, ((D : Nat) : Int)), (0, q), (0, ((n : Nat) : Int)), (0, ((w : Nat) : Int)), (9, 0), (9, 0)]) (st' := []) (g' := g) ?_
  refine wp_n 6 (pc' := 9) (L' := [(2, 103), (0, ((D : Nat) : Int)), (0, q), (0, ((n : Nat) : Int)), (0, ((w : Nat) : Int)), (9, 0), (9, 0)]) (st' := [(0, (g 103 0)), (0, 1), (0, ((w : Nat) : Int)), (0, ((n : Nat) : Int)), (2, 103)]) (g' := g) rfl ?_
  refine wp_eq (L' := [(2, 103), (0, ((D : Nat) : Int)), (0, q), (0, ((n : Nat) : Int)), (0, ((w : Nat) : Int)), (9, 0), (9, 0)]) (st' := [(0, ((P : Nat) : Int)), (0, 1), (0, ((w : Nat) : Int)), (0, ((n : Nat) : Int)), (2, 103)]) (g' := g) ?_ (by rfl) (by rw [hP]) (by rfl)
  refine wp_n 2 (pc' := 11) (L' := [(2, 103), (0, ((D : Nat) : Int)), (0, q), (0, ((n : Nat) : Int)), (0, ((w : Nat) : Int)), (9, 0), (9, 0)]) (st' := [(0, (((P : Nat) : Int) - 1)), (0, 1), (0, ((w : Nat) : Int)), (0, ((n : Nat) : Int)), (2, 103)]) (g' := g) rfl ?_
  refine wp_cv (as := [(2, 103), (0, ((n : Nat) : Int)), (0, ((w : Nat) : Int)), (0, 1), (0, (((P : Nat) : Int) - 1))]) (rest := []) rfl rfl rfl (Nat.le_of_ble_eq_true rfl) rfl (e_addUp (n := n) (k := w) (by omega) (by omega) (by omega) (by omega) hL.1 hL.2.1) (by decide) (fun r1 h2 => ?_)
  obtain ⟨g11, rfl, hR11, hL11, hF11⟩ := h2
  have hC11 := hL.frC hF11 hR11.L hL11
  have hF11H : FrH g g11 := FrH.rfl'.c hF11 (by decide) (by decide)
  have hP11 : g11 103 0 = (P : Int) := by rw [hF11 103 0 (by decide) (by decide) (by decide) (by decide)]; exact hP
  refine wp_eq (L' := [(2, 103), (0, ((D : Nat) : Int)), (0, q), (0, ((n : Nat) : Int)), (0, ((w : Nat) : Int)), (9, 0), (9, 0)]) (st' := []) (g' := g11) ?_
  refine wp_n 4 (pc' := 22) (L' := [(2, 103), (0, ((D : Nat) : Int)), (0, q), (0, ((n : Nat) : Int)), (0, ((w : Nat) : Int)), (9, 0), (9, 0)]) (st' := [(2, 104), (2, 114)]) (g' := g11) rfl ?_
  refine wp_cv (as := [(2, 114), (2, 104)]) (rest := []) rfl rfl rfl (Nat.le_of_ble_eq_true rfl) rfl (e_setb (k := 114) (⟨rfl, rfl⟩ : IsBig b 114) (a := 104) (⟨rfl, rfl⟩ : IsBig b 104) hC11.2.2.2.2.2.1 hR11 (by decide)) (by decide) (fun r3 h4 => ?_)
  obtain ⟨g22, rfl, hR22, hF22⟩ := h4
  have hC22 := hC11.frB (by decide) hF22 hR22.L
  have hF22H := hF11H.b hF22 (by decide)
  refine wp_eq (L' := [(2, 103), (0, ((D : Nat) : Int)), (0, q), (0, ((n : Nat) : Int)), (0, ((w : Nat) : Int)), (9, 0), (9, 0)]) (st' := []) (g' := g22) ?_
  refine wp_n 4 (pc' := 33) (L' := [(2, 103), (0, ((D : Nat) : Int)), (0, q), (0, ((n : Nat) : Int)), (0, ((w : Nat) : Int)), (9, 0), (9, 0)]) (st' := [(0, (g22 103 0)), (2, 108)]) (g' := g22) rfl ?_
  refine wp_eq (L' := [(2, 103), (0, ((D : Nat) : Int)), (0, q), (0, ((n : Nat) : Int)), (0, ((w : Nat) : Int)), (9, 0), (9, 0)]) (st' := [(0, ((P : Nat) : Int)), (2, 108)]) (g' := g22) ?_ (by rfl) (by rw [hF22H 103 0 (by decide), hP]) (by rfl)
  refine wp_n 1 (pc' := 34) (L' := [(2, 103), (0, ((D : Nat) : Int)), (0, q), (0, ((n : Nat) : Int)), (0, ((w : Nat) : Int)), (9, 0), (9, 0)]) (st' := [(0, ((n : Nat) : Int)), (0, ((P : Nat) : Int)), (2, 108)]) (g' := g22) rfl ?_
  refine wp_cs (as := [(2, 108), (0, ((P : Nat) : Int)), (0, ((n : Nat) : Int))]) (rest := []) rfl (by decide) rfl (Nat.le_of_ble_eq_true rfl) (e_raise (k := 108) (⟨rfl, rfl⟩ : IsBig b 108) (n := n) hC22.2.2.1 (by omega) (by omega) (by omega)) (by decide) (fun r5 h6 => ?_)
  obtain ⟨g34, rfl, hR34, hF34⟩ := h6
  have hC34 := hC22.frB (by decide) hF34 hR34.L
  have hF34H := hF22H.b hF34 (by decide)
  refine wp_eq (L' := [(2, 103), (0, ((D : Nat) : Int)), (0, q), (0, ((n : Nat) : Int)), (0, ((w : Nat) : Int)), (9, 0), (9, 0)]) (st' := []) (g' := g34) ?_
  refine wp_n 4 (pc' := 45) (L' := [(2, 103), (0, ((D : Nat) : Int)), (0, q), (0, ((n : Nat) : Int)), (0, ((w : Nat) : Int)), (9, 0), (9, 0)]) (st' := [(2, 108), (2, 116)]) (g' := g34) rfl ?_
  refine wp_cv (as := [(2, 116), (2, 108)]) (rest := []) rfl rfl rfl (Nat.le_of_ble_eq_true rfl) rfl (e_setb (k := 116) (⟨rfl, rfl⟩ : IsBig b 116) (a := 108) (⟨rfl, rfl⟩ : IsBig b 108) hC34.2.2.2.2.2.2.1 hR34 (by decide)) (by decide) (fun r7 h8 => ?_)
  obtain ⟨g45, rfl, hR45, hF45⟩ := h8
  have hC45 := hC34.frB (by decide) hF45 hR45.L
  have hF45H := hF34H.b hF45 (by decide)
  refine wp_eq (L' := [(2, 103), (0, ((D : Nat) : Int)), (0, q), (0, ((n : Nat) : Int)), (0, ((w : Nat) : Int)), (9, 0), (9, 0)]) (st' := []) (g' := g45) ?_
  refine wp_n 4 (pc' := 56) (L' := [(2, 103), (0, ((D : Nat) : Int)), (0, q), (0, ((n : Nat) : Int)), (0, ((w : Nat) : Int)), (9, 0), (9, 0)]) (st' := [(2, 114), (2, 116)]) (g' := g45) rfl ?_
  refine wp_cv (as := [(2, 116), (2, 114)]) (rest := []) rfl rfl rfl (Nat.le_of_ble_eq_true rfl) rfl (e_minus (k := 116) (⟨rfl, rfl⟩ : IsBig b 116) (a := 114) (⟨rfl, rfl⟩ : IsBig b 114) hR45 ((hR22.fr' hF34 (by decide)).fr' hF45 (by decide)) (by decide) hW2.2) (by decide) (fun r9 h10 => ?_)
  obtain ⟨g56, rfl, hR56, hF56⟩ := h10
  have hC56 := hC45.frB (by decide) hF56 hR56.L
  have hF56H := hF45H.b hF56 (by decide)
  refine wp_eq (L' := [(2, 103), (0, ((D : Nat) : Int)), (0, q), (0, ((n : Nat) : Int)), (0, ((w : Nat) : Int)), (9, 0), (9, 0)]) (st' := []) (g' := g56) ?_
  refine wp_n 3 (pc' := 64) (L' := [(2, 103), (0, ((D : Nat) : Int)), (0, q), (0, ((n : Nat) : Int)), (0, ((w : Nat) : Int)), (9, 0), (9, 0)]) (st' := [(0, 0), (2, 118)]) (g' := g56) rfl ?_
  refine wp_cv (as := [(2, 118), (0, 0)]) (rest := []) rfl rfl rfl (Nat.le_of_ble_eq_true rfl) rfl (e_set (k := 118) (⟨rfl, rfl⟩ : IsBig b 118) hC56.2.2.2.2.2.2.2 (by omega)) (by decide) (fun r11 h12 => ?_)
  obtain ⟨g64, rfl, hR64, hF64⟩ := h12
  have hC64 := hC56.frB (by decide) hF64 hR64.L
  have hF64H := hF56H.b hF64 (by decide)
  refine wp_eq (L' := [(2, 103), (0, ((D : Nat) : Int)), (0, q), (0, ((n : Nat) : Int)), (0, ((w : Nat) : Int)), (9, 0), (9, 0)]) (st' := []) (g' := g64) ?_
  refine wp_n 4 (pc' := 73) (L' := [(2, 103), (0, ((D : Nat) : Int)), (0, q), (0, ((n : Nat) : Int)), (0, ((w : Nat) : Int)), (0, 1), (0, 0)]) (st' := []) (g' := g64) rfl ?_
  have L73 : ∀ (lf : Nat) (i : Nat) (h : am_G), D + 1 - i < lf → (i ≤ D + 1) → (BigR h 108 ((P : Int) ^ n)) → (BigR h 114 (tl 1 ((P : Int) - 1) n w)) → (BigR h 116 (((P : Int) ^ n) - (tl 1 ((P : Int) - 1) n w))) → (BigR h 118 (luS (luF (tl 1 ((P : Int) - 1) n w) (((P : Int) ^ n) - (tl 1 ((P : Int) - 1) n w)) D q) D i)) → (CLs h) → (FrH g h) → Wp sn sx 5 T33 73 [(2, 103), (0, ((D : Nat) : Int)), (0, q), (0, ((n : Nat) : Int)), (0, ((w : Nat) : Int)), (0, (cb D i)), (0, ((i : Nat) : Int))] [] (SH b) h (fun x => ∃ g' v, x = (some (0, v), SH b, g') ∧ IsShare (luS (luF (tl 1 ((P : Int) - 1) n w) (((P : Int) ^ n) - (tl 1 ((P : Int) - 1) n w)) D q) D (D + 1)) 1000000 (((P : Int) ^ n) ^ D) v ∧ CLs g' ∧ FrH g g') := by
    intro lf
    induction lf with
    | zero => intro i h hlf; exact absurd hlf (Nat.not_lt_zero _)
    | succ lf ih73 =>
      intro i h hlf hi h108 h114 h116 hS hC hF
      refine wp_n 2 (pc' := 76) (L' := [(2, 103), (0, ((D : Nat) : Int)), (0, q), (0, ((n : Nat) : Int)), (0, ((w : Nat) : Int)), (0, (cb D i)), (0, ((i : Nat) : Int))]) (st' := [(0, ((D : Nat) : Int)), (0, ((i : Nat) : Int))]) (g' := h) rfl ?_
      refine wp_ic_gt rfl (fun c13 => ?_) (fun c13 => ?_)
      · have hk2 : i = D + 1 := by omega
        have hsb := luS_in hW2 hL2 hu.1 (q := q) hD.2 i hi
        have hpd : ((P : Int) ^ n) * ((P : Int) ^ n) ^ (D - 1) = ((P : Int) ^ n) ^ D := pow_pd hD.1
        rw [hk2] at hS hsb
        have hsb2 := Int.mul_le_mul_of_nonneg_left (show ((D + 1 : Nat) : Int) ≤ 5 by omega) (show 0 ≤ 6 * ((P : Int) ^ n) ^ D by omega)
        refine wp_n 4 (pc' := 163) (L' := [(2, 103), (0, ((D : Nat) : Int)), (0, q), (0, ((n : Nat) : Int)), (0, ((w : Nat) : Int)), (0, (cb D i)), (0, ((i : Nat) : Int))]) (st' := [(2, 108), (2, 106)]) (g' := h) rfl ?_
        refine wp_cv (as := [(2, 106), (2, 108)]) (rest := []) rfl rfl rfl (Nat.le_of_ble_eq_true rfl) rfl (e_setb (k := 106) (⟨rfl, rfl⟩ : IsBig b 106) (a := 108) (⟨rfl, rfl⟩ : IsBig b 108) hC.2.1 h108 (by decide)) (by decide) (fun r14 h15 => ?_)
        obtain ⟨g163, rfl, hR163, hF163⟩ := h15
        have hC163 := hC.frB (by decide) hF163 hR163.L
        refine wp_eq (L' := [(2, 103), (0, ((D : Nat) : Int)), (0, q), (0, ((n : Nat) : Int)), (0, ((w : Nat) : Int)), (0, (cb D i)), (0, ((i : Nat) : Int))]) (st' := []) (g' := g163) ?_
        refine wp_n 8 (pc' := 178) (L' := [(2, 103), (0, ((D : Nat) : Int)), (0, q), (0, ((n : Nat) : Int)), (0, ((w : Nat) : Int)), (0, (cb D i)), (0, ((i : Nat) : Int))]) (st' := [(0, (((D : Nat) : Int) - 1)), (2, 108), (2, 106), (2, 103)]) (g' := g163) rfl ?_
        refine wp_eq (L' := [(2, 103), (0, ((D : Nat) : Int)), (0, q), (0, ((n : Nat) : Int)), (0, ((w : Nat) : Int)), (0, (cb D i)), (0, ((i : Nat) : Int))]) (st' := [(0, (((D - 1) : Nat) : Int)), (2, 108), (2, 106), (2, 103)]) (g' := g163) ?_ (by rfl) (by rw [show (D : Int) - 1 = ((D - 1 : Nat) : Int) by omega]) (by rfl)
        refine wp_cv (as := [(2, 103), (2, 106), (2, 108), (0, (((D - 1) : Nat) : Int))]) (rest := []) rfl rfl rfl (Nat.le_of_ble_eq_true rfl) rfl (e_multiply (a := 108) ⟨rfl, rfl⟩ (n := (D - 1)) (by omega) hR163 (h108.fr' hF163 (by decide)) hC163.2.2.2.2.1 (by decide) (Int.le_refl _) hu.1 (by omega)) (by decide) (fun r16 h17 => ?_)
        obtain ⟨g178, rfl, hR178, hL178, hF178⟩ := h17
        have hC178 := hC163.frT hF178 hR178.L hL178
        refine wp_eq (L' := [(2, 103), (0, ((D : Nat) : Int)), (0, q), (0, ((n : Nat) : Int)), (0, ((w : Nat) : Int)), (0, (cb D i)), (0, ((i : Nat) : Int))]) (st' := []) (g' := g178) ?_
        refine wp_n 7 (pc' := 195) (L' := [(2, 103), (0, ((D : Nat) : Int)), (0, q), (0, ((n : Nat) : Int)), (0, ((w : Nat) : Int)), (0, (cb D i)), (0, ((i : Nat) : Int))]) (st' := [(2, 112), (0, 1000000), (2, 106), (2, 118)]) (g' := g178) rfl ?_
        refine wp_cv (as := [(2, 118), (2, 106), (0, 1000000), (2, 112)]) (rest := []) rfl rfl rfl (Nat.le_of_ble_eq_true rfl) rfl (e_share (k := 118) (⟨rfl, rfl⟩ : IsBig b 118) (a := 106) (⟨rfl, rfl⟩ : IsBig b 106) (r := 112) (⟨rfl, rfl⟩ : IsBig b 112) ((hS.fr' hF163 (by decide)).frc hF178 (by decide) (by decide)) hR178 hL178 (by omega) (by decide) (by decide) (by decide) (by decide) (by omega) (by omega)) (by decide) (fun r18 h19 => ?_)
        obtain ⟨g195, q195, rfl, hS195, hR195, hF195, hL195⟩ := h19
        have hC195 := hC178.fr812 hF195 hR195.L hL195
        have hF195H := ((hF.b hF163 (by decide)).c hF178 (by decide) (by decide)).c hF195 (by decide) (by decide)
        refine wp_eq (L' := [(2, 103), (0, ((D : Nat) : Int)), (0, q), (0, ((n : Nat) : Int)), (0, ((w : Nat) : Int)), (0, (cb D i)), (0, ((i : Nat) : Int))]) (st' := [(0, q195)]) (g' := g195) ?_
        exact wp_ret rfl rfl rfl ⟨_, _, rfl, by rw [← pow_pd (H := ((P : Int) ^ n)) hD.1]; exact hS195, hC195, hF195H⟩
      · have h6 := cb_6 (i := i) hD.2
        have hcm := Int.mul_le_mul h6.2 (show (D : Int) - (i : Int) ≤ 4 by omega) (by omega) (by decide)
        have hcn := Int.mul_nonneg h6.1 (show 0 ≤ (D : Int) - (i : Int) by omega)
        have hsb := luS_in hW2 hL2 hu.1 (q := q) hD.2 i hi
        have hsb1 := luS_in hW2 hL2 hu.1 (q := q) hD.2 (i + 1) (by omega)
        have hsb2 := Int.mul_le_mul_of_nonneg_left (show (i : Int) + 1 ≤ 5 by omega) (show 0 ≤ 6 * ((P : Int) ^ n) ^ D by omega)
        rw [luS_s, show ((i + 1 : Nat) : Int) = (i : Int) + 1 by omega] at hsb1
        refine wp_n 2 (pc' := 82) (L' := [(2, 103), (0, ((D : Nat) : Int)), (0, q), (0, ((n : Nat) : Int)), (0, ((w : Nat) : Int)), (0, (cb D i)), (0, ((i : Nat) : Int))]) (st' := [(0, q), (0, ((i : Nat) : Int))]) (g' := h) rfl ?_
        refine wp_ic_lt rfl (fun c20 => ?_) (fun c20 => ?_)
        · have hiq : (i : Int) < q := by omega
          refine wp_n 8 (pc' := 146) (L' := [(2, 103), (0, ((D : Nat) : Int)), (0, q), (0, ((n : Nat) : Int)), (0, ((w : Nat) : Int)), (0, (cb D i)), (0, ((i : Nat) : Int))]) (st' := [(0, (((i : Nat) : Int) + 1)), (0, ((cb D i) * (((D : Nat) : Int) - ((i : Nat) : Int))))]) (g' := h) rfl ?_
          refine wp_idiv rfl (by omega) (by omega) (by omega) ?_
          refine wp_eq (L' := [(2, 103), (0, ((D : Nat) : Int)), (0, q), (0, ((n : Nat) : Int)), (0, ((w : Nat) : Int)), (0, (cb D i)), (0, ((i : Nat) : Int))]) (st' := [(0, (((cb D i) * (((D : Nat) : Int) - ((i : Nat) : Int))) / (((i : Nat) : Int) + 1)))]) (g' := h) ?_ (by rfl) (by rw [Int.tdiv_eq_ediv_of_nonneg (Int.mul_nonneg (cb_nn D i) (by omega))]) (by rfl)
          refine wp_n 3 (pc' := 73) (L' := [(2, 103), (0, ((D : Nat) : Int)), (0, q), (0, ((n : Nat) : Int)), (0, ((w : Nat) : Int)), (0, (((cb D i) * (((D : Nat) : Int) - ((i : Nat) : Int))) / (((i : Nat) : Int) + 1))), (0, (((i : Nat) : Int) + 1))]) (st' := []) (g' := h) rfl ?_
          refine wp_eq (ih73 (i + 1) (h) ?_ ?_ ?_ ?_ ?_ ?_ ?_ ?_) (by rw [cb_next (show i ≤ D by omega)]; rfl) (by rfl) (by rfl)
          · omega
          · omega
          · first | exact h108 | exact (((h108.fr' hF91 (by decide)).frc hF105 (by decide) (by decide)).frc hF121 (by decide) (by decide)).fr' hF132 (by decide)
          · first | exact h114 | exact (((h114.fr' hF91 (by decide)).frc hF105 (by decide) (by decide)).frc hF121 (by decide) (by decide)).fr' hF132 (by decide)
          · first | exact h116 | exact (((h116.fr' hF91 (by decide)).frc hF105 (by decide) (by decide)).frc hF121 (by decide) (by decide)).fr' hF132 (by decide)
          · first
            | (rw [luS_s, show luF (tl 1 ((P : Int) - 1) n w) (((P : Int) ^ n) - (tl 1 ((P : Int) - 1) n w)) D q i = 0 by unfold luF; rw [if_pos hiq], Int.mul_zero, Int.add_zero]; exact hS)
            | (rw [luS_s]; exact hR132)
          · first | exact hC | exact hC132
          · first | exact hF | exact hF132H
        · have hfe : luF (tl 1 ((P : Int) - 1) n w) (((P : Int) ^ n) - (tl 1 ((P : Int) - 1) n w)) D q i = (tl 1 ((P : Int) - 1) n w) ^ i * (((P : Int) ^ n) - (tl 1 ((P : Int) - 1) n w)) ^ (D - i) := by unfold luF; rw [if_neg (by omega)]
          have hb1 := Int.mul_le_mul h6.2 (Int.le_refl (((P : Int) ^ n) ^ i)) (Int.pow_nonneg (by omega)) (by decide)
          have hb0 : ((P : Int) ^ n) ^ i ≤ ((P : Int) ^ n) ^ D := pow_up hu.1 (by omega)
          have hb2 : cb D i * (tl 1 ((P : Int) - 1) n w) ^ i * ((P : Int) ^ n) ^ (D - i) ≤ 6 * ((P : Int) ^ n) ^ D := by
            have := Int.mul_le_mul h6.2 (Int.le_trans (Int.mul_le_mul_of_nonneg_right (pow_lex hW2.1 hW2.2 i) (Int.pow_nonneg (show 0 ≤ ((P : Int) ^ n) by omega))) (by rw [← Int.pow_add, show i + (D - i) = D by omega]; exact Int.le_refl _)) (Int.mul_nonneg (Int.pow_nonneg hW2.1) (Int.pow_nonneg (show 0 ≤ ((P : Int) ^ n) by omega))) (by decide)
            rw [Int.mul_assoc]; exact this
          refine wp_n 3 (pc' := 91) (L' := [(2, 103), (0, ((D : Nat) : Int)), (0, q), (0, ((n : Nat) : Int)), (0, ((w : Nat) : Int)), (0, (cb D i)), (0, ((i : Nat) : Int))]) (st' := [(0, (cb D i)), (2, 106)]) (g' := h) rfl ?_
          refine wp_cv (as := [(2, 106), (0, (cb D i))]) (rest := []) rfl rfl rfl (Nat.le_of_ble_eq_true rfl) rfl (e_set (k := 106) (⟨rfl, rfl⟩ : IsBig b 106) hC.2.1 (by omega)) (by decide) (fun r21 h22 => ?_)
          obtain ⟨g91, rfl, hR91, hF91⟩ := h22
          have hC91 := hC.frB (by decide) hF91 hR91.L
          refine wp_eq (L' := [(2, 103), (0, ((D : Nat) : Int)), (0, q), (0, ((n : Nat) : Int)), (0, ((w : Nat) : Int)), (0, (cb D i)), (0, ((i : Nat) : Int))]) (st' := []) (g' := g91) ?_
          refine wp_n 6 (pc' := 105) (L' := [(2, 103), (0, ((D : Nat) : Int)), (0, q), (0, ((n : Nat) : Int)), (0, ((w : Nat) : Int)), (0, (cb D i)), (0, ((i : Nat) : Int))]) (st' := [(0, ((i : Nat) : Int)), (2, 114), (2, 106), (2, 103)]) (g' := g91) rfl ?_
          refine wp_cv (as := [(2, 103), (2, 106), (2, 114), (0, ((i : Nat) : Int))]) (rest := []) rfl rfl rfl (Nat.le_of_ble_eq_true rfl) rfl (e_multiply (a := 114) ⟨rfl, rfl⟩ (n := i) (by omega) hR91 (h114.fr' hF91 (by decide)) hC91.2.2.2.2.1 (by decide) hW2.2 hu.1 (by omega)) (by decide) (fun r23 h24 => ?_)
          obtain ⟨g105, rfl, hR105, hL105, hF105⟩ := h24
          have hC105 := hC91.frT hF105 hR105.L hL105
          refine wp_eq (L' := [(2, 103), (0, ((D : Nat) : Int)), (0, q), (0, ((n : Nat) : Int)), (0, ((w : Nat) : Int)), (0, (cb D i)), (0, ((i : Nat) : Int))]) (st' := []) (g' := g105) ?_
          refine wp_n 8 (pc' := 121) (L' := [(2, 103), (0, ((D : Nat) : Int)), (0, q), (0, ((n : Nat) : Int)), (0, ((w : Nat) : Int)), (0, (cb D i)), (0, ((i : Nat) : Int))]) (st' := [(0, (((D : Nat) : Int) - ((i : Nat) : Int))), (2, 116), (2, 106), (2, 103)]) (g' := g105) rfl ?_
          refine wp_eq (L' := [(2, 103), (0, ((D : Nat) : Int)), (0, q), (0, ((n : Nat) : Int)), (0, ((w : Nat) : Int)), (0, (cb D i)), (0, ((i : Nat) : Int))]) (st' := [(0, (((D - i) : Nat) : Int)), (2, 116), (2, 106), (2, 103)]) (g' := g105) ?_ (by rfl) (by rw [show (D : Int) - (i : Int) = ((D - i : Nat) : Int) by omega]) (by rfl)
          refine wp_cv (as := [(2, 103), (2, 106), (2, 116), (0, (((D - i) : Nat) : Int))]) (rest := []) rfl rfl rfl (Nat.le_of_ble_eq_true rfl) rfl (e_multiply (a := 116) ⟨rfl, rfl⟩ (n := (D - i)) (by omega) hR105 ((h116.fr' hF91 (by decide)).frc hF105 (by decide) (by decide)) hC105.2.2.2.2.1 (by decide) hL2.2 hu.1 (by omega)) (by decide) (fun r25 h26 => ?_)
          obtain ⟨g121, rfl, hR121, hL121, hF121⟩ := h26
          have hC121 := hC105.frT hF121 hR121.L hL121
          rw [Int.mul_assoc, ← hfe] at hR121
          refine wp_eq (L' := [(2, 103), (0, ((D : Nat) : Int)), (0, q), (0, ((n : Nat) : Int)), (0, ((w : Nat) : Int)), (0, (cb D i)), (0, ((i : Nat) : Int))]) (st' := []) (g' := g121) ?_
          refine wp_n 4 (pc' := 132) (L' := [(2, 103), (0, ((D : Nat) : Int)), (0, q), (0, ((n : Nat) : Int)), (0, ((w : Nat) : Int)), (0, (cb D i)), (0, ((i : Nat) : Int))]) (st' := [(2, 106), (2, 118)]) (g' := g121) rfl ?_
          refine wp_cv (as := [(2, 118), (2, 106)]) (rest := []) rfl rfl rfl (Nat.le_of_ble_eq_true rfl) rfl (e_plus (k := 118) (⟨rfl, rfl⟩ : IsBig b 118) (a := 106) (⟨rfl, rfl⟩ : IsBig b 106) (((hS.fr' hF91 (by decide)).frc hF105 (by decide) (by decide)).frc hF121 (by decide) (by decide)) hR121 (by decide) (by omega)) (by decide) (fun r27 h28 => ?_)
          obtain ⟨g132, rfl, hR132, hF132⟩ := h28
          have hC132 := hC121.frB (by decide) hF132 hR132.L
          have hF132H := (((hF.b hF91 (by decide)).c hF105 (by decide) (by decide)).c hF121 (by decide) (by decide)).b hF132 (by decide)
          refine wp_eq (L' := [(2, 103), (0, ((D : Nat) : Int)), (0, q), (0, ((n : Nat) : Int)), (0, ((w : Nat) : Int)), (0, (cb D i)), (0, ((i : Nat) : Int))]) (st' := []) (g' := g132) ?_
          refine wp_n 8 (pc' := 146) (L' := [(2, 103), (0, ((D : Nat) : Int)), (0, q), (0, ((n : Nat) : Int)), (0, ((w : Nat) : Int)), (0, (cb D i)), (0, ((i : Nat) : Int))]) (st' := [(0, (((i : Nat) : Int) + 1)), (0, ((cb D i) * (((D : Nat) : Int) - ((i : Nat) : Int))))]) (g' := g132) rfl ?_
          refine wp_idiv rfl (by omega) (by omega) (by omega) ?_
          refine wp_eq (L' := [(2, 103), (0, ((D : Nat) : Int)), (0, q), (0, ((n : Nat) : Int)), (0, ((w : Nat) : Int)), (0, (cb D i)), (0, ((i : Nat) : Int))]) (st' := [(0, (((cb D i) * (((D : Nat) : Int) - ((i : Nat) : Int))) / (((i : Nat) : Int) + 1)))]) (g' := g132) ?_ (by rfl) (by rw [Int.tdiv_eq_ediv_of_nonneg (Int.mul_nonneg (cb_nn D i) (by omega))]) (by rfl)
          refine wp_n 3 (pc' := 73) (L' := [(2, 103), (0, ((D : Nat) : Int)), (0, q), (0, ((n : Nat) : Int)), (0, ((w : Nat) : Int)), (0, (((cb D i) * (((D : Nat) : Int) - ((i : Nat) : Int))) / (((i : Nat) : Int) + 1))), (0, (((i : Nat) : Int) + 1))]) (st' := []) (g' := g132) rfl ?_
          refine wp_eq (ih73 (i + 1) (g132) ?_ ?_ ?_ ?_ ?_ ?_ ?_ ?_) (by rw [cb_next (show i ≤ D by omega)]; rfl) (by rfl) (by rfl)
          · omega
          · omega
          · first | exact h108 | exact (((h108.fr' hF91 (by decide)).frc hF105 (by decide) (by decide)).frc hF121 (by decide) (by decide)).fr' hF132 (by decide)
          · first | exact h114 | exact (((h114.fr' hF91 (by decide)).frc hF105 (by decide) (by decide)).frc hF121 (by decide) (by decide)).fr' hF132 (by decide)
          · first | exact h116 | exact (((h116.fr' hF91 (by decide)).frc hF105 (by decide) (by decide)).frc hF121 (by decide) (by decide)).fr' hF132 (by decide)
          · first
            | (rw [luS_s, show luF (tl 1 ((P : Int) - 1) n w) (((P : Int) ^ n) - (tl 1 ((P : Int) - 1) n w)) D q i = 0 by unfold luF; rw [if_pos hiq], Int.mul_zero, Int.add_zero]; exact hS)
            | (rw [luS_s]; exact hR132)
          · first | exact hC | exact hC132
          · first | exact hF | exact hF132H
  refine wp_eq (L73 (_ + 1) (0) (g64) (Nat.lt_succ_self _) ?_ ?_ ?_ ?_ ?_ ?_ ?_) (by rw [cb_0]; rfl) (by rfl) (by rfl)
  · exact Nat.zero_le _
  · exact ((hR34.fr' hF45 (by decide)).fr' hF56 (by decide)).fr' hF64 (by decide)
  · exact (((hR22.fr' hF34 (by decide)).fr' hF45 (by decide)).fr' hF56 (by decide)).fr' hF64 (by decide)
  · exact hR56.fr' hF64 (by decide)
  · exact hR64
  · exact hC64
  · exact hF64H
def LuD (D q n w : Int) : Prop := 1 ≤ D ∧ D ≤ 4 ∧ 0 ≤ q ∧ q ≤ D ∧ 1 ≤ n ∧ n ≤ 20 ∧ 0 ≤ w ∧ w ≤ n
def luW (P : Nat) (n w : Int) : Int := tl 1 ((P : Int) - 1) n.toNat w.toNat
def LuA (P : Nat) (D q n w v : Int) : Prop := (¬ LuD D q n w ∧ v = -1) ∨ (LuD D q n w ∧ IsShare (luS (luF (luW P n w) ((P : Int) ^ n.toNat - luW P n w) D.toNat q) D.toNat (D.toNat + 1)) 1000000 (((P : Int) ^ n.toNat) ^ D.toNat) v)
theorem LuA.uniq {P : Nat} {D q n w v v' : Int} (h5 : 5 ≤ P) (H : LuA P D q n w v) (H' : LuA P D q n w v') : v = v' := by
  have hw : (0 : Int) < ((P : Int) ^ n.toNat) ^ D.toNat := Int.pow_pos (Int.pow_pos (by omega))
  rcases H with H | H <;> rcases H' with H' | H'
  · exact H.2.trans H'.2.symm
  · exact absurd H'.1 H.1
  · exact absurd H.1 H'.1
  · exact H.2.uniq hw H'.2
set_option maxHeartbeats 400000 in
set_option maxRecDepth 20000 in
theorem e_luck {sn : Nat} {sx : Nat → Int} {b : Nat} {g : am_G} {P : Nat} {D q n w : Int} (h_D : R32 D) (h_q : R32 q) (h_n : R32 n) (h_w : R32 w) (hI : CInv P g) : Ev sn sx 7 121 [(2, 0), (0, D), (0, q), (0, n), (0, w)] (SH b) g (fun y => ∃ g' v, y = (some (0, v), SH b, g') ∧ LuA P D q n w v ∧ CLs g' ∧ FrK g g') := by
  have hP := hI.ck.2.1
  have h5 := hI.ck.1
  refine ev_of (K := 6) T121 (by decide) rfl rfl (Nat.le_of_ble_eq_true rfl) ?_
  refine wp_eq (L' := [(2, 0), (0, D), (0, q), (0, n), (0, w)]) (st' := []) (g' := g) ?_
  refine wp_n 3 (pc' := 3) (L' := [(2, 0), (0, D), (0, q), (0, n), (0, w)]) (st' := [(0, 4), (0, 1), (0, D)]) (g' := g) rfl ?_
  refine wp_cs (as := [(0, D), (0, 1), (0, 4)]) (rest := []) rfl (by decide) rfl (Nat.le_of_ble_eq_true rfl) (e_within (by omega) (by omega) (by omega)) (by decide) (fun r2 h3 => ?_)
  rcases h3 with ⟨rfl, p1⟩ | ⟨rfl, p1⟩
  · refine wp_eq (L' := [(2, 0), (0, D), (0, q), (0, n), (0, w)]) (st' := [(0, 1)]) (g' := g) ?_
    refine wp_n 4 (pc' := 12) (L' := [(2, 0), (0, D), (0, q), (0, n), (0, w)]) (st' := [(0, D), (0, 0), (0, q)]) (g' := g) rfl ?_
    refine wp_cs (as := [(0, q), (0, 0), (0, D)]) (rest := []) rfl (by decide) rfl (Nat.le_of_ble_eq_true rfl) (e_within (by omega) (by omega) (by omega)) (by decide) (fun r5 h6 => ?_)
    rcases h6 with ⟨rfl, p4⟩ | ⟨rfl, p4⟩
    · refine wp_eq (L' := [(2, 0), (0, D), (0, q), (0, n), (0, w)]) (st' := [(0, 1)]) (g' := g) ?_
      refine wp_n 4 (pc' := 22) (L' := [(2, 0), (0, D), (0, q), (0, n), (0, w)]) (st' := [(0, 20), (0, 1), (0, n)]) (g' := g) rfl ?_
      refine wp_cs (as := [(0, n), (0, 1), (0, 20)]) (rest := []) rfl (by decide) rfl (Nat.le_of_ble_eq_true rfl) (e_within (by omega) (by omega) (by omega)) (by decide) (fun r8 h9 => ?_)
      rcases h9 with ⟨rfl, p7⟩ | ⟨rfl, p7⟩
      · refine wp_eq (L' := [(2, 0), (0, D), (0, q), (0, n), (0, w)]) (st' := [(0, 1)]) (g' := g) ?_
        refine wp_n 4 (pc' := 32) (L' := [(2, 0), (0, D), (0, q), (0, n), (0, w)]) (st' := [(0, n), (0, 0), (0, w)]) (g' := g) rfl ?_
        refine wp_cs (as := [(0, w), (0, 0), (0, n)]) (rest := []) rfl (by decide) rfl (Nat.le_of_ble_eq_true rfl) (e_within (by omega) (by omega) (by omega)) (by decide) (fun r11 h12 => ?_)
        rcases h12 with ⟨rfl, p10⟩ | ⟨rfl, p10⟩
        · refine wp_eq (L' := [(2, 0), (0, D), (0, q), (0, n), (0, w)]) (st' := [(0, 1)]) (g' := g) ?_
          refine wp_n 4 (pc' := 45) (L' := [(2, 0), (0, D), (0, q), (0, n), (0, w)]) (st' := [(0, D), (2, 103)]) (g' := g) rfl ?_
          refine wp_eq (L' := [(2, 0), (0, D), (0, q), (0, n), (0, w)]) (st' := [(0, ((D.toNat : Nat) : Int)), (2, 103)]) (g' := g) ?_ (by rfl) (by rw [Int.toNat_of_nonneg (by omega)]) (by rfl)
          refine wp_n 2 (pc' := 47) (L' := [(2, 0), (0, D), (0, q), (0, n), (0, w)]) (st' := [(0, n), (0, q), (0, ((D.toNat : Nat) : Int)), (2, 103)]) (g' := g) rfl ?_
          refine wp_eq (L' := [(2, 0), (0, D), (0, q), (0, n), (0, w)]) (st' := [(0, ((n.toNat : Nat) : Int)), (0, q), (0, ((D.toNat : Nat) : Int)), (2, 103)]) (g' := g) ?_ (by rfl) (by rw [Int.toNat_of_nonneg (by omega)]) (by rfl)
          refine wp_n 1 (pc' := 49) (L' := [(2, 0), (0, D), (0, q), (0, n), (0, w)]) (st' := [(0, w), (0, ((n.toNat : Nat) : Int)), (0, q), (0, ((D.toNat : Nat) : Int)), (2, 103)]) (g' := g) rfl ?_
          refine wp_eq (L' := [(2, 0), (0, D), (0, q), (0, n), (0, w)]) (st' := [(0, ((w.toNat : Nat) : Int)), (0, ((n.toNat : Nat) : Int)), (0, q), (0, ((D.toNat : Nat) : Int)), (2, 103)]) (g' := g) ?_ (by rfl) (by rw [Int.toNat_of_nonneg (by omega)]) (by rfl)
          refine wp_cv (as := [(2, 103), (0, ((D.toNat : Nat) : Int)), (0, q), (0, ((n.toNat : Nat) : Int)), (0, ((w.toNat : Nat) : Int))]) (rest := []) rfl rfl rfl (Nat.le_of_ble_eq_true rfl) rfl (e_luckyDays (P := P) (D := D.toNat) (q := q) (n := n.toNat) (w := w.toNat) hI.ck.2.2.2.2.2.2 h5 (by omega) (by omega) (by omega) (by omega) hI.cls) (by decide) (fun r13 h14 => ?_)
          obtain ⟨g49, q49, rfl, hS49, hC49, hF49⟩ := h14
          refine wp_eq (L' := [(2, 0), (0, D), (0, q), (0, n), (0, w)]) (st' := [(0, q49)]) (g' := g49) ?_
          exact wp_ret rfl rfl rfl ⟨_, _, rfl, Or.inr ⟨by unfold LuD; omega, hS49⟩, hC49, hF49.k⟩
        · refine wp_eq (L' := [(2, 0), (0, D), (0, q), (0, n), (0, w)]) (st' := [(0, 0)]) (g' := g) ?_
          refine wp_n 2 (pc' := 39) (L' := [(2, 0), (0, D), (0, q), (0, n), (0, w)]) (st' := [(0, (-1))]) (g' := g) rfl ?_
          exact wp_ret rfl rfl rfl ⟨_, _, rfl, Or.inl ⟨by unfold LuD; omega, rfl⟩, hI.cls, fun _ _ _ => rfl⟩
      · refine wp_eq (L' := [(2, 0), (0, D), (0, q), (0, n), (0, w)]) (st' := [(0, 0)]) (g' := g) ?_
        refine wp_n 2 (pc' := 39) (L' := [(2, 0), (0, D), (0, q), (0, n), (0, w)]) (st' := [(0, (-1))]) (g' := g) rfl ?_
        exact wp_ret rfl rfl rfl ⟨_, _, rfl, Or.inl ⟨by unfold LuD; omega, rfl⟩, hI.cls, fun _ _ _ => rfl⟩
    · refine wp_eq (L' := [(2, 0), (0, D), (0, q), (0, n), (0, w)]) (st' := [(0, 0)]) (g' := g) ?_
      refine wp_n 2 (pc' := 39) (L' := [(2, 0), (0, D), (0, q), (0, n), (0, w)]) (st' := [(0, (-1))]) (g' := g) rfl ?_
      exact wp_ret rfl rfl rfl ⟨_, _, rfl, Or.inl ⟨by unfold LuD; omega, rfl⟩, hI.cls, fun _ _ _ => rfl⟩
  · refine wp_eq (L' := [(2, 0), (0, D), (0, q), (0, n), (0, w)]) (st' := [(0, 0)]) (g' := g) ?_
    refine wp_n 2 (pc' := 39) (L' := [(2, 0), (0, D), (0, q), (0, n), (0, w)]) (st' := [(0, (-1))]) (g' := g) rfl ?_
    exact wp_ret rfl rfl rfl ⟨_, _, rfl, Or.inl ⟨by unfold LuD; omega, rfl⟩, hI.cls, fun _ _ _ => rfl⟩
set_option maxHeartbeats 2000000 in
set_option maxRecDepth 20000 in
theorem m_luck {sn : Nat} {sx : Nat → Int} {b : Nat} {g : am_G} {c : am_G} {P : Nat} {D q n w : Int} (h_D : R32 D) (h_q : R32 q) (h_n : R32 n) (h_w : R32 w) (hI : CInv P c) (hM : MRel c g) : Ev sn sx 6 242 [(2, 127), (0, D), (0, q), (0, n), (0, w)] (SH b) g (fun y => ∃ g' v, y = (some (0, v), SH b, g') ∧ LuA P D q n w v ∧ FrN g g') := by
  have h5 := hI.ck.1
  have hP : g 127 0 = (P : Int) := hM.n.trans hI.ck.2.1
  refine ev_of (K := 5) T242 (by decide) rfl rfl (Nat.le_of_ble_eq_true rfl) ?_
  refine wp_eq (L' := [(2, 127), (0, D), (0, q), (0, n), (0, w), (9, 0), (9, 0), (9, 0)]) (st' := []) (g' := g) ?_
  refine wp_n 3 (pc' := 3) (L' := [(2, 127), (0, D), (0, q), (0, n), (0, w), (9, 0), (9, 0), (9, 0)]) (st' := [(0, 4), (0, 1), (0, D)]) (g' := g) rfl ?_
  refine wp_cs (as := [(0, D), (0, 1), (0, 4)]) (rest := []) rfl (by decide) rfl (Nat.le_of_ble_eq_true rfl) (e_isIn (by omega) (by omega) (by omega)) (by decide) (fun r2 h3 => ?_)
  rcases h3 with ⟨rfl, p1⟩ | ⟨rfl, p1⟩
  · refine wp_eq (L' := [(2, 127), (0, D), (0, q), (0, n), (0, w), (9, 0), (9, 0), (9, 0)]) (st' := [(0, 1)]) (g' := g) ?_
    refine wp_n 4 (pc' := 12) (L' := [(2, 127), (0, D), (0, q), (0, n), (0, w), (9, 0), (9, 0), (9, 0)]) (st' := [(0, D), (0, 0), (0, q)]) (g' := g) rfl ?_
    refine wp_cs (as := [(0, q), (0, 0), (0, D)]) (rest := []) rfl (by decide) rfl (Nat.le_of_ble_eq_true rfl) (e_isIn (by omega) (by omega) (by omega)) (by decide) (fun r5 h6 => ?_)
    rcases h6 with ⟨rfl, p4⟩ | ⟨rfl, p4⟩
    · refine wp_eq (L' := [(2, 127), (0, D), (0, q), (0, n), (0, w), (9, 0), (9, 0), (9, 0)]) (st' := [(0, 1)]) (g' := g) ?_
      refine wp_n 4 (pc' := 22) (L' := [(2, 127), (0, D), (0, q), (0, n), (0, w), (9, 0), (9, 0), (9, 0)]) (st' := [(0, 20), (0, 1), (0, n)]) (g' := g) rfl ?_
      refine wp_cs (as := [(0, n), (0, 1), (0, 20)]) (rest := []) rfl (by decide) rfl (Nat.le_of_ble_eq_true rfl) (e_isIn (by omega) (by omega) (by omega)) (by decide) (fun r8 h9 => ?_)
      rcases h9 with ⟨rfl, p7⟩ | ⟨rfl, p7⟩
      · refine wp_eq (L' := [(2, 127), (0, D), (0, q), (0, n), (0, w), (9, 0), (9, 0), (9, 0)]) (st' := [(0, 1)]) (g' := g) ?_
        refine wp_n 4 (pc' := 32) (L' := [(2, 127), (0, D), (0, q), (0, n), (0, w), (9, 0), (9, 0), (9, 0)]) (st' := [(0, n), (0, 0), (0, w)]) (g' := g) rfl ?_
        refine wp_cs (as := [(0, w), (0, 0), (0, n)]) (rest := []) rfl (by decide) rfl (Nat.le_of_ble_eq_true rfl) (e_isIn (by omega) (by omega) (by omega)) (by decide) (fun r11 h12 => ?_)
        rcases h12 with ⟨rfl, p10⟩ | ⟨rfl, p10⟩
        · refine wp_eq (L' := [(2, 127), (0, D), (0, q), (0, n), (0, w), (9, 0), (9, 0), (9, 0)]) (st' := [(0, 1)]) (g' := g) ?_
          refine wp_n 3 (pc' := 42) (L' := [(2, 127), (0, D), (0, q), (0, n), (0, w), (9, 0), (9, 0), (9, 0)]) (st' := [(0, n), (2, 127)]) (g' := g) rfl ?_
          refine wp_eq (L' := [(2, 127), (0, D), (0, q), (0, n), (0, w), (9, 0), (9, 0), (9, 0)]) (st' := [(0, ((n.toNat : Nat) : Int)), (2, 127)]) (g' := g) ?_ (by rfl) (by rw [Int.toNat_of_nonneg (by omega)]) (by rfl)
          refine wp_n 3 (pc' := 47) (L' := [(2, 127), (0, D), (0, q), (0, n), (0, w), (9, 0), (9, 0), (9, 0)]) (st' := [(0, (g 127 0)), (0, 1), (0, ((n.toNat : Nat) : Int)), (2, 127)]) (g' := g) rfl ?_
          refine wp_eq (L' := [(2, 127), (0, D), (0, q), (0, n), (0, w), (9, 0), (9, 0), (9, 0)]) (st' := [(0, ((P : Nat) : Int)), (0, 1), (0, ((n.toNat : Nat) : Int)), (2, 127)]) (g' := g) ?_ (by rfl) (by rw [hP]) (by rfl)
          refine wp_cv (as := [(2, 127), (0, ((n.toNat : Nat) : Int)), (0, 1), (0, ((P : Nat) : Int))]) (rest := []) rfl rfl rfl (Nat.le_of_ble_eq_true rfl) rfl (m_tryAll (t := n.toNat) (by omega) (by decide) (by omega)) (by decide) (fun r13 h14 => ?_)
          obtain ⟨g47, rfl, hR47, hF47⟩ := h14
          have hu := lu_pow (n := n.toNat) (D := D.toNat) h5 (by omega) (by omega)
          have ht0 := tl_in (p := 1) (q := (P : Int) - 1) (t := n.toNat) (k := w.toNat) (by decide) (by omega) (by omega)
          rw [show 1 + ((P : Int) - 1) = (P : Int) by omega] at ht0
          have hW2 : 0 ≤ (luW P n w) ∧ (luW P n w) ≤ (P : Int) ^ n.toNat := ht0
          have hL2 : 0 ≤ ((P : Int) ^ n.toNat - luW P n w) ∧ ((P : Int) ^ n.toNat - luW P n w) ≤ (P : Int) ^ n.toNat := by omega
          have h2p : 2 ^ D.toNat ≤ 2 ^ 4 := Nat.pow_le_pow_right (by decide) (by omega)
          refine wp_eq (L' := [(2, 127), (0, D), (0, q), (0, n), (0, w), (9, 0), (9, 0), (9, 0)]) (st' := []) (g' := g47) ?_
          refine wp_n 4 (pc' := 56) (L' := [(2, 127), (0, D), (0, q), (0, n), (0, w), (9, 0), (9, 0), (9, 0)]) (st' := [(0, w), (0, 0), (0, 62), (2, 127)]) (g' := g47) rfl ?_
          refine wp_eq (L' := [(2, 127), (0, D), (0, q), (0, n), (0, w), (9, 0), (9, 0), (9, 0)]) (st' := [(0, ((w.toNat : Nat) : Int)), (0, 0), (0, 62), (2, 127)]) (g' := g47) ?_ (by rfl) (by rw [Int.toNat_of_nonneg (by omega)]) (by rfl)
          refine wp_n 1 (pc' := 57) (L' := [(2, 127), (0, D), (0, q), (0, n), (0, w), (9, 0), (9, 0), (9, 0)]) (st' := [(0, n), (0, ((w.toNat : Nat) : Int)), (0, 0), (0, 62), (2, 127)]) (g' := g47) rfl ?_
          refine wp_eq (L' := [(2, 127), (0, D), (0, q), (0, n), (0, w), (9, 0), (9, 0), (9, 0)]) (st' := [(0, (((n.toNat + 1 : Nat) : Int) - 1)), (0, ((w.toNat : Nat) : Int)), (0, 0), (0, 62), (2, 127)]) (g' := g47) ?_ (by rfl) (by rw [show (((n.toNat + 1 : Nat) : Int) - 1) = n by omega]) (by rfl)
          refine wp_cv (as := [(2, 127), (0, 62), (0, 0), (0, ((w.toNat : Nat) : Int)), (0, (((n.toNat + 1 : Nat) : Int) - 1))]) (rest := []) rfl rfl rfl (Nat.le_of_ble_eq_true rfl) rfl (m_sum (r := 62) (f := 0) (u := w.toNat) (v := (n.toNat + 1)) (t := n.toNat) (by omega) (by omega) (by omega) (by omega) (by omega) (by omega) (by decide) (show 0 ≤ (P : Int) - 1 by omega) (by omega) hR47) (by decide) (fun r15 h16 => ?_)
          obtain ⟨g57, rfl, hR57, hF57⟩ := h16
          have hB57 := hR47.fr hF57 (by omega)
          refine wp_eq (L' := [(2, 127), (0, D), (0, q), (0, n), (0, w), (9, 0), (9, 0), (9, 0)]) (st' := []) (g' := g57) ?_
          refine wp_n 5 (pc' := 67) (L' := [(2, 127), (0, D), (0, q), (0, n), (0, w), (9, 0), (9, 0), (9, 0)]) (st' := [(0, w), (0, 0), (0, 0), (0, 63), (2, 127)]) (g' := g57) rfl ?_
          refine wp_eq (L' := [(2, 127), (0, D), (0, q), (0, n), (0, w), (9, 0), (9, 0), (9, 0)]) (st' := [(0, ((w.toNat : Nat) : Int)), (0, 0), (0, 0), (0, 63), (2, 127)]) (g' := g57) ?_ (by rfl) (by rw [Int.toNat_of_nonneg (by omega)]) (by rfl)
          refine wp_n 2 (pc' := 69) (L' := [(2, 127), (0, D), (0, q), (0, n), (0, w), (9, 0), (9, 0), (9, 0)]) (st' := [(0, (((w.toNat : Nat) : Int) - 1)), (0, 0), (0, 0), (0, 63), (2, 127)]) (g' := g57) rfl ?_
          refine wp_cv (as := [(2, 127), (0, 63), (0, 0), (0, 0), (0, (((w.toNat : Nat) : Int) - 1))]) (rest := []) rfl rfl rfl (Nat.le_of_ble_eq_true rfl) rfl (m_sum (r := 63) (f := 0) (u := 0) (v := w.toNat) (t := n.toNat) (by omega) (by omega) (by omega) (by omega) (by omega) (by omega) (by decide) (show 0 ≤ (P : Int) - 1 by omega) (by omega) hB57) (by decide) (fun r17 h18 => ?_)
          obtain ⟨g69, rfl, hR69, hF69⟩ := h18
          have e69 : ps (bt 1 ((P : Int) - 1) n.toNat) w.toNat - ps (bt 1 ((P : Int) - 1) n.toNat) 0 = ((P : Int) ^ n.toNat - luW P n w) := by
            have := tl_0 1 ((P : Int) - 1) n.toNat
            rw [show 1 + ((P : Int) - 1) = (P : Int) by omega] at this
            unfold luW tl at *
            omega
          rw [e69] at hR69
          refine wp_eq (L' := [(2, 127), (0, D), (0, q), (0, n), (0, w), (9, 0), (9, 0), (9, 0)]) (st' := []) (g' := g69) ?_
          refine wp_n 3 (pc' := 76) (L' := [(2, 127), (0, D), (0, q), (0, n), (0, w), (9, 0), (9, 0), (9, 0)]) (st' := [(0, 0), (0, 124), (2, 127)]) (g' := g69) rfl ?_
          refine wp_cv (as := [(2, 127), (0, 124), (0, 0)]) (rest := []) rfl rfl rfl (Nat.le_of_ble_eq_true rfl) rfl (m_put (r := 124) (by omega) (by omega)) (by decide) (fun r19 h20 => ?_)
          obtain ⟨g76, rfl, hR76, hF76⟩ := h20
          refine wp_eq (L' := [(2, 127), (0, D), (0, q), (0, n), (0, w), (9, 0), (9, 0), (9, 0)]) (st' := []) (g' := g76) ?_
          refine wp_n 2 (pc' := 82) (L' := [(2, 127), (0, D), (0, q), (0, n), (0, w), (0, 0), (9, 0), (9, 0)]) (st' := []) (g' := g76) rfl ?_
          have L82 : ∀ (lf : Nat) (s : Nat) (h : am_G) (w6 w7 : am_V), 2 ^ D.toNat - s < lf → (s ≤ 2 ^ D.toNat) → (MR h 62 (luW P n w)) → (MR h 63 ((P : Int) ^ n.toNat - luW P n w)) → (MR h 124 (lrS (luF (luW P n w) ((P : Int) ^ n.toNat - luW P n w) D.toNat q) D.toNat s)) → (FrN g h) → Wp sn sx 5 T242 82 [(2, 127), (0, D), (0, q), (0, n), (0, w), (0, ((s : Nat) : Int)), w6, w7] [] (SH b) h (fun y => ∃ g' v, y = (some (0, v), SH b, g') ∧ LuA P D q n w v ∧ FrN g g') := by
            intro lf
            induction lf with
            | zero => intro s h w6 w7 hlf; exact absurd hlf (Nat.not_lt_zero _)
            | succ lf ih82 =>
              intro s h w6 w7 hlf hs h62 h63 hA hF
              refine wp_n 4 (pc' := 87) (L' := [(2, 127), (0, D), (0, q), (0, n), (0, w), (0, ((s : Nat) : Int)), w6, w7]) (st' := [(0, (Int32.ofInt 1 <<< (Int32.ofInt D &&& 31)).toInt), (0, ((s : Nat) : Int))]) (g' := h) rfl ?_
              refine wp_eq (L' := [(2, 127), (0, D), (0, q), (0, n), (0, w), (0, ((s : Nat) : Int)), w6, w7]) (st' := [(0, (((2 ^ D.toNat) : Nat) : Int)), (0, ((s : Nat) : Int))]) (g' := h) ?_ (by rfl) (by rw [shl_1 (by omega)]) (by rfl)
              refine wp_ic_ge rfl (fun c21 => ?_) (fun c21 => ?_)
              · have hk2 : 2 ^ D.toNat = s := by omega
                refine wp_n 4 (pc' := 209) (L' := [(2, 127), (0, D), (0, q), (0, n), (0, w), (0, ((s : Nat) : Int)), w6, w7]) (st' := [(0, (h 127 0)), (0, 125), (2, 127)]) (g' := h) rfl ?_
                refine wp_eq (L' := [(2, 127), (0, D), (0, q), (0, n), (0, w), (0, ((s : Nat) : Int)), w6, w7]) (st' := [(0, ((P : Nat) : Int)), (0, 125), (2, 127)]) (g' := h) ?_ (by rfl) (by rw [hF 127 0 (by unfold Sm; omega), hP]) (by rfl)
                refine wp_n 3 (pc' := 212) (L' := [(2, 127), (0, D), (0, q), (0, n), (0, w), (0, ((s : Nat) : Int)), w6, w7]) (st' := [(0, (n * D)), (0, ((P : Nat) : Int)), (0, 125), (2, 127)]) (g' := h) rfl ?_
                refine wp_eq (L' := [(2, 127), (0, D), (0, q), (0, n), (0, w), (0, ((s : Nat) : Int)), w6, w7]) (st' := [(0, (((n.toNat * D.toNat) : Nat) : Int)), (0, ((P : Nat) : Int)), (0, 125), (2, 127)]) (g' := h) ?_ (by rfl) (by rw [Int.natCast_mul, show ((n.toNat : Nat) : Int) = n by omega, show ((D.toNat : Nat) : Int) = D by omega]) (by rfl)
                refine wp_cv (as := [(2, 127), (0, 125), (0, ((P : Nat) : Int)), (0, (((n.toNat * D.toNat) : Nat) : Int))]) (rest := []) rfl rfl rfl (Nat.le_of_ble_eq_true rfl) rfl (m_power (r := 125) (n := ((n.toNat * D.toNat))) (by omega) (by have := Nat.mul_le_mul (show n.toNat ≤ 20 by omega) (show D.toNat ≤ 4 by omega); omega) (by omega) (by rw [Int.pow_mul]; omega)) (by decide) (fun r22 h23 => ?_)
                obtain ⟨g212, rfl, hR212, hF212⟩ := h23
                rw [Int.pow_mul] at hR212
                have hsb := lrS_in hW2 hL2 hu.1 (D := D.toNat) (q := q) s
                have hsb2 := Int.mul_le_mul_of_nonneg_left (show (s : Int) ≤ 16 by omega) (show 0 ≤ ((P : Int) ^ n.toNat) ^ D.toNat by omega)
                refine wp_eq (L' := [(2, 127), (0, D), (0, q), (0, n), (0, w), (0, ((s : Nat) : Int)), w6, w7]) (st' := []) (g' := g212) ?_
                refine wp_n 1 (pc' := 216) (L' := [(2, 127), (0, D), (0, q), (0, n), (0, w), (0, ((s : Nat) : Int)), w6, w7]) (st' := [(2, 127)]) (g' := g212) rfl ?_
                refine wp_cv (as := [(2, 127)]) (rest := []) rfl rfl rfl (Nat.le_of_ble_eq_true rfl) rfl (m_millionths (hA.fr hF212 (by decide)) hR212 (by omega) (by omega)) (by decide) (fun r24 h25 => ?_)
                obtain ⟨g216, q216, rfl, hI216, hF216⟩ := h25
                rw [← hk2, lr_lu _ (by omega)] at hI216
                refine wp_eq (L' := [(2, 127), (0, D), (0, q), (0, n), (0, w), (0, ((s : Nat) : Int)), w6, w7]) (st' := [(0, q216)]) (g' := g216) ?_
                exact wp_ret rfl rfl rfl ⟨_, _, rfl, Or.inr ⟨by unfold LuD; omega, ⟨hI216.1, hI216.2.1, hI216.2.2.1, hI216.2.2.2⟩⟩, (hF.m hF212).r hF216⟩
              · have hs16 : s < 16 := by omega
                refine wp_n 4 (pc' := 96) (L' := [(2, 127), (0, D), (0, q), (0, n), (0, w), (0, ((s : Nat) : Int)), (0, 0), (0, 0)]) (st' := []) (g' := h) rfl ?_
                have L96 : ∀ (lf : Nat) (k : Nat), D.toNat - k < lf → (k ≤ D.toNat) → Wp sn sx 5 T242 96 [(2, 127), (0, D), (0, q), (0, n), (0, w), (0, ((s : Nat) : Int)), (0, (((lpc s k) : Nat) : Int)), (0, ((k : Nat) : Int))] [] (SH b) h (fun y => ∃ g' v, y = (some (0, v), SH b, g') ∧ LuA P D q n w v ∧ FrN g g') := by
                  intro lf
                  induction lf with
                  | zero => intro k hlf; exact absurd hlf (Nat.not_lt_zero _)
                  | succ lf ih96 =>
                    intro k hlf hk
                    have hlc := lpc_le s k
                    refine wp_n 2 (pc' := 99) (L' := [(2, 127), (0, D), (0, q), (0, n), (0, w), (0, ((s : Nat) : Int)), (0, (((lpc s k) : Nat) : Int)), (0, ((k : Nat) : Int))]) (st' := [(0, D), (0, ((k : Nat) : Int))]) (g' := h) rfl ?_
                    refine wp_ic_ge rfl (fun c26 => ?_) (fun c26 => ?_)
                    · have hk3 : k = D.toNat := by omega
                      have hk4 : lpc s k = lpc s D.toNat := by rw [hk3]
                      have hsb := lrS_in hW2 hL2 hu.1 (D := D.toNat) (q := q) s
                      have hsb2 := Int.mul_le_mul_of_nonneg_left (show (s : Int) ≤ 16 by omega) (show 0 ≤ ((P : Int) ^ n.toNat) ^ D.toNat by omega)
                      refine wp_n 2 (pc' := 123) (L' := [(2, 127), (0, D), (0, q), (0, n), (0, w), (0, ((s : Nat) : Int)), (0, (((lpc s k) : Nat) : Int)), (0, ((k : Nat) : Int))]) (st' := [(0, q), (0, (((lpc s k) : Nat) : Int))]) (g' := h) rfl ?_
                      refine wp_ic_ge rfl (fun c27 => ?_) (fun c27 => ?_)
                      · have hle : luF (luW P n w) ((P : Int) ^ n.toNat - luW P n w) D.toNat q (lpc s D.toNat) = lpr (luW P n w) ((P : Int) ^ n.toNat - luW P n w) s D.toNat := by unfold luF; rw [if_neg (by omega), lpr_p]
                        refine wp_n 3 (pc' := 133) (L' := [(2, 127), (0, D), (0, q), (0, n), (0, w), (0, ((s : Nat) : Int)), (0, (((lpc s k) : Nat) : Int)), (0, ((k : Nat) : Int))]) (st' := [(0, 1), (0, 127), (2, 127)]) (g' := h) rfl ?_
                        refine wp_cv (as := [(2, 127), (0, 127), (0, 1)]) (rest := []) rfl rfl rfl (Nat.le_of_ble_eq_true rfl) rfl (m_put (r := 127) (by omega) (by omega)) (by decide) (fun r28 h29 => ?_)
                        obtain ⟨g133, rfl, hR133, hF133⟩ := h29
                        refine wp_eq (L' := [(2, 127), (0, D), (0, q), (0, n), (0, w), (0, ((s : Nat) : Int)), (0, (((lpc s k) : Nat) : Int)), (0, ((k : Nat) : Int))]) (st' := []) (g' := g133) ?_
                        refine wp_n 2 (pc' := 139) (L' := [(2, 127), (0, D), (0, q), (0, n), (0, w), (0, ((s : Nat) : Int)), (0, (((lpc s k) : Nat) : Int)), (0, 0)]) (st' := []) (g' := g133) rfl ?_
                        have L139 : ∀ (lf : Nat) (m : Nat) (f : am_G), D.toNat - m < lf → (m ≤ D.toNat) → (MR f 127 (lpr (luW P n w) ((P : Int) ^ n.toNat - luW P n w) s m)) → (MR f 62 (luW P n w)) → (MR f 63 ((P : Int) ^ n.toNat - luW P n w)) → (MR f 124 (lrS (luF (luW P n w) ((P : Int) ^ n.toNat - luW P n w) D.toNat q) D.toNat s)) → (FrN g f) → Wp sn sx 5 T242 139 [(2, 127), (0, D), (0, q), (0, n), (0, w), (0, ((s : Nat) : Int)), (0, (((lpc s k) : Nat) : Int)), (0, ((m : Nat) : Int))] [] (SH b) f (fun y => ∃ g' v, y = (some (0, v), SH b, g') ∧ LuA P D q n w v ∧ FrN g g') := by
                          intro lf
                          induction lf with
                          | zero => intro m f hlf; exact absurd hlf (Nat.not_lt_zero _)
                          | succ lf ih139 =>
                            intro m f hlf hk hp k62 k63 kA kF
                            refine wp_n 2 (pc' := 142) (L' := [(2, 127), (0, D), (0, q), (0, n), (0, w), (0, ((s : Nat) : Int)), (0, (((lpc s k) : Nat) : Int)), (0, ((m : Nat) : Int))]) (st' := [(0, D), (0, ((m : Nat) : Int))]) (g' := f) rfl ?_
                            refine wp_ic_ge rfl (fun c30 => ?_) (fun c30 => ?_)
                            · have hk5 : m = D.toNat := by omega
                              rw [hk5] at hp
                              have hpi := lpr_in hW2 hL2 hu.1 s D.toNat
                              refine wp_n 4 (pc' := 193) (L' := [(2, 127), (0, D), (0, q), (0, n), (0, w), (0, ((s : Nat) : Int)), (0, (((lpc s k) : Nat) : Int)), (0, ((m : Nat) : Int))]) (st' := [(0, 1), (0, 127), (0, 124), (2, 127)]) (g' := f) rfl ?_
                              refine wp_cv (as := [(2, 127), (0, 124), (0, 127), (0, 1)]) (rest := []) rfl rfl rfl (Nat.le_of_ble_eq_true rfl) rfl (m_add (r := 124) (s := 127) (by omega) (by omega) (by omega) kA hp (by omega) (by omega)) (by decide) (fun r31 h32 => ?_)
                              obtain ⟨g193, rfl, hR193, hF193⟩ := h32
                              refine wp_eq (L' := [(2, 127), (0, D), (0, q), (0, n), (0, w), (0, ((s : Nat) : Int)), (0, (((lpc s k) : Nat) : Int)), (0, ((m : Nat) : Int))]) (st' := []) (g' := g193) ?_
                              refine wp_n 2 (pc' := 82) (L' := [(2, 127), (0, D), (0, q), (0, n), (0, w), (0, (((s : Nat) : Int) + 1)), (0, (((lpc s k) : Nat) : Int)), (0, ((m : Nat) : Int))]) (st' := []) (g' := g193) rfl ?_
                              refine wp_eq (ih82 (s + 1) (g193) ((0, (((lpc s k) : Nat) : Int))) ((0, ((m : Nat) : Int))) ?_ ?_ ?_ ?_ ?_ ?_) (by first | rfl | (simp; done) | (simp; omega)) (by rfl) (by rfl)
                              · omega
                              · omega
                              · first | exact h62 | exact k62.fr hF193 (by decide)
                              · first | exact h63 | exact k63.fr hF193 (by decide)
                              · first
                                | (rw [lrS_s, show luF (luW P n w) ((P : Int) ^ n.toNat - luW P n w) D.toNat q (lpc s D.toNat) = 0 by unfold luF; rw [if_pos hlq], Int.add_zero]; exact hA)
                                | (rw [lrS_s, hle]; rw [Int.mul_one] at hR193; exact hR193)
                              · first | exact hF | exact kF.m hF193
                            · have hpi := lpr_in hW2 hL2 hu.1 s m
                              have hpj := pow_lex (show 0 ≤ (P : Int) ^ n.toNat by omega) (show (P : Int) ^ n.toNat ≤ 37 ^ 20 by omega) m
                              have hpk : ((37 : Int) ^ 20) ^ m ≤ (37 ^ 20) ^ 4 := pow_up (by decide) (by omega)
                              have hm1 := Int.mul_le_mul (Int.le_trans hpi.2 (Int.le_trans hpj hpk)) (Int.le_trans hW2.2 hu.2.1) hW2.1 (by decide)
                              have hm2 := Int.mul_le_mul (Int.le_trans hpi.2 (Int.le_trans hpj hpk)) (Int.le_trans hL2.2 hu.2.1) hL2.1 (by decide)
                              refine wp_n 7 (pc' := 155) (L' := [(2, 127), (0, D), (0, q), (0, n), (0, w), (0, ((s : Nat) : Int)), (0, (((lpc s k) : Nat) : Int)), (0, ((m : Nat) : Int))]) (st' := [(0, (Int32.ofInt (Int32.ofInt ((s : Nat) : Int) >>> (Int32.ofInt ((m : Nat) : Int) &&& 31)).toInt &&& Int32.ofInt 1).toInt), (0, 127), (2, 127)]) (g' := f) rfl ?_
                              refine wp_eq (L' := [(2, 127), (0, D), (0, q), (0, n), (0, w), (0, ((s : Nat) : Int)), (0, (((lpc s k) : Nat) : Int)), (0, ((m : Nat) : Int))]) (st' := [(0, (((s / 2 ^ m % 2) : Nat) : Int)), (0, 127), (2, 127)]) (g' := f) ?_ (by rfl) (by rw [shr_b (by omega) (by omega)]) (by rfl)
                              refine wp_n 1 (pc' := 156) (L' := [(2, 127), (0, D), (0, q), (0, n), (0, w), (0, ((s : Nat) : Int)), (0, (((lpc s k) : Nat) : Int)), (0, ((m : Nat) : Int))]) (st' := [(0, 1), (0, (((s / 2 ^ m % 2) : Nat) : Int)), (0, 127), (2, 127)]) (g' := f) rfl ?_
                              refine wp_ic_ne rfl (fun c33 => ?_) (fun c33 => ?_)
                              · have hb : ¬ s / 2 ^ m % 2 = 1 := by omega
                                refine wp_n 2 (pc' := 169) (L' := [(2, 127), (0, D), (0, q), (0, n), (0, w), (0, ((s : Nat) : Int)), (0, (((lpc s k) : Nat) : Int)), (0, ((m : Nat) : Int))]) (st' := [(0, 128), (0, 63), (0, 127), (2, 127)]) (g' := f) rfl ?_
                                refine wp_cv (as := [(2, 127), (0, 127), (0, 63), (0, 128)]) (rest := []) rfl rfl rfl (Nat.le_of_ble_eq_true rfl) rfl (m_product (r := 127) (s := 63) (t := 128) (by omega) (by omega) (by omega) (by omega) (by omega) hp (by assumption) (by omega)) (by decide) (fun r34 h35 => ?_)
                                obtain ⟨g169, rfl, hR169, hF169⟩ := h35
                                refine wp_eq (L' := [(2, 127), (0, D), (0, q), (0, n), (0, w), (0, ((s : Nat) : Int)), (0, (((lpc s k) : Nat) : Int)), (0, ((m : Nat) : Int))]) (st' := []) (g' := g169) ?_
                                refine wp_n 3 (pc' := 178) (L' := [(2, 127), (0, D), (0, q), (0, n), (0, w), (0, ((s : Nat) : Int)), (0, (((lpc s k) : Nat) : Int)), (0, ((m : Nat) : Int))]) (st' := [(0, 127), (0, 128), (2, 127)]) (g' := g169) rfl ?_
                                refine wp_cv (as := [(2, 127), (0, 128), (0, 127)]) (rest := []) rfl rfl rfl (Nat.le_of_ble_eq_true rfl) rfl (m_lay (s := 128) (r := 127) (by omega) (by omega) (by omega) hR169) (by decide) (fun r36 h37 => ?_)
                                obtain ⟨g178, rfl, hR178, hF178⟩ := h37
                                refine wp_eq (L' := [(2, 127), (0, D), (0, q), (0, n), (0, w), (0, ((s : Nat) : Int)), (0, (((lpc s k) : Nat) : Int)), (0, ((m : Nat) : Int))]) (st' := []) (g' := g178) ?_
                                refine wp_n 2 (pc' := 139) (L' := [(2, 127), (0, D), (0, q), (0, n), (0, w), (0, ((s : Nat) : Int)), (0, (((lpc s k) : Nat) : Int)), (0, (((m : Nat) : Int) + 1))]) (st' := []) (g' := g178) rfl ?_
                                refine wp_eq (ih139 (m + 1) (g178) ?_ ?_ ?_ ?_ ?_ ?_ ?_) (by first | rfl | (simp; done) | (simp; omega)) (by rfl) (by rfl)
                                · omega
                                · omega
                                · first | (rw [lpr_s, if_pos hb]; exact hR178) | (rw [lpr_s, if_neg hb]; exact hR178)
                                · exact (k62.fr hF169 (by decide)).fr hF178 (by decide)
                                · exact (k63.fr hF169 (by decide)).fr hF178 (by decide)
                                · exact (kA.fr hF169 (by decide)).fr hF178 (by decide)
                                · exact (kF.m hF169).m hF178
                              · have hb : s / 2 ^ m % 2 = 1 := by omega
                                refine wp_n 3 (pc' := 169) (L' := [(2, 127), (0, D), (0, q), (0, n), (0, w), (0, ((s : Nat) : Int)), (0, (((lpc s k) : Nat) : Int)), (0, ((m : Nat) : Int))]) (st' := [(0, 128), (0, 62), (0, 127), (2, 127)]) (g' := f) rfl ?_
                                refine wp_cv (as := [(2, 127), (0, 127), (0, 62), (0, 128)]) (rest := []) rfl rfl rfl (Nat.le_of_ble_eq_true rfl) rfl (m_product (r := 127) (s := 62) (t := 128) (by omega) (by omega) (by omega) (by omega) (by omega) hp (by assumption) (by omega)) (by decide) (fun r38 h39 => ?_)
                                obtain ⟨g169, rfl, hR169, hF169⟩ := h39
                                refine wp_eq (L' := [(2, 127), (0, D), (0, q), (0, n), (0, w), (0, ((s : Nat) : Int)), (0, (((lpc s k) : Nat) : Int)), (0, ((m : Nat) : Int))]) (st' := []) (g' := g169) ?_
                                refine wp_n 3 (pc' := 178) (L' := [(2, 127), (0, D), (0, q), (0, n), (0, w), (0, ((s : Nat) : Int)), (0, (((lpc s k) : Nat) : Int)), (0, ((m : Nat) : Int))]) (st' := [(0, 127), (0, 128), (2, 127)]) (g' := g169) rfl ?_
                                refine wp_cv (as := [(2, 127), (0, 128), (0, 127)]) (rest := []) rfl rfl rfl (Nat.le_of_ble_eq_true rfl) rfl (m_lay (s := 128) (r := 127) (by omega) (by omega) (by omega) hR169) (by decide) (fun r40 h41 => ?_)
                                obtain ⟨g178, rfl, hR178, hF178⟩ := h41
                                refine wp_eq (L' := [(2, 127), (0, D), (0, q), (0, n), (0, w), (0, ((s : Nat) : Int)), (0, (((lpc s k) : Nat) : Int)), (0, ((m : Nat) : Int))]) (st' := []) (g' := g178) ?_
                                refine wp_n 2 (pc' := 139) (L' := [(2, 127), (0, D), (0, q), (0, n), (0, w), (0, ((s : Nat) : Int)), (0, (((lpc s k) : Nat) : Int)), (0, (((m : Nat) : Int) + 1))]) (st' := []) (g' := g178) rfl ?_
                                refine wp_eq (ih139 (m + 1) (g178) ?_ ?_ ?_ ?_ ?_ ?_ ?_) (by first | rfl | (simp; done) | (simp; omega)) (by rfl) (by rfl)
                                · omega
                                · omega
                                · first | (rw [lpr_s, if_pos hb]; exact hR178) | (rw [lpr_s, if_neg hb]; exact hR178)
                                · exact (k62.fr hF169 (by decide)).fr hF178 (by decide)
                                · exact (k63.fr hF169 (by decide)).fr hF178 (by decide)
                                · exact (kA.fr hF169 (by decide)).fr hF178 (by decide)
                                · exact (kF.m hF169).m hF178
                        refine wp_eq (L139 (_ + 1) (0) (g133) (Nat.lt_succ_self _) ?_ ?_ ?_ ?_ ?_ ?_) (by first | rfl | (simp; done) | (simp; omega)) (by rfl) (by rfl)
                        · exact Nat.zero_le _
                        · exact hR133
                        · exact h62.fr hF133 (by decide)
                        · exact h63.fr hF133 (by decide)
                        · exact hA.fr hF133 (by decide)
                        · exact hF.m hF133
                      · have hlq : ((lpc s D.toNat : Nat) : Int) < q := by omega
                        refine wp_n 3 (pc' := 82) (L' := [(2, 127), (0, D), (0, q), (0, n), (0, w), (0, (((s : Nat) : Int) + 1)), (0, (((lpc s k) : Nat) : Int)), (0, ((k : Nat) : Int))]) (st' := []) (g' := h) rfl ?_
                        refine wp_eq (ih82 (s + 1) (h) ((0, (((lpc s k) : Nat) : Int))) ((0, ((k : Nat) : Int))) ?_ ?_ ?_ ?_ ?_ ?_) (by first | rfl | (simp; done) | (simp; omega)) (by rfl) (by rfl)
                        · omega
                        · omega
                        · first | exact h62 | exact k62.fr hF193 (by decide)
                        · first | exact h63 | exact k63.fr hF193 (by decide)
                        · first
                          | (rw [lrS_s, show luF (luW P n w) ((P : Int) ^ n.toNat - luW P n w) D.toNat q (lpc s D.toNat) = 0 by unfold luF; rw [if_pos hlq], Int.add_zero]; exact hA)
                          | (rw [lrS_s, hle]; rw [Int.mul_one] at hR193; exact hR193)
                        · first | exact hF | exact kF.m hF193
                    · refine wp_n 6 (pc' := 111) (L' := [(2, 127), (0, D), (0, q), (0, n), (0, w), (0, ((s : Nat) : Int)), (0, (((lpc s k) : Nat) : Int)), (0, ((k : Nat) : Int))]) (st' := [(0, (Int32.ofInt (Int32.ofInt ((s : Nat) : Int) >>> (Int32.ofInt ((k : Nat) : Int) &&& 31)).toInt &&& Int32.ofInt 1).toInt), (0, (((lpc s k) : Nat) : Int))]) (g' := h) rfl ?_
                      refine wp_eq (L' := [(2, 127), (0, D), (0, q), (0, n), (0, w), (0, ((s : Nat) : Int)), (0, (((lpc s k) : Nat) : Int)), (0, ((k : Nat) : Int))]) (st' := [(0, (((s / 2 ^ k % 2) : Nat) : Int)), (0, (((lpc s k) : Nat) : Int))]) (g' := h) ?_ (by rfl) (by rw [shr_b (by omega) (by omega)]) (by rfl)
                      refine wp_n 4 (pc' := 96) (L' := [(2, 127), (0, D), (0, q), (0, n), (0, w), (0, ((s : Nat) : Int)), (0, ((((lpc s k) : Nat) : Int) + (((s / 2 ^ k % 2) : Nat) : Int))), (0, (((k : Nat) : Int) + 1))]) (st' := []) (g' := h) rfl ?_
                      refine wp_eq (ih96 (k + 1) ?_ ?_) (by rw [lpc_s]; rfl) (by rfl) (by rfl)
                      · omega
                      · omega
                refine wp_eq (L96 (_ + 1) (0) (Nat.lt_succ_self _) ?_) (by first | rfl | (simp; done) | (simp; omega)) (by rfl) (by rfl)
                · exact Nat.zero_le _
          refine wp_eq (L82 (_ + 1) (0) (g76) ((9, 0)) ((9, 0)) (Nat.lt_succ_self _) ?_ ?_ ?_ ?_ ?_) (by first | rfl | (simp; done) | (simp; omega)) (by rfl) (by rfl)
          · exact Nat.zero_le _
          · exact (hR57.fr hF69 (by decide)).fr hF76 (by decide)
          · exact hR69.fr hF76 (by decide)
          · exact hR76
          · exact (((FrN.rfl.r hF47).m hF57).m hF69).m hF76
        · refine wp_eq (L' := [(2, 127), (0, D), (0, q), (0, n), (0, w), (9, 0), (9, 0), (9, 0)]) (st' := [(0, 0)]) (g' := g) ?_
          refine wp_n 2 (pc' := 39) (L' := [(2, 127), (0, D), (0, q), (0, n), (0, w), (9, 0), (9, 0), (9, 0)]) (st' := [(0, (-1))]) (g' := g) rfl ?_
          exact wp_ret rfl rfl rfl ⟨_, _, rfl, Or.inl ⟨by unfold LuD; omega, rfl⟩, FrN.rfl⟩
      · refine wp_eq (L' := [(2, 127), (0, D), (0, q), (0, n), (0, w), (9, 0), (9, 0), (9, 0)]) (st' := [(0, 0)]) (g' := g) ?_
        refine wp_n 2 (pc' := 39) (L' := [(2, 127), (0, D), (0, q), (0, n), (0, w), (9, 0), (9, 0), (9, 0)]) (st' := [(0, (-1))]) (g' := g) rfl ?_
        exact wp_ret rfl rfl rfl ⟨_, _, rfl, Or.inl ⟨by unfold LuD; omega, rfl⟩, FrN.rfl⟩
    · refine wp_eq (L' := [(2, 127), (0, D), (0, q), (0, n), (0, w), (9, 0), (9, 0), (9, 0)]) (st' := [(0, 0)]) (g' := g) ?_
      refine wp_n 2 (pc' := 39) (L' := [(2, 127), (0, D), (0, q), (0, n), (0, w), (9, 0), (9, 0), (9, 0)]) (st' := [(0, (-1))]) (g' := g) rfl ?_
      exact wp_ret rfl rfl rfl ⟨_, _, rfl, Or.inl ⟨by unfold LuD; omega, rfl⟩, FrN.rfl⟩
  · refine wp_eq (L' := [(2, 127), (0, D), (0, q), (0, n), (0, w), (9, 0), (9, 0), (9, 0)]) (st' := [(0, 0)]) (g' := g) ?_
    refine wp_n 2 (pc' := 39) (L' := [(2, 127), (0, D), (0, q), (0, n), (0, w), (9, 0), (9, 0), (9, 0)]) (st' := [(0, (-1))]) (g' := g) rfl ?_
    exact wp_ret rfl rfl rfl ⟨_, _, rfl, Or.inl ⟨by unfold LuD; omega, rfl⟩, FrN.rfl⟩
theorem C_luck {sn : Nat} {sx : Nat → Int} {b : Nat} {g : am_G} {P : Nat} {D q n w : Int} (h_D : R32 D) (h_q : R32 q) (h_n : R32 n) (h_w : R32 w) (hI : CInv P g) : Ev sn sx 7 121 [(2, 0), (0, D), (0, q), (0, n), (0, w)] (SH b) g (CPost P g (fun c1 v1 => LuA P D q n w v1 ∧ CoE g c1)) := (e_luck h_D h_q h_n h_w hI).mono fun r hh => cpost_k (A := LuA P D q n w) hI hh
theorem M_luck {sn : Nat} {sx : Nat → Int} {b : Nat} {g c : am_G} {P : Nat} {D q n w : Int} (h_D : R32 D) (h_q : R32 q) (h_n : R32 n) (h_w : R32 w) (hI : CInv P c) (hM : MRel c g) : Ev sn sx 6 242 [(2, 127), (0, D), (0, q), (0, n), (0, w)] (SH b) g (MPost b g (fun c1 v1 => LuA P D q n w v1 ∧ CoE c c1)) := (m_luck h_D h_q h_n h_w hI hM).mono fun r hh => mpost_n (A := LuA P D q n w) hM (fun _ _ => LuA.uniq hI.ck.1.1) hh
