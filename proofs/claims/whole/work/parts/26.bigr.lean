/-! NUMBERS IN LIMBS OF 31 BITS: a copy, a product, a share -/
theorem big_cp {g : am_G} {k a m : Nat} {w : Int} (hA : BigW g a m w) (hL : BigL g k) (hd : Dj k a) : BigW (am_cp (am_up g k 1 (m : Int)) (a + 1) 0 (k + 1) 0 m) k m w ∧ FrB k g (am_cp (am_up g k 1 (m : Int)) (a + 1) 0 (k + 1) 0 m) := by
  obtain ⟨e1, e2, e3, e4⟩ := hA
  have hc : ∀ j, am_cp (am_up g k 1 (m : Int)) (a + 1) 0 (k + 1) 0 m (k + 1) j = if j < m then g (a + 1) j else g (k + 1) j := by
    intro j
    unfold am_cp
    rw [if_pos rfl]
    by_cases hj : j < m
    · rw [if_pos hj, if_pos ⟨Nat.zero_le _, by omega⟩, up_ne (by omega), Nat.zero_add, Nat.sub_zero]
    · rw [if_neg hj, if_neg (by omega), up_ne (by omega)]
  have hn : ∀ c j, c ≠ k + 1 → am_cp (am_up g k 1 (m : Int)) (a + 1) 0 (k + 1) 0 m c j = am_up g k 1 (m : Int) c j := by
    intro c j h
    unfold am_cp
    rw [if_neg h]
  refine ⟨⟨?_, e2, ?_, ?_⟩, ?_⟩
  · rw [hn _ _ (by omega), up_eq]
  · intro j hj
    rw [hc]
    split
    · exact e3 j hj
    · exact hL j hj
  · rw [← e4]
    refine bval_eq fun j hj => ?_
    rw [hc, if_pos hj]
  · intro c j h1 h2
    rw [hn _ _ h2, up_ne h1]
theorem bval_mono {f : Nat → Int} {i n : Nat} (h : ∀ j, j < n → 0 ≤ f j ∧ f j < 2147483648) (hi : i ≤ n) : bval f i ≤ bval f n := by
  induction n with
  | zero =>
    obtain rfl : i = 0 := by omega
    exact Int.le_refl _
  | succ n ih =>
    by_cases e : i = n + 1
    · subst e; exact Int.le_refl _
    · rw [bval_suc]
      have := ih (fun j hj => h j (by omega)) (by omega)
      have h2 := Int.mul_nonneg (h n (by omega)).1 (Int.le_of_lt (b_pos n))
      omega
def XI (k : Nat) (F : Nat → Int) (x : Int) (i gr : Nat) (h0 h : am_G) (j : Nat) (c : Int) : Prop := i + j ≤ gr ∧ (0 ≤ c ∧ c < 2147483648) ∧ FrA (k + 1) h0 h ∧ (∀ q, i + j ≤ q → h (k + 1) q = h0 (k + 1) q) ∧ BigL h k ∧ bval (h (k + 1)) (i + j) + c * 2147483648 ^ (i + j) = bval (h0 (k + 1)) (i + j) + x * 2147483648 ^ i * bval F j
theorem xi_v {x f l c : Int} (hx : 0 ≤ x ∧ x < 2147483648) (hf : 0 ≤ f ∧ f < 2147483648) (hl : 0 ≤ l ∧ l < 2147483648) (hc : 0 ≤ c ∧ c < 2147483648) : 0 ≤ x * f ∧ 0 ≤ x * f + l + c ∧ x * f + l + c < 2147483648 * 2147483648 := by
  have h1 := Int.mul_nonneg hx.1 hf.1
  have h2 := Int.mul_le_mul (show x ≤ 2147483647 by omega) (show f ≤ 2147483647 by omega) hf.1 (by decide)
  omega
theorem xi_zero {k : Nat} {F : Nat → Int} {x : Int} {i gr : Nat} {h : am_G} (hL : BigL h k) (hi : i ≤ gr) : XI k F x i gr h h 0 0 := ⟨by omega, by decide, fun _ _ _ => rfl, fun _ _ => rfl, hL, by show _ + 0 * _ = _ + _ * 0; rw [Int.zero_mul, Int.mul_zero]⟩
theorem xi_alg {P S q1 q2 x f l c Bi Bj V : Int} (e : 2147483648 * q1 + q2 = x * f + l + c) (h : P + c * (Bi * Bj) = S + x * Bi * V) : P + q2 * (Bi * Bj) + q1 * (Bi * Bj * 2147483648) = S + l * (Bi * Bj) + x * Bi * (V + f * Bj) := by
  have e2 : q2 = x * f + l + c - 2147483648 * q1 := by omega
  have e3 : P = S + x * Bi * V - c * (Bi * Bj) := by omega
  rw [e2, e3]
  grind
theorem xi_step {k : Nat} {F : Nat → Int} {x v : Int} {i gr j : Nat} {c : Int} {h0 h : am_G} (H : XI k F x i gr h0 h j c) (hg : gr ≤ 40) (hj : i + j < gr) (hx : 0 ≤ x ∧ x < 2147483648) (hF : 0 ≤ F j ∧ F j < 2147483648) (hv : v = x * F j + h (k + 1) (i + j) + c) : XI k F x i gr h0 (am_up h (k + 1) (i + j) (v % 2147483648)) (j + 1) (v / 2147483648) := by
  obtain ⟨h1, h2, h3, h4, h5, h6⟩ := H
  have hl := h5 (i + j) (by omega)
  have hw := xi_v hx hF hl h2
  rw [← hv] at hw
  refine ⟨by omega, by omega, fun a q ha => (up_ne ha).trans (h3 a q ha), fun q hq => ?_, h5.up1 (by omega), ?_⟩
  · rw [up_nj (by omega)]; exact h4 q (by omega)
  · rw [← Nat.add_assoc, bval_suc, bval_suc, bval_suc, up_eq, bval_lo (Nat.le_refl _), b_suc, ← h4 (i + j) (Nat.le_refl _)]
    have e := Int.mul_ediv_add_emod v 2147483648
    rw [Int.pow_add] at h6 ⊢
    rw [hv] at e ⊢
    exact xi_alg e h6
def YI (k gr rs : Nat) (R : Nat → Int) (w : Int) (g h : am_G) (i : Nat) : Prop := i ≤ rs ∧ FrA (k + 1) g h ∧ BigL h k ∧ bval (h (k + 1)) gr = bval R i * w
theorem bval_zero {f : Nat → Int} {n : Nat} (h : ∀ j, j < n → f j = 0) : bval f n = 0 := by
  induction n with
  | zero => rfl
  | succ n ih => rw [bval_suc, ih fun j hj => h j (by omega), h n (by omega)]; omega
theorem yi_step {k gr rs m i : Nat} {R F : Nat → Int} {w c : Int} {g h0 h : am_G} (H : YI k gr rs R w g h0 i) (X : XI k F (R i) i gr h0 h (gr - i) c) (hi : i < rs) (hgr : gr = rs + m) (hF : bval F (gr - i) = w) (hw : 0 ≤ w ∧ w < 2147483648 ^ m) (hR : ∀ j, j < rs → 0 ≤ R j ∧ R j < 2147483648) (hg : gr ≤ 40) : YI k gr rs R w g h (i + 1) := by
  obtain ⟨h1, h2, h3, h4⟩ := H
  obtain ⟨x1, x2, x3, x4, x5, x6⟩ := X
  rw [show i + (gr - i) = gr by omega, hF, h4] at x6
  refine ⟨by omega, fun a q ha => (x3 a q ha).trans (h2 a q ha), x5, ?_⟩
  have e : bval R i * w + R i * 2147483648 ^ i * w = bval R (i + 1) * w := by rw [bval_suc, Int.add_mul]
  rw [e] at x6
  have a1 := bval_mono hR (show i + 1 ≤ rs by omega)
  have a2 := bval_in hR
  have a3 := Int.mul_le_mul_of_nonneg_right a1 hw.1
  have a4 : bval R rs * w < 2147483648 ^ gr := by
    rw [hgr, Int.pow_add]
    by_cases hz : w = 0
    · subst hz
      rw [Int.mul_zero]
      exact Int.mul_pos (b_pos _) (b_pos _)
    · have b1 := Int.mul_lt_mul_of_pos_right a2.2 (show 0 < w by omega)
      have b2 := Int.mul_lt_mul_of_pos_left hw.2 (b_pos rs)
      omega
  have a5 := bval_in (f := h (k + 1)) (n := gr) fun j hj => x5 j (by omega)
  have : c = 0 := by
    by_cases hc : c = 0
    · exact hc
    have := Int.mul_le_mul_of_nonneg_right (show 1 ≤ c by omega) (Int.le_of_lt (b_pos gr))
    omega
  subst this
  omega
/-- so many of parts of the whole -/
def IsShare (v parts w m : Int) : Prop := 0 ≤ m ∧ m ≤ parts ∧ m * w ≤ v * parts ∧ (m = parts ∨ v * parts < (m + 1) * w)
theorem IsShare.uniq {v parts w m m' : Int} (hw : 0 < w) (h : IsShare v parts w m) (h' : IsShare v parts w m') : m = m' := by
  obtain ⟨a1, a2, a3, a4⟩ := h
  obtain ⟨b1, b2, b3, b4⟩ := h'
  rcases Int.lt_trichotomy m m' with h | h | h
  · rcases a4 with a4 | a4
    · omega
    · have := Int.mul_le_mul_of_nonneg_right (show m + 1 ≤ m' by omega) (Int.le_of_lt hw)
      omega
  · exact h
  · rcases b4 with b4 | b4
    · omega
    · have := Int.mul_le_mul_of_nonneg_right (show m' + 1 ≤ m by omega) (Int.le_of_lt hw)
      omega
/-- as far as a share is found: it is less than d away -/
def SI (v parts w m : Int) (t : Nat) : Prop := 0 ≤ m ∧ m ≤ parts ∧ m * w ≤ v * parts ∧ (parts < m + 2 ^ t ∨ v * parts < (m + 2 ^ t) * w)
theorem si_step {v parts w m : Int} {t : Nat} (H : SI v parts w m (t + 1)) (hw : 0 ≤ w) (m' : Int) (h : (m' = m ∧ (parts - m < 2 ^ t ∨ v * parts < (m + 2 ^ t) * w)) ∨ (m' = m + 2 ^ t ∧ 2 ^ t ≤ parts - m ∧ (m + 2 ^ t) * w ≤ v * parts)) : SI v parts w m' t := by
  obtain ⟨h1, h2, h3, h4⟩ := H
  have e : (2 : Int) ^ (t + 1) = 2 ^ t + 2 ^ t := by rw [Int.pow_succ]; omega
  have hp : (0 : Int) < 2 ^ t := Int.pow_pos (by decide)
  rw [e] at h4
  rcases h with ⟨rfl, h⟩ | ⟨rfl, h, h'⟩
  · refine ⟨h1, h2, h3, ?_⟩
    rcases h with h | h
    · exact Or.inl (by omega)
    · exact Or.inr h
  · refine ⟨by omega, by omega, h', ?_⟩
    rw [Int.add_assoc]
    exact h4
theorem si_end {v parts w m : Int} (H : SI v parts w m 0) : IsShare v parts w m := by
  obtain ⟨h1, h2, h3, h4⟩ := H
  refine ⟨h1, h2, h3, ?_⟩
  rcases h4 with h4 | h4
  · exact Or.inl (by rw [Int.pow_zero] at h4; omega)
  · exact Or.inr h4

