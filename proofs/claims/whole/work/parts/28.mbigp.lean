/-! THE REFERENCE'S NUMBERS: a hundred limbs of four digits: pure rows -/
def mval (f : Nat → Int) : Nat → Int
  | 0 => 0
  | n + 1 => mval f n + f n * 10000 ^ n
theorem mval_suc (f : Nat → Int) (n : Nat) : mval f (n + 1) = mval f n + f n * 10000 ^ n := rfl
theorem m_pos (n : Nat) : (0 : Int) < 10000 ^ n := Int.pow_pos (by decide)
theorem m_suc (n : Nat) : (10000 : Int) ^ (n + 1) = 10000 ^ n * 10000 := Int.pow_succ _ _
theorem m_le {m n : Nat} (h : m ≤ n) : (10000 : Int) ^ m ≤ 10000 ^ n := by
  obtain ⟨d, rfl⟩ := Nat.le.dest h
  rw [Int.pow_add]
  have h1 := m_pos m
  have h2 := m_pos d
  have h3 := Int.mul_le_mul_of_nonneg_left (show (1 : Int) ≤ 10000 ^ d by omega) (Int.le_of_lt h1)
  omega
theorem mval_in {f : Nat → Int} {n : Nat} (h : ∀ j, j < n → 0 ≤ f j ∧ f j < 10000) : 0 ≤ mval f n ∧ mval f n < 10000 ^ n := by
  induction n with
  | zero => exact ⟨Int.le_refl _, by show (0 : Int) < 10000 ^ 0; decide⟩
  | succ n ih =>
    have h1 := ih fun j hj => h j (by omega)
    have h2 := h n (by omega)
    have h3 := m_pos n
    have h4 := Int.mul_nonneg h2.1 (Int.le_of_lt h3)
    have h5 := Int.mul_le_mul_of_nonneg_right (show f n ≤ 9999 by omega) (Int.le_of_lt h3)
    rw [m_suc, mval_suc]
    omega
theorem mval_eq {f f' : Nat → Int} {n : Nat} (h : ∀ j, j < n → f j = f' j) : mval f n = mval f' n := by
  induction n with
  | zero => rfl
  | succ n ih => rw [mval_suc, mval_suc, ih fun j hj => h j (by omega), h n (by omega)]
theorem mval_zero {f : Nat → Int} {n : Nat} (h : ∀ j, j < n → f j = 0) : mval f n = 0 := by
  induction n with
  | zero => rfl
  | succ n ih => rw [mval_suc, ih fun j hj => h j (by omega), h n (by omega)]; omega
theorem mval_mono {f : Nat → Int} {i n : Nat} (h : ∀ j, j < n → 0 ≤ f j ∧ f j < 10000) (hi : i ≤ n) : mval f i ≤ mval f n := by
  induction n with
  | zero =>
    obtain rfl : i = 0 := by omega
    exact Int.le_refl _
  | succ n ih =>
    by_cases e : i = n + 1
    · subst e; exact Int.le_refl _
    · rw [mval_suc]
      have := ih (fun j hj => h j (by omega)) (by omega)
      have h2 := Int.mul_nonneg (h n (by omega)).1 (Int.le_of_lt (m_pos n))
      omega
/-- a number below a power has no limb from there on -/
theorem mval_cut {f : Nat → Int} {m n : Nat} (h : ∀ j, j < n → 0 ≤ f j ∧ f j < 10000) (hm : m ≤ n) (hv : mval f n < 10000 ^ m) : mval f m = mval f n := by
  induction n with
  | zero =>
    obtain rfl : m = 0 := by omega
    rfl
  | succ n ih =>
    by_cases e : m = n + 1
    · subst e; rfl
    · rw [mval_suc] at hv ⊢
      have h0 := mval_in (f := f) (n := n) fun j hj => h j (by omega)
      have h1 := h n (by omega)
      have h2 := m_le (show m ≤ n by omega)
      have h3 : f n = 0 := by
        by_cases hz : f n = 0
        · exact hz
        have := Int.mul_le_mul_of_nonneg_right (show 1 ≤ f n by omega) (Int.le_of_lt (m_pos n))
        omega
      rw [h3, Int.zero_mul, Int.add_zero] at hv ⊢
      exact ih (fun j hj => h j (by omega)) (by omega) hv
def MG (g : am_G) (r : Nat) (j : Nat) : Int := g 136 (100 * r + j)
def ML (g : am_G) (r : Nat) : Prop := ∀ j, j < 100 → 0 ≤ g 136 (100 * r + j) ∧ g 136 (100 * r + j) < 10000
def MR (g : am_G) (r : Nat) (v : Int) : Prop := ML g r ∧ mval (MG g r) 100 = v
/-- nothing but the register r may have changed -/
def FrM (r : Nat) (g h : am_G) : Prop := ∀ c j, (c = 136 → j < 100 * r ∨ 100 * r + 100 ≤ j) → h c j = g c j
theorem FrM.rfl {r : Nat} {g : am_G} : FrM r g g := fun _ _ _ => Eq.refl _
theorem FrM.trans {r : Nat} {g h i : am_G} (h1 : FrM r g h) (h2 : FrM r h i) : FrM r g i := fun c j a => (h2 c j a).trans (h1 c j a)
theorem FrM.up {r k : Nat} {g h : am_G} {x : Int} (h1 : FrM r g h) (hk : k < 100) : FrM r g (am_up h 136 (100 * r + k) x) := by
  intro c j hc
  rw [← h1 c j hc]
  by_cases e : c = 136
  · subst e
    exact up_nj (by have := hc (Eq.refl _); omega)
  · exact up_ne e
theorem FrM.at {r s j : Nat} {g h : am_G} (h1 : FrM r g h) (hs : s ≠ r) (hj : j < 100) : h 136 (100 * s + j) = g 136 (100 * s + j) := h1 136 _ fun _ => by omega
theorem MR.fr {r s : Nat} {g h : am_G} {v : Int} (H : MR g s v) (h1 : FrM r g h) (hs : s ≠ r) : MR h s v := by
  refine ⟨fun j hj => ?_, ?_⟩
  · rw [h1.at hs hj]; exact H.1 j hj
  · rw [← H.2]; exact mval_eq fun j hj => h1.at hs hj
theorem MR.nn {r : Nat} {g : am_G} {v : Int} (H : MR g r v) : 0 ≤ v ∧ v < 10000 ^ 100 := by
  rw [← H.2]
  exact mval_in fun j hj => H.1 j hj
theorem ML.up {r k : Nat} {g : am_G} {x : Int} (h : ML g r) (hx : 0 ≤ x ∧ x < 10000) : ML (am_up g 136 (100 * r + k) x) r := by
  intro j hj
  by_cases e : j = k
  · subst e; rw [up_eq]; exact hx
  · rw [up_nj (by omega)]; exact h j hj
theorem mg_lo {g : am_G} {r k n : Nat} {x : Int} (hn : n ≤ k) : mval (MG (am_up g 136 (100 * r + k) x) r) n = mval (MG g r) n := mval_eq fun j hj => up_nj (by omega)
theorem mg_eq {g : am_G} {r k : Nat} {x : Int} : MG (am_up g 136 (100 * r + k) x) r k = x := up_eq
/-- times a factor -/
def TM (r : Nat) (f : Int) (g h : am_G) (k : Nat) (c : Int) : Prop := k ≤ 100 ∧ (0 ≤ c ∧ c ≤ f) ∧ FrM r g h ∧ (∀ j, k ≤ j → j < 100 → h 136 (100 * r + j) = g 136 (100 * r + j)) ∧ ML h r ∧ mval (MG h r) k + c * 10000 ^ k = f * mval (MG g r) k
theorem tm_v {l f c : Int} (hl : 0 ≤ l ∧ l < 10000) (hf : 0 ≤ f) (hc : 0 ≤ c ∧ c ≤ f) : 0 ≤ c + l * f ∧ c + l * f ≤ 10000 * f := by
  have h1 := Int.mul_nonneg hl.1 hf
  have h2 := Int.mul_le_mul_of_nonneg_right (show l ≤ 9999 by omega) hf
  omega
theorem tm_alg {P Q q1 q2 l f c B : Int} (e : 10000 * q1 + q2 = c + l * f) (h : P + c * B = f * Q) : P + q2 * B + q1 * (B * 10000) = f * (Q + l * B) := by
  have e2 : q2 = c + l * f - 10000 * q1 := by omega
  have e3 : P = f * Q - c * B := by omega
  rw [e2, e3]
  grind
theorem tm_zero {r : Nat} {f v : Int} {g : am_G} (h : MR g r v) (hf : 0 ≤ f) : TM r f g g 0 0 := ⟨Nat.zero_le _, ⟨Int.le_refl _, hf⟩, FrM.rfl, fun _ _ _ => rfl, h.1, by show (0 : Int) + 0 * 10000 ^ 0 = f * 0; omega⟩
theorem tm_step {r k : Nat} {f c : Int} {g h : am_G} (H : TM r f g h k c) (hk : k < 100) (hf : 0 ≤ f) : TM r f g (am_up h 136 (100 * r + k) ((c + h 136 (100 * r + k) * f) % 10000)) (k + 1) ((c + h 136 (100 * r + k) * f) / 10000) := by
  obtain ⟨h1, h2, h3, h4, h5, h6⟩ := H
  have hl := h5 k hk
  have hv := tm_v hl hf h2
  refine ⟨by omega, by omega, h3.up hk, fun j hj hj2 => ?_, h5.up (by omega), ?_⟩
  · rw [up_nj (by omega)]; exact h4 j (by omega) hj2
  · rw [mval_suc, mval_suc, mg_eq, mg_lo (Nat.le_refl _), m_suc]
    have e : MG g r k = h 136 (100 * r + k) := (h4 k (Nat.le_refl _) hk).symm
    rw [e]
    exact tm_alg (Int.mul_ediv_add_emod (c + h 136 (100 * r + k) * f) 10000) h6
theorem tm_end {r : Nat} {f v c : Int} {g h : am_G} (hB : MR g r v) (H : TM r f g h 100 c) (ho : v * f < 10000 ^ 100) : MR h r (v * f) ∧ FrM r g h := by
  obtain ⟨h1, h2, h3, h4, h5, h6⟩ := H
  rw [hB.2, Int.mul_comm f v] at h6
  have hv := mval_in (f := MG h r) (n := 100) fun j hj => h5 j hj
  have hc : c = 0 := by
    by_cases hc : c = 0
    · exact hc
    have := Int.mul_le_mul_of_nonneg_right (show 1 ≤ c by omega) (Int.le_of_lt (m_pos 100))
    omega
  subst hc
  rw [Int.zero_mul, Int.add_zero] at h6
  exact ⟨⟨h5, h6⟩, h3⟩
/-- adding a multiple of another -/
def AM (r s : Nat) (f : Int) (g h : am_G) (k : Nat) (c : Int) : Prop := k ≤ 100 ∧ (0 ≤ c ∧ c ≤ f + 1) ∧ FrM r g h ∧ (∀ j, k ≤ j → j < 100 → h 136 (100 * r + j) = g 136 (100 * r + j)) ∧ ML h r ∧ mval (MG h r) k + c * 10000 ^ k = mval (MG g r) k + f * mval (MG g s) k
theorem am_v' {l y f c : Int} (hl : 0 ≤ l ∧ l < 10000) (hy : 0 ≤ y ∧ y < 10000) (hf : 0 ≤ f) (hc : 0 ≤ c ∧ c ≤ f + 1) : 0 ≤ c + (l + y * f) ∧ c + (l + y * f) ≤ 10000 * f + 10000 := by
  have h1 := Int.mul_nonneg hy.1 hf
  have h2 := Int.mul_le_mul_of_nonneg_right (show y ≤ 9999 by omega) hf
  omega
theorem am_alg {P Q W q1 q2 l y f c B : Int} (e : 10000 * q1 + q2 = c + (l + y * f)) (h : P + c * B = Q + f * W) : P + q2 * B + q1 * (B * 10000) = Q + l * B + f * (W + y * B) := by
  have e2 : q2 = c + (l + y * f) - 10000 * q1 := by omega
  have e3 : P = Q + f * W - c * B := by omega
  rw [e2, e3]
  grind
theorem am_zero {r s : Nat} {f v : Int} {g : am_G} (h : MR g r v) (hf : 0 ≤ f) : AM r s f g g 0 0 := ⟨Nat.zero_le _, ⟨Int.le_refl _, by omega⟩, FrM.rfl, fun _ _ _ => rfl, h.1, by show (0 : Int) + 0 * 10000 ^ 0 = 0 + f * 0; omega⟩
theorem am_nxt {r s k : Nat} {f c w : Int} {g h : am_G} (H : AM r s f g h k c) (hk : k < 100) (hf : 0 ≤ f) (hs : s ≠ r) (hW : MR g s w) : AM r s f g (am_up h 136 (100 * r + k) ((c + (h 136 (100 * r + k) + h 136 (100 * s + k) * f)) % 10000)) (k + 1) ((c + (h 136 (100 * r + k) + h 136 (100 * s + k) * f)) / 10000) := by
  obtain ⟨h1, h2, h3, h4, h5, h6⟩ := H
  have hl := h5 k hk
  have hy := hW.1 k hk
  rw [← h3.at hs hk] at hy
  have hv := am_v' hl hy hf h2
  refine ⟨by omega, by omega, h3.up hk, fun j hj hj2 => ?_, h5.up (by omega), ?_⟩
  · rw [up_nj (by omega)]; exact h4 j (by omega) hj2
  · rw [mval_suc, mval_suc, mval_suc, mg_eq, mg_lo (Nat.le_refl _), m_suc]
    have e : MG g r k = h 136 (100 * r + k) := (h4 k (Nat.le_refl _) hk).symm
    have e' : MG g s k = h 136 (100 * s + k) := (h3.at hs hk).symm
    rw [e, e']
    exact am_alg (Int.mul_ediv_add_emod (c + (h 136 (100 * r + k) + h 136 (100 * s + k) * f)) 10000) h6
theorem am_end {r s : Nat} {f v w c : Int} {g h : am_G} (hB : MR g r v) (hW : MR g s w) (H : AM r s f g h 100 c) (ho : v + w * f < 10000 ^ 100) : MR h r (v + w * f) ∧ FrM r g h := by
  obtain ⟨h1, h2, h3, h4, h5, h6⟩ := H
  rw [hB.2, hW.2, Int.mul_comm f w] at h6
  have hv := mval_in (f := MG h r) (n := 100) fun j hj => h5 j hj
  have hc : c = 0 := by
    by_cases hc : c = 0
    · exact hc
    have := Int.mul_le_mul_of_nonneg_right (show 1 ≤ c by omega) (Int.le_of_lt (m_pos 100))
    omega
  subst hc
  rw [Int.zero_mul, Int.add_zero] at h6
  exact ⟨⟨h5, h6⟩, h3⟩
/-- zeroes up to k -/
def ZM (r : Nat) (g h : am_G) (k : Nat) : Prop := k ≤ 100 ∧ FrM r g h ∧ ∀ j, j < k → h 136 (100 * r + j) = 0
theorem zm_step {r k : Nat} {g h : am_G} (H : ZM r g h k) (hk : k < 100) : ZM r g (am_up h 136 (100 * r + k) 0) (k + 1) := by
  refine ⟨by omega, H.2.1.up hk, fun j hj => ?_⟩
  by_cases e : j = k
  · subst e; exact up_eq
  · rw [up_nj (by omega)]; exact H.2.2 j (by omega)
theorem put_end {r : Nat} {g h : am_G} {v x y z : Int} (H : ZM r g h 100) (hv : 0 ≤ v ∧ v < 1000000000000) (hx : x = v % 10000) (hy : y = v / 10000 % 10000) (hz : z = v / 10000 / 10000) : MR (am_up (am_up (am_up h 136 (100 * r) x) 136 (100 * r + 1) y) 136 (100 * r + 2) z) r v ∧ FrM r g (am_up (am_up (am_up h 136 (100 * r) x) 136 (100 * r + 1) y) 136 (100 * r + 2) z) := by
  have hj : ∀ j, j < 100 → am_up (am_up (am_up h 136 (100 * r) x) 136 (100 * r + 1) y) 136 (100 * r + 2) z 136 (100 * r + j) = if j = 0 then x else if j = 1 then y else if j = 2 then z else 0 := by
    intro j hj
    by_cases h2 : j = 2
    · subst h2; exact up_eq
    rw [up_nj (by omega)]
    by_cases h1 : j = 1
    · subst h1; exact up_eq
    rw [up_nj (by omega)]
    by_cases h0 : j = 0
    · subst h0; exact up_eq
    rw [up_nj (by omega), H.2.2 j hj, if_neg h0, if_neg h1, if_neg h2]
  refine ⟨⟨fun j h1 => ?_, ?_⟩, ?_⟩
  · rw [hj j h1]
    split
    · omega
    · split
      · omega
      · split
        · omega
        · decide
  · have : ∀ n, mval (MG (am_up (am_up (am_up h 136 (100 * r) x) 136 (100 * r + 1) y) 136 (100 * r + 2) z) r) (n + 3) = v ∨ 97 < n := by
      intro n
      induction n with
      | zero =>
        refine Or.inl ?_
        rw [mval_suc, mval_suc, mval_suc]
        show 0 + am_up _ 136 _ z 136 (100 * r + 0) * 10000 ^ 0 + am_up _ 136 _ z 136 (100 * r + 1) * 10000 ^ 1 + am_up _ 136 _ z 136 (100 * r + 2) * 10000 ^ 2 = v
        rw [hj 0 (by decide), hj 1 (by decide), hj 2 (by decide), if_pos rfl, if_neg (by decide), if_pos rfl, if_neg (by decide), if_neg (by decide), if_pos rfl]
        omega
      | succ n ih =>
        by_cases hn : 97 < n + 1
        · exact Or.inr hn
        rcases ih with ih | ih
        · refine Or.inl ?_
          rw [show n + 1 + 3 = n + 3 + 1 by omega, mval_suc, ih]
          have : MG (am_up (am_up (am_up h 136 (100 * r) x) 136 (100 * r + 1) y) 136 (100 * r + 2) z) r (n + 3) = 0 := by
            refine (hj (n + 3) (by omega)).trans ?_
            rw [if_neg (by omega), if_neg (by omega), if_neg (by omega)]
          rw [this]
          omega
        · omega
    rcases this 97 with h | h
    · exact h
    · omega
  · have h0 := (H.2.1.up (k := 0) (x := x) (by decide))
    exact (h0.up (k := 1) (by decide)).up (k := 2) (by decide)

