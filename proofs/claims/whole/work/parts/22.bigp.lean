/-! NUMBERS IN LIMBS OF 31 BITS: pure rows -/
theorem land31 {v : Int} (h0 : 0 ≤ v) (h1 : v < 9223372036854775808) : (Int64.ofInt v &&& Int64.ofInt 2147483647).toInt = v % 2147483648 := by
  obtain ⟨n, rfl⟩ := Int.eq_ofNat_of_zero_le h0
  have e1 : (BitVec.ofInt 64 (n : Int)).toNat = n := by
    rw [BitVec.toNat_ofInt]
    omega
  have e2 : (BitVec.ofInt 64 (2147483647 : Int)).toNat = 2147483647 := by rfl
  have e3 : (BitVec.ofInt 64 (n : Int) &&& BitVec.ofInt 64 2147483647).toNat = n % 2147483648 := by
    rw [BitVec.toNat_and, e1, e2]
    exact Nat.and_two_pow_sub_one_eq_mod n 31
  show (BitVec.ofInt 64 (n : Int) &&& BitVec.ofInt 64 2147483647).toInt = _
  rw [BitVec.toInt_eq_toNat_of_lt (by rw [e3]; omega), e3]
  omega
theorem lshr31 {v : Int} (h0 : 0 ≤ v) (h1 : v < 9223372036854775808) : (((Int64.ofInt v).toUInt64 >>> ((Int32.ofInt 31).toInt64.toUInt64 &&& Int64.toUInt64 63)).toInt64).toInt = v / 2147483648 := by
  obtain ⟨n, rfl⟩ := Int.eq_ofNat_of_zero_le h0
  have e1 : (BitVec.ofInt 64 (n : Int)).toNat = n := by
    rw [BitVec.toNat_ofInt]
    omega
  have e2 : ((Int32.ofInt 31).toInt64.toUInt64 &&& Int64.toUInt64 63) = 31 := by decide
  rw [e2]
  have e3 : ((Int64.ofInt (n : Int)).toUInt64 >>> 31).toBitVec.toNat = n / 2147483648 := by
    show ((Int64.ofInt (n : Int)).toUInt64 >>> 31).toNat = _
    rw [UInt64.toNat_shiftRight]
    show (BitVec.ofInt 64 (n : Int)).toNat >>> 31 = _
    rw [e1, Nat.shiftRight_eq_div_pow]
  show ((Int64.ofInt (n : Int)).toUInt64 >>> 31).toBitVec.toInt = _
  rw [BitVec.toInt_eq_toNat_of_lt (by rw [e3]; omega), e3]
  omega
def bval (f : Nat → Int) : Nat → Int
  | 0 => 0
  | n + 1 => bval f n + f n * 2147483648 ^ n
theorem b_pos (n : Nat) : (0 : Int) < 2147483648 ^ n := Int.pow_pos (by decide)
theorem b_suc (n : Nat) : (2147483648 : Int) ^ (n + 1) = 2147483648 ^ n * 2147483648 := Int.pow_succ _ _
theorem b_le {m n : Nat} (h : m ≤ n) : (2147483648 : Int) ^ m ≤ 2147483648 ^ n := by
  obtain ⟨d, rfl⟩ := Nat.le.dest h
  rw [Int.pow_add]
  have h1 := b_pos m
  have h2 := b_pos d
  have h3 := Int.mul_le_mul_of_nonneg_left (show (1 : Int) ≤ 2147483648 ^ d by omega) (Int.le_of_lt h1)
  omega
theorem bval_in {f : Nat → Int} {n : Nat} (h : ∀ j, j < n → 0 ≤ f j ∧ f j < 2147483648) : 0 ≤ bval f n ∧ bval f n < 2147483648 ^ n := by
  induction n with
  | zero => exact ⟨Int.le_refl _, by show (0 : Int) < 2147483648 ^ 0; decide⟩
  | succ n ih =>
    have h1 := ih fun j hj => h j (by omega)
    have h2 := h n (by omega)
    have h3 := b_pos n
    have h4 := Int.mul_nonneg h2.1 (Int.le_of_lt h3)
    have h5 := Int.mul_le_mul_of_nonneg_right (show f n ≤ 2147483647 by omega) (Int.le_of_lt h3)
    rw [b_suc]
    unfold bval
    omega
theorem bval_eq {f f' : Nat → Int} {n : Nat} (h : ∀ j, j < n → f j = f' j) : bval f n = bval f' n := by
  induction n with
  | zero => rfl
  | succ n ih =>
    unfold bval
    rw [ih fun j hj => h j (by omega), h n (by omega)]
/-- cell a alone, or a and the one above it, may have changed -/
def FrA (a : Nat) (g h : am_G) : Prop := ∀ c j, c ≠ a → h c j = g c j
def FrB (k : Nat) (g h : am_G) : Prop := ∀ c j, c ≠ k → c ≠ k + 1 → h c j = g c j
theorem FrB.rfl {k : Nat} {g : am_G} : FrB k g g := fun _ _ _ _ => Eq.refl _
theorem FrB.trans {k : Nat} {g h i : am_G} (h1 : FrB k g h) (h2 : FrB k h i) : FrB k g i := fun c j a b => (h2 c j a b).trans (h1 c j a b)
theorem up_ne {g : am_G} {k i a j : Nat} {x : Int} (h : a ≠ k) : am_up g k i x a j = g a j := by unfold am_up; rw [if_neg h]
theorem up_nj {g : am_G} {k i j : Nat} {x : Int} (h : j ≠ i) : am_up g k i x k j = g k j := by unfold am_up; rw [if_pos rfl, if_neg h]
theorem up_eq {g : am_G} {k i : Nat} {x : Int} : am_up g k i x k i = x := by unfold am_up; rw [if_pos rfl, if_pos rfl]
theorem FrB.up0 {k j : Nat} {g h : am_G} {x : Int} (h1 : FrB k g h) : FrB k g (am_up h k j x) := fun c i a b => (up_ne a).trans (h1 c i a b)
theorem FrB.up1 {k j : Nat} {g h : am_G} {x : Int} (h1 : FrB k g h) : FrB k g (am_up h (k + 1) j x) := fun c i a b => (up_ne b).trans (h1 c i a b)
def BigL (g : am_G) (k : Nat) : Prop := ∀ j, j < 40 → 0 ≤ g (k + 1) j ∧ g (k + 1) j < 2147483648
def BigW (g : am_G) (k sz : Nat) (v : Int) : Prop := g k 1 = (sz : Int) ∧ sz ≤ 40 ∧ BigL g k ∧ bval (g (k + 1)) sz = v
def BigR (g : am_G) (k : Nat) (v : Int) : Prop := ∃ sz, BigW g k sz v ∧ (sz = 0 ∨ 2147483648 ^ (sz - 1) ≤ v)
theorem BigW.in {g : am_G} {k sz : Nat} {v : Int} (h : BigW g k sz v) : 0 ≤ v ∧ v < 2147483648 ^ sz := by
  rw [← h.2.2.2]
  exact bval_in fun j hj => h.2.2.1 j (by have := h.2.1; omega)
theorem BigR.nn {g : am_G} {k : Nat} {v : Int} (h : BigR g k v) : 0 ≤ v := by
  obtain ⟨sz, h, _⟩ := h
  exact h.in.1
theorem BigL.up1 {g : am_G} {k j : Nat} {x : Int} (h : BigL g k) (hx : 0 ≤ x ∧ x < 2147483648) : BigL (am_up g (k + 1) j x) k := by
  intro i hi
  by_cases e : i = j
  · subst e; rw [up_eq]; exact hx
  · rw [up_nj e]; exact h i hi
theorem BigL.up0 {g : am_G} {k j : Nat} {x : Int} (h : BigL g k) : BigL (am_up g k j x) k := by
  intro i hi
  rw [up_ne (by omega)]
  exact h i hi
theorem BigR.fr {k : Nat} {g g' : am_G} {a : Nat} {v : Int} (h : BigR g a v) (hf : FrB k g g') (h1 : a ≠ k) (h2 : a ≠ k + 1) (h3 : a + 1 ≠ k) : BigR g' a v := by
  obtain ⟨sz, ⟨e1, e2, e3, e4⟩, h⟩ := h
  refine ⟨sz, ⟨?_, e2, ?_, ?_⟩, h⟩
  · rw [hf a 1 h1 h2]; exact e1
  · intro j hj; rw [hf (a + 1) j h3 (by omega)]; exact e3 j hj
  · rw [← e4]; exact bval_eq fun j _ => hf (a + 1) j h3 (by omega)
theorem big_trim {g : am_G} {k sz : Nat} {v x : Int} (h : BigW g k sz v) (h0 : 0 < sz) (hz : g (k + 1) (sz - 1) = 0) (hx : x = ((sz - 1 : Nat) : Int)) : BigW (am_up g k 1 x) k (sz - 1) v := by
  obtain ⟨e1, e2, e3, e4⟩ := h
  refine ⟨by rw [up_eq, hx], by omega, e3.up0, ?_⟩
  obtain ⟨m, rfl⟩ : ∃ m, sz = m + 1 := ⟨sz - 1, by omega⟩
  simp only [Nat.add_sub_cancel] at hz ⊢
  unfold bval at e4
  rw [hz] at e4
  rw [bval_eq (f' := g (k + 1)) fun j _ => up_ne (by omega)]
  omega
theorem big_trim0 {g : am_G} {k sz : Nat} {v : Int} (h : BigW g k sz v) (hz : sz = 0 ∨ g (k + 1) (sz - 1) ≠ 0) : BigR g k v := by
  refine ⟨sz, h, ?_⟩
  rcases hz with hz | hz
  · exact Or.inl hz
  · by_cases h0 : sz = 0
    · exact Or.inl h0
    refine Or.inr ?_
    obtain ⟨e1, e2, e3, e4⟩ := h
    obtain ⟨m, rfl⟩ : ∃ m, sz = m + 1 := ⟨sz - 1, by omega⟩
    simp only [Nat.add_sub_cancel] at hz ⊢
    unfold bval at e4
    have h1 := bval_in (n := m) fun j hj => e3 j (by omega)
    have h2 := e3 m (by omega)
    have h3 := b_pos m
    have h4 := Int.mul_le_mul_of_nonneg_right (show 1 ≤ g (k + 1) m by omega) (Int.le_of_lt h3)
    omega
theorem big_push {g : am_G} {k sz : Nat} {v l x : Int} (h : BigW g k sz v) (h0 : sz < 40) (hl : 0 ≤ l ∧ l < 2147483648) (hx : x = ((sz + 1 : Nat) : Int)) : BigW (am_up (am_up g (k + 1) sz l) k 1 x) k (sz + 1) (v + l * 2147483648 ^ sz) := by
  obtain ⟨e1, e2, e3, e4⟩ := h
  refine ⟨by rw [up_eq, hx], by omega, (e3.up1 hl).up0, ?_⟩
  unfold bval
  rw [up_ne (by omega), up_eq, bval_eq (f' := g (k + 1)) fun j hj => by rw [up_ne (by omega), up_nj (by omega)], e4]
/-- times a factor: i limbs done, c over -/
def TI (k sz : Nat) (f : Int) (g h : am_G) (i : Nat) (c : Int) : Prop := i ≤ sz ∧ (0 ≤ c ∧ c < 2147483648) ∧ FrA (k + 1) g h ∧ (∀ j, i ≤ j → h (k + 1) j = g (k + 1) j) ∧ BigL h k ∧ bval (h (k + 1)) i + c * 2147483648 ^ i = f * bval (g (k + 1)) i
theorem ti_v {x f c : Int} (hx : 0 ≤ x ∧ x < 2147483648) (hf : 0 ≤ f ∧ f < 2147483648) (hc : 0 ≤ c ∧ c < 2147483648) : 0 ≤ x * f + c ∧ x * f + c < 2147483648 * 2147483648 := by
  have h1 := Int.mul_nonneg hx.1 hf.1
  have h2 := Int.mul_le_mul (show x ≤ 2147483647 by omega) (show f ≤ 2147483647 by omega) hf.1 (by decide)
  omega
theorem ti_step {k sz i : Nat} {f c : Int} {g h : am_G} (H : TI k sz f g h i c) (hs : sz ≤ 40) (hi : i < sz) (hf : 0 ≤ f ∧ f < 2147483648) : TI k sz f g (am_up h (k + 1) i ((h (k + 1) i * f + c) % 2147483648)) (i + 1) ((h (k + 1) i * f + c) / 2147483648) := by
  obtain ⟨h1, h2, h3, h4, h5, h6⟩ := H
  have hx := h5 i (by omega)
  have hv := ti_v hx hf h2
  refine ⟨by omega, by omega, fun a j ha => (up_ne ha).trans (h3 a j ha), fun j hj => ?_, h5.up1 (by omega), ?_⟩
  · rw [up_nj (by omega)]; exact h4 j (by omega)
  · unfold bval
    rw [up_eq, bval_eq (f' := h (k + 1)) fun j hj => up_nj (by omega), ← h4 i (Nat.le_refl _), Int.mul_add, ← h6, b_suc]
    have e := Int.mul_ediv_add_emod (h (k + 1) i * f + c) 2147483648
    generalize (h (k + 1) i * f + c) / 2147483648 = q1 at e ⊢
    generalize (h (k + 1) i * f + c) % 2147483648 = q2 at e ⊢
    grind
theorem big_push0 {g : am_G} {k sz : Nat} {v l : Int} (h : BigW g k sz v) (hl : l = 0) : BigW g k sz (v + l * 2147483648 ^ sz) := by
  rw [hl, Int.zero_mul, Int.add_zero]
  exact h
theorem ti_zero {k sz : Nat} {f v : Int} {g : am_G} (h : BigW g k sz v) : TI k sz f g g 0 0 := ⟨Nat.zero_le _, by decide, fun _ _ _ => rfl, fun _ _ => rfl, h.2.2.1, by show (0 : Int) + 0 * 2147483648 ^ 0 = f * 0; omega⟩
theorem ti_end {k sz : Nat} {f v c : Int} {g h : am_G} (hB : BigW g k sz v) (H : TI k sz f g h sz c) (ho : v * f < 2147483648 ^ 40) : BigW h k sz (v * f - c * 2147483648 ^ sz) ∧ (c ≠ 0 → sz < 40) ∧ FrB k g h := by
  obtain ⟨e1, e2, e3, e4⟩ := hB
  obtain ⟨h1, h2, h3, h4, h5, h6⟩ := H
  rw [e4] at h6
  have hv := bval_in (f := h (k + 1)) (n := sz) fun j hj => h5 j (by omega)
  refine ⟨⟨by rw [h3 k 1 (by omega)]; exact e1, e2, h5, by grind⟩, fun hc => ?_, fun a j _ hb => h3 a j hb⟩
  by_cases hs : sz < 40
  · exact hs
  obtain rfl : sz = 40 := by omega
  have := Int.mul_le_mul_of_nonneg_right (show 1 ≤ c by omega) (Int.le_of_lt (b_pos 40))
  grind
theorem BigR.mul_sub {g : am_G} {k z : Nat} {v d : Int} (h : BigW g k z (v - d + d)) : BigW g k z v := by
  rw [Int.sub_add_cancel] at h
  exact h
theorem big_set {g : am_G} {k : Nat} {v x y : Int} (hL : BigL g k) (hv : 0 ≤ v ∧ v < 2147483648) (hx : x = if 0 < v then 1 else 0) (hy : y = v) : BigR (am_up (am_up g k 1 x) (k + 1) 0 y) k v := by
  subst hy
  have hb : BigL (am_up (am_up g k 1 x) (k + 1) 0 y) k := hL.up0.up1 hv
  by_cases h0 : 0 < y
  · rw [if_pos h0] at hx
    refine ⟨1, ⟨by rw [up_ne (by omega), up_eq, hx]; rfl, by omega, hb, ?_⟩, Or.inr (by show (2147483648 : Int) ^ 0 ≤ y; omega)⟩
    show 0 + am_up (am_up g k 1 x) (k + 1) 0 y (k + 1) 0 * 2147483648 ^ 0 = y
    rw [up_eq]
    omega
  · rw [if_neg h0] at hx
    exact ⟨0, ⟨by rw [up_ne (by omega), up_eq, hx]; rfl, by omega, hb, by show (0 : Int) = y; omega⟩, Or.inl rfl⟩
theorem big_grow {g : am_G} {k sz : Nat} {v x : Int} (h : BigW g k sz v) (h0 : sz < 40) (hx : x = ((sz + 1 : Nat) : Int)) : BigW (am_up (am_up g (k + 1) sz 0) k 1 x) k (sz + 1) v := by
  have := big_push (l := 0) h h0 (by decide) hx
  rw [Int.zero_mul, Int.add_zero] at this
  exact this

