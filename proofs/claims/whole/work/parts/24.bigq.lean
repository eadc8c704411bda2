/-! NUMBERS IN LIMBS OF 31 BITS: more pure rows -/
theorem land31' {v : Int} (h0 : -9223372036854775808 ≤ v) (h1 : v < 9223372036854775808) : (Int64.ofInt v &&& Int64.ofInt 2147483647).toInt = v % 2147483648 := by
  have e2 : (BitVec.ofInt 64 (2147483647 : Int)).toNat = 2147483647 := by rfl
  have e3 : (BitVec.ofInt 64 v &&& BitVec.ofInt 64 2147483647).toNat = (v % 18446744073709551616).toNat % 2147483648 := by
    rw [BitVec.toNat_and, e2, BitVec.toNat_ofInt]
    exact Nat.and_two_pow_sub_one_eq_mod _ 31
  show (BitVec.ofInt 64 v &&& BitVec.ofInt 64 2147483647).toInt = _
  rw [BitVec.toInt_eq_toNat_of_lt (by rw [e3]; omega), e3]
  omega
theorem lshl31 {v : Int} (h0 : 0 ≤ v) (h1 : v < 2147483648) : (Int64.ofInt v <<< ((Int32.ofInt 31).toInt64 &&& 63)).toInt = v * 2147483648 := by
  obtain ⟨n, rfl⟩ := Int.eq_ofNat_of_zero_le h0
  have e1 : (BitVec.ofInt 64 (n : Int)).toNat = n := by
    rw [BitVec.toNat_ofInt]
    omega
  have e2 : ((Int32.ofInt 31).toInt64 &&& 63) = 31 := by decide
  rw [e2]
  have e3 : (BitVec.ofInt 64 (n : Int) <<< 31).toNat = n * 2147483648 := by
    rw [BitVec.toNat_shiftLeft, e1, Nat.shiftLeft_eq]
    omega
  show (BitVec.ofInt 64 (n : Int) <<< 31).toInt = _
  rw [BitVec.toInt_eq_toNat_of_lt (by rw [e3]; omega), e3]
  omega
theorem bval_suc (f : Nat → Int) (n : Nat) : bval f (n + 1) = bval f n + f n * 2147483648 ^ n := rfl
theorem bval_up {f : Nat → Int} {i n : Nat} {x : Int} (hi : i < n) : bval (fun j => if j = i then x else f j) n = bval f n + (x - f i) * 2147483648 ^ i := by
  induction n with
  | zero => omega
  | succ n ih =>
    unfold bval
    by_cases h : i = n
    · subst h
      rw [if_pos rfl, bval_eq (f' := f) fun j hj => if_neg (by omega)]
      grind
    · rw [if_neg (by omega), ih (by omega)]
      omega
theorem bval_am {g : am_G} {k i n : Nat} {x : Int} (hi : i < n) : bval (am_up g k i x k) n = bval (g k) n + (x - g k i) * 2147483648 ^ i := by
  rw [← bval_up hi]
  exact bval_eq fun j _ => by unfold am_up; rw [if_pos rfl]
theorem bval_lo {g : am_G} {k i n : Nat} {x : Int} (hi : n ≤ i) : bval (am_up g k i x k) n = bval (g k) n := bval_eq fun j hj => up_nj (by omega)
/-- over a divisor: the limbs from s on are done, r is left -/
def OI (k sz : Nat) (d v : Int) (g h : am_G) (s : Nat) (r : Int) : Prop := s ≤ sz ∧ (0 ≤ r ∧ r < d) ∧ FrA (k + 1) g h ∧ (∀ j, j < s → h (k + 1) j = g (k + 1) j) ∧ BigL h k ∧ d * (bval (h (k + 1)) sz - bval (h (k + 1)) s) + r * 2147483648 ^ s + bval (g (k + 1)) s = v
theorem oi_zero {k sz : Nat} {d v : Int} {g : am_G} (h : BigW g k sz v) (hd : 0 < d) : OI k sz d v g g sz 0 := ⟨Nat.le_refl _, ⟨Int.le_refl _, hd⟩, fun _ _ _ => rfl, fun _ _ => rfl, h.2.2.1, by have := h.2.2.2; rw [this, Int.sub_self]; omega⟩
theorem oi_v {x d r : Int} (hx : 0 ≤ x ∧ x < 2147483648) (hr : 0 ≤ r ∧ r < d) : 0 ≤ (r * 2147483648 + x) ∧ (r * 2147483648 + x) / d < 2147483648 ∧ 0 ≤ (r * 2147483648 + x) / d ∧ 0 ≤ (r * 2147483648 + x) % d ∧ (r * 2147483648 + x) % d < d := by
  have h0 : 0 ≤ r * 2147483648 + x := by omega
  refine ⟨h0, ?_, Int.ediv_nonneg h0 (by omega), Int.emod_nonneg _ (by omega), Int.emod_lt_of_pos _ (by omega)⟩
  refine Int.ediv_lt_of_lt_mul (by omega) ?_
  omega
theorem oi_alg {S P X B G q1 q2 r d : Int} (e : d * q1 + q2 = r * 2147483648 + X) : d * (S + (q1 - X) * B - P) + q2 * B + G = d * (S - (P + X * B)) + r * (B * 2147483648) + (G + X * B) := by
  have e2 : q2 = r * 2147483648 + X - d * q1 := by omega
  rw [e2]
  grind
theorem oi_step {k sz i : Nat} {d v r x r' : Int} {g h : am_G} (H : OI k sz d v g h (i + 1) r) (hs : sz ≤ 40) (hd : d < 2147483648) (hx : x = (r * 2147483648 + h (k + 1) i) / d) (hr : r' = (r * 2147483648 + h (k + 1) i) % d) : OI k sz d v g (am_up h (k + 1) i x) i r' := by
  obtain ⟨h1, h2, h3, h4, h5, h6⟩ := H
  have hl := h5 i (by omega)
  have hv := oi_v hl h2
  subst hx; subst hr
  refine ⟨by omega, ⟨hv.2.2.2.1, hv.2.2.2.2⟩, fun a j ha => (up_ne ha).trans (h3 a j ha), fun j hj => ?_, h5.up1 ⟨hv.2.2.1, hv.2.1⟩, ?_⟩
  · rw [up_nj (by omega)]; exact h4 j (by omega)
  · rw [bval_am (by omega), bval_lo (Nat.le_refl _)]
    rw [bval_suc, bval_suc, b_suc] at h6
    rw [← h4 i (by omega)] at h6
    have e := Int.mul_ediv_add_emod (r * 2147483648 + h (k + 1) i) d
    generalize (r * 2147483648 + h (k + 1) i) / d = q1 at e ⊢
    generalize (r * 2147483648 + h (k + 1) i) % d = q2 at e ⊢
    rw [← h6]
    exact oi_alg e
theorem oi_end {k sz : Nat} {d v r : Int} {g h : am_G} (hB : BigW g k sz v) (H : OI k sz d v g h 0 r) : BigW h k sz (v / d) ∧ FrB k g h := by
  obtain ⟨e1, e2, e3, e4⟩ := hB
  obtain ⟨h1, h2, h3, h4, h5, h6⟩ := H
  refine ⟨⟨by rw [h3 k 1 (by omega)]; exact e1, e2, h5, ?_⟩, fun a j _ hb => h3 a j hb⟩
  have e : d * bval (h (k + 1)) sz + r = v := by
    have a1 : bval (h (k + 1)) 0 = 0 := rfl
    have a2 : bval (g (k + 1)) 0 = 0 := rfl
    have a3 : (2147483648 : Int) ^ 0 = 1 := rfl
    rw [a1, a2, a3, Int.sub_zero, Int.mul_one] at h6
    omega
  rw [← e, Int.add_comm (d * _) r, Int.add_mul_ediv_left _ _ (by omega), Int.ediv_eq_zero_of_lt h2.1 h2.2, Int.zero_add]
/-- the other number's limbs, 0 behind its size -/
def msk (f : Nat → Int) (m : Nat) (j : Nat) : Int := if j < m then f j else 0
theorem msk_in {f : Nat → Int} {m : Nat} (h : ∀ j, j < m → 0 ≤ f j ∧ f j < 2147483648) (j : Nat) : 0 ≤ msk f m j ∧ msk f m j < 2147483648 := by
  unfold msk
  split
  · exact h j (by assumption)
  · decide
theorem msk_val {f : Nat → Int} {m n : Nat} (h : m ≤ n) : bval (msk f m) n = bval f m := by
  induction n with
  | zero =>
    obtain rfl : m = 0 := by omega
    rfl
  | succ n ih =>
    by_cases e : m = n + 1
    · subst e
      exact bval_eq fun j hj => if_pos hj
    · have : msk f m n = 0 := if_neg (by omega)
      rw [bval_suc, ih (by omega), this, Int.zero_mul, Int.add_zero]
def PI (k a sz m : Nat) (g h : am_G) (i : Nat) (c : Int) : Prop := i ≤ sz ∧ (0 ≤ c ∧ c ≤ 1) ∧ FrA (k + 1) g h ∧ (∀ j, i ≤ j → h (k + 1) j = g (k + 1) j) ∧ BigL h k ∧ bval (h (k + 1)) i + c * 2147483648 ^ i = bval (g (k + 1)) i + bval (msk (g (a + 1)) m) i
theorem pi_zero {k a sz m : Nat} {v : Int} {g : am_G} (h : BigW g k sz v) : PI k a sz m g g 0 0 := ⟨Nat.zero_le _, by decide, fun _ _ _ => rfl, fun _ _ => rfl, h.2.2.1, by show (0 : Int) + 0 * 2147483648 ^ 0 = 0 + 0; omega⟩
theorem pi_step {k a sz m i : Nat} {w c y x c' : Int} {g h : am_G} (H : PI k a sz m g h i c) (hW : BigW g a m w) (hs : sz ≤ 40) (hi : i < sz) (hy : y = msk (g (a + 1)) m i) (hx : x = (y + c + h (k + 1) i) % 2147483648) (hc : c' = (y + c + h (k + 1) i) / 2147483648) : PI k a sz m g (am_up h (k + 1) i x) (i + 1) c' := by
  obtain ⟨h1, h2, h3, h4, h5, h6⟩ := H
  have hl := h5 i (by omega)
  have hm := msk_in (f := g (a + 1)) (m := m) (fun j hj => hW.2.2.1 j (by have := hW.2.1; omega)) i
  subst hx; subst hc; subst hy
  refine ⟨by omega, by omega, fun a j ha => (up_ne ha).trans (h3 a j ha), fun j hj => ?_, h5.up1 (by omega), ?_⟩
  · rw [up_nj (by omega)]; exact h4 j (by omega)
  · unfold bval
    rw [up_eq, bval_lo (Nat.le_refl _), b_suc, ← h4 i (Nat.le_refl _)]
    have e := Int.mul_ediv_add_emod (msk (g (a + 1)) m i + c + h (k + 1) i) 2147483648
    generalize (msk (g (a + 1)) m i + c + h (k + 1) i) / 2147483648 = q1 at e ⊢
    generalize (msk (g (a + 1)) m i + c + h (k + 1) i) % 2147483648 = q2 at e ⊢
    grind
theorem pi_end {k a sz m : Nat} {v w c : Int} {g h : am_G} (hB : BigW g k sz v) (hW : BigW g a m w) (hm : m ≤ sz) (H : PI k a sz m g h sz c) (ho : v + w < 2147483648 ^ 40) : BigW h k sz (v + w - c * 2147483648 ^ sz) ∧ (c ≠ 0 → sz < 40) ∧ FrB k g h := by
  obtain ⟨e1, e2, e3, e4⟩ := hB
  obtain ⟨h1, h2, h3, h4, h5, h6⟩ := H
  rw [e4, msk_val hm, hW.2.2.2] at h6
  have hv := bval_in (f := h (k + 1)) (n := sz) fun j hj => h5 j (by omega)
  refine ⟨⟨by rw [h3 k 1 (by omega)]; exact e1, e2, h5, by omega⟩, fun hc => ?_, fun a j _ hb => h3 a j hb⟩
  by_cases hs : sz < 40
  · exact hs
  obtain rfl : sz = 40 := by omega
  have := Int.mul_le_mul_of_nonneg_right (show 1 ≤ c by omega) (Int.le_of_lt (b_pos 40))
  omega
/-- what plus leaves has no empty top limb -/
theorem plus_top {g : am_G} {k sz s z m : Nat} {v w c : Int} (hB : BigW g k z (v + w)) (hv : 0 ≤ v) (hw : 0 ≤ w) (hsv : s = 0 ∨ 2147483648 ^ (s - 1) ≤ v) (hsw : m = 0 ∨ 2147483648 ^ (m - 1) ≤ w) (hsz : sz = s ∨ sz = m) (hz : z = sz ∨ z = sz + 1 ∧ c ≠ 0) (hc : 0 ≤ c) (hcv : c * 2147483648 ^ sz ≤ v + w) : BigR g k (v + w) := by
  refine ⟨z, hB, ?_⟩
  rcases hz with rfl | ⟨rfl, hc0⟩
  · rcases hsz with rfl | rfl
    · rcases hsv with h | h
      · exact Or.inl h
      · exact Or.inr (by omega)
    · rcases hsw with h | h
      · exact Or.inl h
      · exact Or.inr (by omega)
  · have := Int.mul_le_mul_of_nonneg_right (show 1 ≤ c by omega) (Int.le_of_lt (b_pos sz))
    exact Or.inr (by rw [Nat.add_sub_cancel]; omega)
def MI (k a sz m : Nat) (g h : am_G) (i : Nat) (c : Int) : Prop := i ≤ sz ∧ (0 ≤ c ∧ c ≤ 1) ∧ FrA (k + 1) g h ∧ (∀ j, i ≤ j → h (k + 1) j = g (k + 1) j) ∧ BigL h k ∧ bval (h (k + 1)) i - c * 2147483648 ^ i = bval (g (k + 1)) i - bval (msk (g (a + 1)) m) i
theorem mi_zero {k a sz m : Nat} {v : Int} {g : am_G} (h : BigW g k sz v) : MI k a sz m g g 0 0 := ⟨Nat.zero_le _, by decide, fun _ _ _ => rfl, fun _ _ => rfl, h.2.2.1, by show (0 : Int) - 0 * 2147483648 ^ 0 = 0 - 0; omega⟩
theorem mi_step {k a sz m i : Nat} {w c y x c' : Int} {g h : am_G} (H : MI k a sz m g h i c) (hW : BigW g a m w) (hs : sz ≤ 40) (hi : i < sz) (hy : y = msk (g (a + 1)) m i) (hx : x = (h (k + 1) i - c - y) % 2147483648) (hc : (h (k + 1) i - c - y < 0 ∧ c' = 1) ∨ (0 ≤ h (k + 1) i - c - y ∧ c' = 0)) : MI k a sz m g (am_up h (k + 1) i x) (i + 1) c' := by
  obtain ⟨h1, h2, h3, h4, h5, h6⟩ := H
  have hl := h5 i (by omega)
  have hm := msk_in (f := g (a + 1)) (m := m) (fun j hj => hW.2.2.1 j (by have := hW.2.1; omega)) i
  rw [← hy] at hm
  have e : x = h (k + 1) i - c - y + c' * 2147483648 := by omega
  refine ⟨by omega, by omega, fun a j ha => (up_ne ha).trans (h3 a j ha), fun j hj => ?_, h5.up1 (by omega), ?_⟩
  · rw [up_nj (by omega)]; exact h4 j (by omega)
  · unfold bval
    rw [up_eq, bval_lo (Nat.le_refl _), b_suc, ← h4 i (Nat.le_refl _), ← hy, e]
    grind
theorem mi_end {k a sz m : Nat} {v w c : Int} {g h : am_G} (hB : BigW g k sz v) (hW : BigW g a m w) (hm : m ≤ sz) (H : MI k a sz m g h sz c) (ho : w ≤ v) : BigW h k sz (v - w) ∧ FrB k g h := by
  have hvv := hB.in
  have hww := hW.in
  obtain ⟨e1, e2, e3, e4⟩ := hB
  obtain ⟨h1, h2, h3, h4, h5, h6⟩ := H
  rw [e4, msk_val hm, hW.2.2.2] at h6
  have hv := bval_in (f := h (k + 1)) (n := sz) fun j hj => h5 j (by omega)
  refine ⟨⟨by rw [h3 k 1 (by omega)]; exact e1, e2, h5, ?_⟩, fun a j _ hb => h3 a j hb⟩
  rcases (show c = 0 ∨ c = 1 by omega) with rfl | rfl
  · omega
  · omega
/-- sizes and values -/
theorem size_le {s m : Nat} {v w : Int} (hv : v < 2147483648 ^ s) (hw : m = 0 ∨ 2147483648 ^ (m - 1) ≤ w) (h : w ≤ v) : m ≤ s := by
  rcases hw with rfl | hw
  · omega
  by_cases hs : m ≤ s
  · exact hs
  have := b_le (show s ≤ m - 1 by omega)
  omega
def RI (k a sz : Nat) (g : am_G) (s : Nat) : Prop := s ≤ sz ∧ bval (g (k + 1)) sz - bval (g (k + 1)) s = bval (g (a + 1)) sz - bval (g (a + 1)) s
theorem ri_step {k a sz i : Nat} {g : am_G} (H : RI k a sz g (i + 1)) (h : g (k + 1) i = g (a + 1) i) : RI k a sz g i := by
  obtain ⟨h1, h2⟩ := H
  rw [bval_suc, bval_suc, h] at h2
  exact ⟨by omega, by omega⟩
theorem ri_lt {k a sz i : Nat} {v w : Int} {g : am_G} (hB : BigW g k sz v) (hW : BigW g a sz w) (H : RI k a sz g (i + 1)) (h : g (k + 1) i < g (a + 1) i) : v < w := by
  obtain ⟨h1, h2⟩ := H
  rw [hB.2.2.2, hW.2.2.2, bval_suc, bval_suc] at h2
  have := hB.2.1
  have a1 := bval_in (f := g (k + 1)) (n := i) fun j hj => hB.2.2.1 j (by omega)
  have a2 := bval_in (f := g (a + 1)) (n := i) fun j hj => hW.2.2.1 j (by omega)
  have a3 := Int.mul_le_mul_of_nonneg_right (show g (k + 1) i + 1 ≤ g (a + 1) i by omega) (Int.le_of_lt (b_pos i))
  rw [Int.add_mul] at a3
  omega
theorem RI.symm {k a sz s : Nat} {g : am_G} (H : RI k a sz g s) : RI a k sz g s := ⟨H.1, H.2.symm⟩
theorem size_lt {s m : Nat} {v w : Int} (hv : v < 2147483648 ^ s) (hw : m = 0 ∨ 2147483648 ^ (m - 1) ≤ w) (h : s < m) : v < w := by
  rcases hw with rfl | hw
  · omega
  have := b_le (show s ≤ m - 1 by omega)
  omega
abbrev Dj (k a : Nat) : Prop := a ≠ k ∧ a ≠ k + 1 ∧ a + 1 ≠ k
theorem BigW.fr {k sz : Nat} {g g' : am_G} {a : Nat} {v : Int} (h : BigW g a sz v) (hf : FrB k g g') (hd : Dj k a) : BigW g' a sz v := by
  obtain ⟨e1, e2, e3, e4⟩ := h
  refine ⟨?_, e2, ?_, ?_⟩
  · rw [hf a 1 hd.1 hd.2.1]; exact e1
  · intro j hj; rw [hf (a + 1) j hd.2.2 (by omega)]; exact e3 j hj
  · rw [← e4]; exact bval_eq fun j _ => hf (a + 1) j hd.2.2 (by omega)
theorem BigR.fr' {k : Nat} {g g' : am_G} {a : Nat} {v : Int} (h : BigR g a v) (hf : FrB k g g') (hd : Dj k a) : BigR g' a v := h.fr hf hd.1 hd.2.1 hd.2.2
theorem BigR.L {g : am_G} {k : Nat} {v : Int} (h : BigR g k v) : BigL g k := by
  obtain ⟨sz, h, _⟩ := h
  exact h.2.2.1

