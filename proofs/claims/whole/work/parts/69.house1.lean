/-! HOUSE: what is so of its days -/
def eb (w : Nat) (s k : Nat) : Nat := if s / 2 ^ k % 2 = 1 then 0 else w
def wrn (s : Nat) : Nat → Nat
  | 0 => 0
  | k + 1 => eb (wrn s k) s k + 1
theorem wrn_s (s k : Nat) : wrn s (k + 1) = eb (wrn s k) s k + 1 := rfl
def cst (p l q : Int) (s : Nat) : Nat → Int
  | 0 => 0
  | k + 1 => cst p l q s k + (if s / 2 ^ k % 2 = 1 then p else 0) + (if l ≤ (eb (wrn s k) s k : Int) then q else 0)
theorem cst_s (p l q : Int) (s k : Nat) : cst p l q s (k + 1) = cst p l q s k + (if s / 2 ^ k % 2 = 1 then p else 0) + (if l ≤ (eb (wrn s k) s k : Int) then q else 0) := rfl
theorem wrn_b {s k : Nat} (hb : s / 2 ^ k % 2 = 1) : wrn s (k + 1) = 1 := by rw [wrn_s, eb, if_pos hb]
theorem wrn_n {s k : Nat} (hb : ¬ s / 2 ^ k % 2 = 1) : wrn s (k + 1) = wrn s k + 1 := by rw [wrn_s, eb, if_neg hb]
theorem cst_b {p l q : Int} {s k : Nat} (hb : s / 2 ^ k % 2 = 1) : cst p l q s (k + 1) = cst p l q s k + p + (if l ≤ 0 then q else 0) := by
  rw [cst_s, eb, if_pos hb, if_pos hb]
  rfl
theorem cst_n {p l q : Int} {s k : Nat} (hb : ¬ s / 2 ^ k % 2 = 1) : cst p l q s (k + 1) = cst p l q s k + (if l ≤ (wrn s k : Int) then q else 0) := by
  rw [cst_s, eb, if_neg hb, if_neg hb, Int.add_zero]
theorem wrn_le (s k : Nat) : wrn s k ≤ k := by
  induction k with
  | zero => exact Nat.le_refl _
  | succ k ih =>
    by_cases hb : s / 2 ^ k % 2 = 1
    · rw [wrn_b hb]; omega
    · rw [wrn_n hb]; omega
theorem cst_in {p l q : Int} (hp : 0 ≤ p ∧ p ≤ 9999) (hq : 0 ≤ q ∧ q ≤ 9999) (s k : Nat) : 0 ≤ cst p l q s k ∧ cst p l q s k ≤ 19998 * (k : Int) := by
  induction k with
  | zero => exact ⟨Int.le_refl _, Int.le_refl _⟩
  | succ k ih =>
    by_cases hb : s / 2 ^ k % 2 = 1
    · rw [cst_b hb]; split <;> omega
    · rw [cst_n hb]; split <;> omega
theorem bit_hi {s k j : Nat} (hj : j < k) : (s + 2 ^ k) / 2 ^ j % 2 = s / 2 ^ j % 2 := by
  obtain ⟨e, rfl⟩ : ∃ e, k = j + (e + 1) := ⟨k - j - 1, by omega⟩
  rw [Nat.pow_add, Nat.add_mul_div_left _ _ (Nat.pow_pos (by decide)), Nat.pow_succ, Nat.mul_comm (2 ^ e) 2, Nat.add_mul_mod_self_left]
theorem bit_no {s k : Nat} (h : s < 2 ^ k) : ¬ s / 2 ^ k % 2 = 1 := by
  rw [Nat.div_eq_of_lt h]
  decide
theorem bit_at {s k : Nat} (h : s < 2 ^ k) : (s + 2 ^ k) / 2 ^ k % 2 = 1 := by
  rw [Nat.add_div_right _ (Nat.pow_pos (by decide)), Nat.div_eq_of_lt h]
theorem bit_sp {s k : Nat} (h : s < 2 ^ (k + 1)) : (¬ s / 2 ^ k % 2 = 1 ∧ s < 2 ^ k) ∨ (s / 2 ^ k % 2 = 1 ∧ ∃ t, t < 2 ^ k ∧ s = t + 2 ^ k) := by
  rw [Nat.pow_succ] at h
  by_cases e : s < 2 ^ k
  · exact Or.inl ⟨bit_no e, e⟩
  · have e2 : s = (s - 2 ^ k) + 2 ^ k := by omega
    refine Or.inr ⟨?_, s - 2 ^ k, by omega, e2⟩
    rw [e2]
    exact bit_at (by omega)
theorem wrn_hi {s k : Nat} : ∀ j, j ≤ k → wrn (s + 2 ^ k) j = wrn s j := by
  intro j
  induction j with
  | zero => intro _; rfl
  | succ j ih =>
    intro hj
    rw [wrn_s, wrn_s, ih (by omega), eb, eb, bit_hi (by omega)]
theorem cst_hi {p l q : Int} {s k : Nat} : ∀ j, j ≤ k → cst p l q (s + 2 ^ k) j = cst p l q s j := by
  intro j
  induction j with
  | zero => intro _; rfl
  | succ j ih =>
    intro hj
    rw [cst_s, cst_s, ih (by omega), wrn_hi j (by omega), eb, eb, bit_hi (by omega)]
/-- what a line of days is worth -/
def wth (p l q : Int) (s k : Nat) : Int := cst p l q s k * 1048576 + (s : Int)
def hls (l q : Int) (a : Nat) : Int := if l ≤ (a : Int) then q * 1048576 else 0
theorem wth_in {p l q : Int} (hp : 0 ≤ p ∧ p ≤ 9999) (hq : 0 ≤ q ∧ q ≤ 9999) {s k : Nat} (hk : k ≤ 20) (hs : s < 2 ^ k) : 0 ≤ wth p l q s k ∧ wth p l q s k < 1152921504606846976 / 2 := by
  have h := cst_in (l := l) hp hq s k
  have h2 : 2 ^ k ≤ 2 ^ 20 := Nat.pow_le_pow_right (by decide) hk
  unfold wth
  omega
theorem hls_in {l q : Int} (hq : 0 ≤ q ∧ q ≤ 9999) (a : Nat) : 0 ≤ hls l q a ∧ hls l q a ≤ 10484711424 := by
  unfold hls
  split <;> omega
theorem wth_n {p l q : Int} {s k : Nat} (hb : ¬ s / 2 ^ k % 2 = 1) : wth p l q s (k + 1) = wth p l q s k + hls l q (wrn s k) := by
  unfold wth hls
  rw [cst_n hb]
  split <;> omega
theorem wth_b {p l q : Int} {s k : Nat} (h : s < 2 ^ k) : wth p l q (s + 2 ^ k) (k + 1) = wth p l q s k + (p * 1048576 + ((2 ^ k : Nat) : Int) + hls l q 0) := by
  unfold wth hls
  rw [cst_b (bit_at h), cst_hi k (Nat.le_refl _), Int.natCast_add]
  show _ = _ + (_ + _ + if l ≤ 0 then q * 1048576 else 0)
  generalize ((2 ^ k : Nat) : Int) = B
  split <;> omega
def Pl (p l q : Int) (k a : Nat) (v : Int) : Prop := (∀ s, s < 2 ^ k → wrn s k = a → v ≤ wth p l q s k) ∧ ((∃ s, s < 2 ^ k ∧ wrn s k = a ∧ v = wth p l q s k) ∨ (1152921504606846976 ≤ v ∧ v ≤ 1152921504606846976 + 10484711424 * (k : Int)))
theorem Pl.inr {p l q : Int} (hp : 0 ≤ p ∧ p ≤ 9999) (hq : 0 ≤ q ∧ q ≤ 9999) {k a : Nat} {v : Int} (hk : k ≤ 20) (h : Pl p l q k a v) : 0 ≤ v ∧ v ≤ 1152921504606846976 + 10484711424 * 20 := by
  rcases h.2 with ⟨s, h1, h2, h3⟩ | h3
  · have := wth_in (l := l) hp hq hk h1
    omega
  · omega
theorem pl_up {p l q : Int} (hq : 0 ≤ q ∧ q ≤ 9999) {k a : Nat} {v : Int} (ha : 1 ≤ a) (h : Pl p l q k a v) : Pl p l q (k + 1) (a + 1) (v + hls l q a) := by
  have hl := hls_in (l := l) hq a
  refine ⟨fun s hs hw => ?_, ?_⟩
  · rcases bit_sp hs with ⟨hb, h1⟩ | ⟨hb, t, h1, h2⟩
    · rw [wrn_n hb] at hw
      have hw2 : wrn s k = a := by omega
      have := h.1 s h1 hw2
      rw [wth_n hb, hw2]
      omega
    · rw [wrn_b hb] at hw
      omega
  · rcases h.2 with ⟨s, h1, h2, h3⟩ | h3
    · have hb := bit_no h1
      refine Or.inl ⟨s, ?_, ?_, ?_⟩
      · rw [Nat.pow_succ]; omega
      · rw [wrn_n hb, h2]
      · rw [wth_n hb, h2, h3]
    · right
      omega
theorem pl_zero {p l q : Int} {k : Nat} : Pl p l q (k + 1) 0 1152921504606846976 := by
  refine ⟨fun s hs hw => ?_, Or.inr ⟨Int.le_refl _, by omega⟩⟩
  rw [wrn_s] at hw
  omega
def Mn (p l q : Int) (k : Nat) (m : Int) : Prop := (∀ s, s < 2 ^ k → m ≤ wth p l q s k) ∧ ∃ s, s < 2 ^ k ∧ m = wth p l q s k
theorem pl_one {p l q : Int} (hp : 0 ≤ p ∧ p ≤ 9999) (hq : 0 ≤ q ∧ q ≤ 9999) {k : Nat} {v m x : Int} (hk : k + 1 ≤ 20) (h : Pl p l q k 0 v) (hm : Mn p l q k m) (h1 : x ≤ v + hls l q 0) (h2 : x ≤ m + (p * 1048576 + ((2 ^ k : Nat) : Int) + hls l q 0)) (h3 : x = v + hls l q 0 ∨ x = m + (p * 1048576 + ((2 ^ k : Nat) : Int) + hls l q 0)) : Pl p l q (k + 1) 1 x := by
  have hl := hls_in (l := l) hq 0
  obtain ⟨s0, hs0, hm0⟩ := hm.2
  have hs1 : s0 + 2 ^ k < 2 ^ (k + 1) := by rw [Nat.pow_succ]; omega
  have hr : m + (p * 1048576 + ((2 ^ k : Nat) : Int) + hls l q 0) = wth p l q (s0 + 2 ^ k) (k + 1) := by rw [wth_b hs0, hm0]
  have hri := wth_in (l := l) hp hq hk hs1
  have top : ∃ s, s < 2 ^ (k + 1) ∧ wrn s (k + 1) = 1 ∧ m + (p * 1048576 + ((2 ^ k : Nat) : Int) + hls l q 0) = wth p l q s (k + 1) := ⟨s0 + 2 ^ k, hs1, wrn_b (bit_at hs0), hr⟩
  refine ⟨fun s hs hw => ?_, ?_⟩
  · rcases bit_sp hs with ⟨hb, h4⟩ | ⟨hb, t, h4, h5⟩
    · rw [wrn_n hb] at hw
      have hw2 : wrn s k = 0 := by omega
      have := h.1 s h4 hw2
      rw [wth_n hb, hw2]
      omega
    · have := hm.1 t h4
      rw [h5, wth_b h4]
      omega
  · rcases h3 with h3 | h3
    · rcases h.2 with ⟨s, h4, h5, h6⟩ | h6
      · have hb := bit_no h4
        refine Or.inl ⟨s, ?_, ?_, ?_⟩
        · rw [Nat.pow_succ]; omega
        · rw [wrn_n hb, h5]
        · rw [wth_n hb, h5, h3, h6]
      · exfalso
        omega
    · rw [h3]
      exact Or.inl top
theorem mn_of {p l q : Int} (hp : 0 ≤ p ∧ p ≤ 9999) (hq : 0 ≤ q ∧ q ≤ 9999) {k : Nat} {m : Int} {f : Nat → Int} (hk : k ≤ 20) (h : ∀ a, a ≤ k → Pl p l q k a (f a)) (h1 : ∀ a, a ≤ k → m ≤ f a) (h2 : m = 1152921504606846976 ∨ ∃ a, a ≤ k ∧ m = f a) : Mn p l q k m := by
  have lo : ∀ s, s < 2 ^ k → m ≤ wth p l q s k := fun s hs => Int.le_trans (h1 _ (wrn_le s k)) ((h _ (wrn_le s k)).1 s hs rfl)
  refine ⟨lo, ?_⟩
  have h0 := lo 0 (Nat.pow_pos (by decide))
  have h3 := wth_in (l := l) hp hq hk (show 0 < 2 ^ k from Nat.pow_pos (by decide))
  rcases h2 with h2 | ⟨a, ha, h2⟩
  · exfalso; omega
  · rcases (h a ha).2 with ⟨s, h4, h5, h6⟩ | h6
    · exact ⟨s, h4, h2.trans h6⟩
    · exfalso; omega
def IsHo (p l q : Int) (D : Nat) (C S : Int) : Prop := ∃ s, s < 2 ^ D ∧ C = cst p l q s D ∧ S = (s : Int) ∧ ∀ t, t < 2 ^ D → C * 1048576 + S ≤ wth p l q t D
theorem Mn.ho {p l q : Int} {D : Nat} {m : Int} (hD : D ≤ 20) (h : Mn p l q D m) : IsHo p l q D (m / 1048576) (m % 1048576) := by
  obtain ⟨h1, s, h2, h3⟩ := h
  have h4 : 2 ^ D ≤ 2 ^ 20 := Nat.pow_le_pow_right (by decide) hD
  unfold wth at h3
  refine ⟨s, h2, by omega, by omega, fun t ht => ?_⟩
  have := h1 t ht
  omega
theorem IsHo.uniq {p l q : Int} {D : Nat} {C S C' S' : Int} (hD : D ≤ 20) (h : IsHo p l q D C S) (h' : IsHo p l q D C' S') : C = C' ∧ S = S' := by
  obtain ⟨s, a1, a2, a3, a4⟩ := h
  obtain ⟨t, b1, b2, b3, b4⟩ := h'
  have h4 : 2 ^ D ≤ 2 ^ 20 := Nat.pow_le_pow_right (by decide) hD
  have h5 := a4 t b1
  have h6 := b4 s a1
  unfold wth at h5 h6
  rw [← b2, ← b3] at h5
  rw [← a2, ← a3] at h6
  omega
/-! bits, by their places -/
theorem lshl20 {v : Int} (h0 : 0 ≤ v) (h1 : v < 2147483648) : (Int64.ofInt v <<< ((Int32.ofInt 20).toInt64 &&& 63)).toInt = v * 1048576 := by
  obtain ⟨n, rfl⟩ := Int.eq_ofNat_of_zero_le h0
  have e1 : (BitVec.ofInt 64 (n : Int)).toNat = n := by
    rw [BitVec.toNat_ofInt]
    omega
  have e2 : ((Int32.ofInt 20).toInt64 &&& 63) = 20 := by decide
  rw [e2]
  have e3 : (BitVec.ofInt 64 (n : Int) <<< 20).toNat = n * 1048576 := by
    rw [BitVec.toNat_shiftLeft, e1, Nat.shiftLeft_eq]
    omega
  show (BitVec.ofInt 64 (n : Int) <<< 20).toInt = _
  rw [BitVec.toInt_eq_toNat_of_lt (by rw [e3]; omega), e3]
  omega
theorem land20 {v : Int} (h0 : 0 ≤ v) (h1 : v < 9223372036854775808) : (Int64.ofInt v &&& Int64.ofInt 1048575).toInt = v % 1048576 := by
  obtain ⟨n, rfl⟩ := Int.eq_ofNat_of_zero_le h0
  have e1 : (BitVec.ofInt 64 (n : Int)).toNat = n := by
    rw [BitVec.toNat_ofInt]
    omega
  have e2 : (BitVec.ofInt 64 (1048575 : Int)).toNat = 1048575 := by rfl
  have e3 : (BitVec.ofInt 64 (n : Int) &&& BitVec.ofInt 64 1048575).toNat = n % 1048576 := by
    rw [BitVec.toNat_and, e1, e2]
    exact Nat.and_two_pow_sub_one_eq_mod n 20
  show (BitVec.ofInt 64 (n : Int) &&& BitVec.ofInt 64 1048575).toInt = _
  rw [BitVec.toInt_eq_toNat_of_lt (by rw [e3]; omega), e3]
  omega
theorem lshr20 {v : Int} (h0 : 0 ≤ v) (h1 : v < 9223372036854775808) : (Int64.ofInt v >>> ((Int32.ofInt 20).toInt64 &&& 63)).toInt = v / 1048576 := by
  obtain ⟨n, rfl⟩ := Int.eq_ofNat_of_zero_le h0
  have e1 : (BitVec.ofInt 64 (n : Int)).toInt = (n : Int) := by
    rw [BitVec.toInt_ofInt]
    rw [Int.bmod_def]
    omega
  have e2 : ((Int32.ofInt 20).toInt64 &&& 63) = 20 := by decide
  rw [e2]
  show ((BitVec.ofInt 64 (n : Int)).sshiftRight 20).toInt = _
  rw [BitVec.toInt_sshiftRight, e1, Int.shiftRight_eq_div_pow]
  rfl
theorem lshl_k {k : Nat} (hk : k < 20) : (Int64.ofInt 1 <<< ((Int32.ofInt (k : Int)).toInt64 &&& 63)).toInt = ((2 ^ k : Nat) : Int) := by
  have h : ∀ k : Fin 20, (Int64.ofInt 1 <<< ((Int32.ofInt (k.val : Int)).toInt64 &&& 63)).toInt = ((2 ^ k.val : Nat) : Int) := by decide +kernel
  exact h ⟨k, hk⟩
theorem ishl_k {k : Nat} (hk : k < 21) : (Int32.ofInt 1 <<< (Int32.ofInt (k : Int) &&& 31)).toInt = ((2 ^ k : Nat) : Int) := by
  have h : ∀ k : Fin 21, (Int32.ofInt 1 <<< (Int32.ofInt (k.val : Int) &&& 31)).toInt = ((2 ^ k.val : Nat) : Int) := by decide +kernel
  exact h ⟨k, hk⟩
theorem ishr_k {s k : Nat} (hs : s < 2147483648) (hk : k < 20) : (Int32.ofInt (s : Int) >>> (Int32.ofInt (k : Int) &&& 31)).toInt = ((s / 2 ^ k : Nat) : Int) := by
  have e1 : (BitVec.ofInt 32 (s : Int)).toInt = (s : Int) := by
    rw [BitVec.toInt_ofInt]
    rw [Int.bmod_def]
    omega
  have h : ∀ k : Fin 20, ((Int32.ofInt (k.val : Int) &&& 31).toBitVec.smod 32).toNat = k.val := by decide +kernel
  show ((BitVec.ofInt 32 (s : Int)).sshiftRight ((Int32.ofInt (k : Int) &&& 31).toBitVec.smod 32).toNat).toInt = _
  rw [h ⟨k, hk⟩, BitVec.toInt_sshiftRight, e1, Int.shiftRight_eq_div_pow]
  rfl
theorem iand_1 {s : Nat} (hs : s < 2147483648) : (Int32.ofInt (s : Int) &&& Int32.ofInt 1).toInt = ((s % 2 : Nat) : Int) := by
  have e1 : (BitVec.ofInt 32 (s : Int)).toNat = s := by
    rw [BitVec.toNat_ofInt]
    omega
  have e2 : (BitVec.ofInt 32 (1 : Int)).toNat = 1 := by rfl
  have e3 : (BitVec.ofInt 32 (s : Int) &&& BitVec.ofInt 32 1).toNat = s % 2 := by
    rw [BitVec.toNat_and, e1, e2]
    exact Nat.and_two_pow_sub_one_eq_mod s 1
  show (BitVec.ofInt 32 (s : Int) &&& BitVec.ofInt 32 1).toInt = _
  rw [BitVec.toInt_eq_toNat_of_lt (by rw [e3]; omega), e3]
theorem ibit_k {s k : Nat} (hs : s < 2147483648) (hk : k < 20) : (Int32.ofInt (Int32.ofInt (s : Int) >>> (Int32.ofInt (k : Int) &&& 31)).toInt &&& Int32.ofInt 1).toInt = ((s / 2 ^ k % 2 : Nat) : Int) := by
  rw [ishr_k hs hk, iand_1 (Nat.lt_of_le_of_lt (Nat.div_le_self _ _) hs)]
