/-! SPANS: what is so of tails -/
theorem tl_end (p q : Int) (t : Nat) : tl p q t (t + 1) = 0 := Int.sub_self _
theorem tl_d (p q : Int) (t k : Nat) : bt p q t k = tl p q t k - tl p q t (k + 1) := by
  unfold tl
  rw [ps_s _ k]
  omega
theorem tl_mono {p p' : Int} (h0 : 0 ≤ p) (h1 : p ≤ p') (h2 : p' ≤ 1000) : ∀ t k, k ≤ t + 1 → tl p (1000 - p) t k ≤ tl p' (1000 - p') t k := by
  intro t
  induction t with
  | zero =>
    intro k hk
    rcases (show k = 0 ∨ k = 0 + 1 by omega) with e | e <;> subst e
    · rw [tl_0, tl_0, Int.pow_zero, Int.pow_zero]; exact Int.le_refl _
    · rw [tl_end, tl_end]; exact Int.le_refl _
  | succ t ih =>
    intro k hk
    cases k with
    | zero => rw [tl_0, tl_0, show p + (1000 - p) = 1000 by omega, show p' + (1000 - p') = 1000 by omega]; exact Int.le_refl _
    | succ k =>
      by_cases e : k = t + 1
      · subst e; rw [tl_end, tl_end]; exact Int.le_refl _
      · have a1 := ih k (by omega)
        have a2 := ih (k + 1) (by omega)
        have b1 := bt_nn h0 (show 0 ≤ 1000 - p by omega) t k
        rw [tl_d] at b1
        rw [tl_s _ _ t k (by omega), tl_s _ _ t k (by omega), tl_d p, tl_d p', show p + (1000 - p) = 1000 by omega, show p' + (1000 - p') = 1000 by omega]
        generalize tl p (1000 - p) t k = A at *
        generalize tl p (1000 - p) t (k + 1) = B at *
        generalize tl p' (1000 - p') t k = A' at *
        generalize tl p' (1000 - p') t (k + 1) = B' at *
        have c1 := Int.mul_le_mul_of_nonneg_right a2 (show 0 ≤ 1000 - p' by omega)
        have c2 := Int.mul_le_mul_of_nonneg_right a1 (show 0 ≤ p' by omega)
        have c3 := Int.mul_le_mul_of_nonneg_left h1 b1
        have e1 : B * 1000 + (A - B) * p = B * (1000 - p') + A * p' - ((A - B) * p' - (A - B) * p) := by grind
        have e2 : B' * 1000 + (A' - B') * p' = B' * (1000 - p') + A' * p' := by grind
        rw [e1, e2]
        omega
theorem ps_tl (p q : Int) (t k : Nat) : ps (bt p q t) k = (p + q) ^ t - tl p q t k := by
  unfold tl
  rw [bt_all]
  omega
theorem tl_sym (p q : Int) : ∀ t k, k ≤ t + 1 → tl q p t (t + 1 - k) = (p + q) ^ t - tl p q t k := by
  intro t
  induction t with
  | zero =>
    intro k hk
    rcases (show k = 0 ∨ k = 0 + 1 by omega) with e | e <;> subst e
    · rw [show 0 + 1 - 0 = 0 + 1 from rfl, tl_end, tl_0, Int.sub_self]
    · rw [show 0 + 1 - (0 + 1) = 0 from rfl, tl_end, tl_0, Int.pow_zero, Int.pow_zero]; rfl
  | succ t ih =>
    intro k hk
    cases k with
    | zero => rw [Nat.sub_zero, tl_end, tl_0, Int.sub_self]
    | succ k =>
      by_cases e : k = t + 1
      · subst e
        rw [Nat.sub_self, tl_0, tl_end, Int.sub_zero, Int.add_comm]
      · have a1 := ih k (by omega)
        have a2 := ih (k + 1) (by omega)
        rw [show t + 1 + 1 - (k + 1) = (t - k) + 1 by omega, tl_s q p t (t - k) (by omega), tl_d q p, tl_s p q t k (by omega), tl_d p q, Int.pow_succ, show t - k + 1 = t + 1 - k by omega, a1, show t - k = t + 1 - (k + 1) by omega, a2]
        generalize (p + q) ^ t = S
        generalize tl p q t k = A
        generalize tl p q t (k + 1) = B
        grind
/-- the near tail as a far one -/
theorem ps_sym {p q : Int} {t x : Nat} (hx : x ≤ t) : ps (bt p q t) (x + 1) = tl q p t (t - x) := by
  have := tl_sym p q t (x + 1) (by omega)
  rw [show t + 1 - (x + 1) = t - x by omega] at this
  rw [ps_tl, this]
theorem LK.up {n x : Nat} {d q q' : Int} (h : LK n x d q) (h0 : 0 ≤ q) (h1 : q ≤ q') (h2 : q' ≤ 1000) (hd : 0 ≤ d) (hx : x ≤ n + 1) : LK n x d q' := Int.le_trans h (Int.mul_le_mul_of_nonneg_right (tl_mono h0 h1 h2 n x hx) hd)
theorem LK.two {n x : Nat} {d q : Int} (h : LK n x 2 q) (h0 : 0 ≤ q) (h2 : q ≤ 1000) (hd : 2 ≤ d) (hx : x ≤ n + 1) : LK n x d q := Int.le_trans h (Int.mul_le_mul_of_nonneg_left hd (tl_in h0 (by omega) hx).1)
theorem IsLeast.le {n x : Nat} {d r q : Int} (h : IsLeast n x d r) (hd : 0 ≤ d) (hx : x ≤ n + 1) (h0 : 0 ≤ q) (h2 : q ≤ 1000) (hq : LK n x d q) : r ≤ q := by
  obtain ⟨a1, a2, a3, a4⟩ := h
  by_cases e : r ≤ q
  · exact e
  · exfalso
    rcases a3 with a3 | a3
    · omega
    · exact a3 (hq.up h0 (by omega) (by omega) hd hx)
theorem IsLeast.uniq {n x : Nat} {d r r' : Int} (h : IsLeast n x d r) (h' : IsLeast n x d r') (hd : 0 ≤ d) (hx : x ≤ n + 1) : r = r' := by
  have k1 : r ≤ r' := by
    rcases h'.2.2.2 with a | a
    · have := h.2.1; omega
    · exact h.le hd hx h'.1 h'.2.1 a
  have k2 : r' ≤ r := by
    rcases h.2.2.2 with a | a
    · have := h'.2.1; omega
    · exact h'.le hd hx h.1 h.2.1 a
  omega
/-- a tail, reckoned over Nat -/
def hz (n a c : Nat) : Nat → Nat × Nat
  | 0 => (0, 1)
  | d + 1 => ((hz n a c d).1 * a + (hz n a c d).2, (hz n a c d).2 * ((n - d) * c) / (d + 1))
theorem hz_s (n a c d : Nat) : hz n a c (d + 1) = ((hz n a c d).1 * a + (hz n a c d).2, (hz n a c d).2 * ((n - d) * c) / (d + 1)) := rfl
theorem hz_ok (n a c : Nat) : ∀ d, d ≤ n + 1 → (((hz n a c d).1 : Nat) : Int) = hs (hT (c : Int) n) (a : Int) n d ∧ (((hz n a c d).2 : Nat) : Int) = if d ≤ n then hT (c : Int) n (n - d) else 0 := by
  intro d
  induction d with
  | zero =>
    intro _
    refine ⟨rfl, ?_⟩
    rw [if_pos (Nat.zero_le _)]
    unfold hT
    rw [Nat.sub_zero, Nat.sub_self, Int.pow_zero, cb_self]
    rfl
  | succ d ih =>
    intro hd
    obtain ⟨h1, h2⟩ := ih (by omega)
    rw [if_pos (show d ≤ n by omega)] at h2
    rw [hz_s]
    refine ⟨?_, ?_⟩
    · show (((hz n a c d).1 * a + (hz n a c d).2 : Nat) : Int) = _
      rw [hs_s, Int.natCast_add, Int.natCast_mul, h1, h2]
    · show (((hz n a c d).2 * ((n - d) * c) / (d + 1) : Nat) : Int) = _
      rw [← hT_next (show d ≤ n by omega), ← h2, Int.natCast_ediv, Int.natCast_mul, Int.natCast_mul, Int.natCast_sub (show d ≤ n by omega), Int.natCast_add]
      rfl
theorem hz_tl {n a c k : Nat} (hk : k ≤ n + 1) : ((a ^ k * (hz n a c (n + 1 - k)).1 : Nat) : Int) = tl (a : Int) (c : Int) n k := by
  have h := hs_tl (a := (a : Int)) (b := (c : Int)) (n := n) (n + 1 - k) (by omega)
  rw [show n + 1 - (n + 1 - k) = k by omega] at h
  rw [Int.natCast_mul, Int.natCast_pow, (hz_ok n a c (n + 1 - k) (by omega)).1]
  exact h
def wq (n x : Nat) : Nat := (1000 * x + n / 2) / n
def wok (n x : Nat) : Bool := Nat.ble (1000 ^ n) (wq n x ^ x * (hz n (wq n x) (1000 - wq n x) (n + 1 - x)).1 * 2) && (Nat.ble (1000 ^ n) ((1000 - wq n x) ^ (n - x) * (hz n (1000 - wq n x) (wq n x) (x + 1)).1 * 2) && Nat.ble (wq n x) 1000)
def wrow (n : Nat) : Nat → Bool
  | 0 => true
  | x + 1 => wok n x && wrow n x
theorem wrow_of {n : Nat} : ∀ {m : Nat}, wrow n m = true → ∀ x, x < m → wok n x = true := by
  intro m
  induction m with
  | zero => intro _ x hx; exact absurd hx (Nat.not_lt_zero _)
  | succ m ih =>
    intro h x hx
    have h2 : (wok n m && wrow n m) = true := h
    rw [Bool.and_eq_true] at h2
    by_cases e : x = m
    · rw [e]; exact h2.1
    · exact ih h2.2 x (by omega)
def wal : Nat → Bool
  | 0 => true
  | n + 1 => wrow (n + 1) (n + 2) && wal n
theorem wal_of : ∀ {m : Nat}, wal m = true → ∀ n, n < m → wrow (n + 1) (n + 2) = true := by
  intro m
  induction m with
  | zero => intro _ x hx; exact absurd hx (Nat.not_lt_zero _)
  | succ m ih =>
    intro h x hx
    have h2 : (wrow (m + 1) (m + 2) && wal m) = true := h
    rw [Bool.and_eq_true] at h2
    by_cases e : x = m
    · rw [e]; exact h2.1
    · exact ih h2.2 x (by omega)
theorem wal_60 : wal 60 = true := by decide +kernel
theorem wit {n x : Nat} (hn : 1 ≤ n ∧ n ≤ 60) (hx : x ≤ n) : ∃ q : Int, 0 ≤ q ∧ q ≤ 1000 ∧ LK n x 2 q ∧ LK n (n - x) 2 (1000 - q) := by
  have h := wal_of wal_60 (n - 1) (by omega)
  rw [show n - 1 + 1 = n by omega, show n - 1 + 2 = n + 1 by omega] at h
  have h2 := wrow_of h x (by omega)
  unfold wok at h2
  rw [Bool.and_eq_true, Bool.and_eq_true] at h2
  obtain ⟨k1, k2, k3⟩ := h2
  have k1 := Nat.le_of_ble_eq_true k1
  have k2 := Nat.le_of_ble_eq_true k2
  have k3 := Nat.le_of_ble_eq_true k3
  have e1 : ((1000 - wq n x : Nat) : Int) = 1000 - (wq n x : Int) := by omega
  refine ⟨(wq n x : Int), by omega, by omega, ?_, ?_⟩
  · have t1 := hz_tl (n := n) (a := wq n x) (c := 1000 - wq n x) (k := x) (by omega)
    unfold LK
    rw [e1] at t1
    rw [← t1]
    have := Int.ofNat_le.mpr k1
    rw [Int.natCast_mul, Int.natCast_pow] at this
    exact this
  · have t1 := hz_tl (n := n) (a := 1000 - wq n x) (c := wq n x) (k := n - x) (by omega)
    unfold LK
    rw [e1, show n + 1 - (n - x) = x + 1 by omega] at t1
    rw [show (1000 : Int) - (1000 - (wq n x : Int)) = (wq n x : Int) by omega, ← t1]
    have := Int.ofNat_le.mpr k2
    rw [Int.natCast_mul, Int.natCast_pow] at this
    exact this
/-- a span holds something -/
theorem span_ne {n x : Nat} {d lo r : Int} (hn : 1 ≤ n ∧ n ≤ 60) (hx : x ≤ n) (hd : 2 ≤ d) (h : IsLeast n x d lo) (h' : IsLeast n (n - x) d r) : lo ≤ 1000 - r := by
  obtain ⟨q, q0, q1, a, a'⟩ := wit hn hx
  have k1 := h.le (by omega) (by omega) q0 q1 (a.two q0 q1 hd (by omega))
  have k2 := h'.le (by omega) (by omega) (by omega) (by omega) (a'.two (by omega) (by omega) hd (by omega))
  omega
