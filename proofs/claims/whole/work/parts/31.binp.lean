/-! BINOMIALS: pure rows. bt p q t k: the weight of k of t, where one has weight p and the other q -/
def bt (p q : Int) : Nat → Nat → Int
  | 0, 0 => 1
  | 0, _ + 1 => 0
  | t + 1, 0 => bt p q t 0 * q
  | t + 1, k + 1 => bt p q t (k + 1) * q + bt p q t k * p
theorem bt_s (p q : Int) (t k : Nat) : bt p q (t + 1) (k + 1) = bt p q t (k + 1) * q + bt p q t k * p := by rw [bt]
theorem bt_0 (p q : Int) (t : Nat) : bt p q (t + 1) 0 = bt p q t 0 * q := by rw [bt]
theorem bt_gt {p q : Int} : ∀ {t k : Nat}, t < k → bt p q t k = 0 := by
  intro t
  induction t with
  | zero =>
    intro k h
    obtain ⟨j, rfl⟩ : ∃ j, k = j + 1 := ⟨k - 1, by omega⟩
    rw [bt]
  | succ t ih =>
    intro k h
    obtain ⟨j, rfl⟩ : ∃ j, k = j + 1 := ⟨k - 1, by omega⟩
    rw [bt_s, ih (by omega), ih (by omega)]
    omega
theorem bt_nn {p q : Int} (hp : 0 ≤ p) (hq : 0 ≤ q) : ∀ t k, 0 ≤ bt p q t k := by
  intro t
  induction t with
  | zero =>
    intro k
    cases k with
    | zero => rw [bt]; decide
    | succ k => rw [bt]; exact Int.le_refl _
  | succ t ih =>
    intro k
    cases k with
    | zero => rw [bt_0]; exact Int.mul_nonneg (ih 0) hq
    | succ k =>
      rw [bt_s]
      have h1 := Int.mul_nonneg (ih (k + 1)) hq
      have h2 := Int.mul_nonneg (ih k) hp
      omega
def ps (f : Nat → Int) : Nat → Int
  | 0 => 0
  | n + 1 => ps f n + f n
theorem ps_s (f : Nat → Int) (n : Nat) : ps f (n + 1) = ps f n + f n := rfl
theorem ps_mono {f : Nat → Int} (h : ∀ k, 0 ≤ f k) {m n : Nat} (hm : m ≤ n) : ps f m ≤ ps f n := by
  induction hm with
  | refl => exact Int.le_refl _
  | step _ ih =>
    rename_i n _
    rw [ps_s]
    have := h n
    omega
theorem ps_eq {f f' : Nat → Int} {n : Nat} (h : ∀ k, k < n → f k = f' k) : ps f n = ps f' n := by
  induction n with
  | zero => rfl
  | succ n ih => rw [ps_s, ps_s, ih fun k hk => h k (by omega), h n (by omega)]
theorem bt_ps (p q : Int) (t k : Nat) : ps (bt p q (t + 1)) (k + 1) = ps (bt p q t) (k + 1) * q + ps (bt p q t) k * p := by
  induction k with
  | zero =>
    rw [ps_s, ps_s, bt_0]
    show 0 + _ = (0 + _) * q + 0 * p
    rw [Int.zero_mul, Int.add_zero, Int.zero_add, Int.zero_add]
  | succ k ih =>
    rw [ps_s, ih, bt_s, ps_s _ (k + 1), ps_s _ k]
    generalize ps (bt p q t) k = A
    generalize bt p q t k = B
    generalize bt p q t (k + 1) = C
    grind
theorem bt_all (p q : Int) (t : Nat) : ps (bt p q t) (t + 1) = (p + q) ^ t := by
  induction t with
  | zero => rw [ps_s, bt, Int.pow_zero]; rfl
  | succ t ih =>
    rw [bt_ps, ps_s _ (t + 1), bt_gt (Nat.lt_succ_self t), ih, Int.pow_succ, Int.add_zero, Int.mul_add, Int.add_comm]
theorem ps_le {p q : Int} (hp : 0 ≤ p) (hq : 0 ≤ q) (t k : Nat) : 0 ≤ ps (bt p q t) k ∧ ps (bt p q t) k ≤ (p + q) ^ t := by
  have hn := bt_nn hp hq t
  refine ⟨ps_mono (f := bt p q t) hn (Nat.zero_le k), ?_⟩
  rw [← bt_all]
  by_cases h : k ≤ t + 1
  · exact ps_mono hn h
  · have : ∀ d, ps (bt p q t) (t + 1 + d) = ps (bt p q t) (t + 1) := by
      intro d
      induction d with
      | zero => rfl
      | succ d ih => rw [show t + 1 + (d + 1) = t + 1 + d + 1 from rfl, ps_s, ih, bt_gt (by omega), Int.add_zero]
    have h2 := this (k - (t + 1))
    rw [show t + 1 + (k - (t + 1)) = k by omega] at h2
    rw [h2]
    exact Int.le_refl _
theorem bt_le {p q : Int} (hp : 0 ≤ p) (hq : 0 ≤ q) (t k : Nat) : bt p q t k ≤ (p + q) ^ t := by
  have h1 := (ps_le hp hq t (k + 1)).2
  have h2 := (ps_le hp hq t k).1
  rw [ps_s] at h1
  omega
/-- k or more of t -/
def tl (p q : Int) (t k : Nat) : Int := ps (bt p q t) (t + 1) - ps (bt p q t) k
theorem tl_in {p q : Int} (hp : 0 ≤ p) (hq : 0 ≤ q) {t k : Nat} (hk : k ≤ t + 1) : 0 ≤ tl p q t k ∧ tl p q t k ≤ (p + q) ^ t := by
  have h1 := ps_mono (bt_nn hp hq t) hk
  have h2 := ps_le hp hq t k
  unfold tl
  rw [bt_all] at h1 ⊢
  omega
/-- the number of choices -/
def cb : Nat → Nat → Int
  | _, 0 => 1
  | 0, _ + 1 => 0
  | n + 1, k + 1 => cb n k + cb n (k + 1)
theorem cb_s (n k : Nat) : cb (n + 1) (k + 1) = cb n k + cb n (k + 1) := by rw [cb]
theorem cb_0 (n : Nat) : cb n 0 = 1 := by cases n <;> rw [cb]
theorem cb_gt : ∀ {n k : Nat}, n < k → cb n k = 0 := by
  intro n
  induction n with
  | zero =>
    intro k h
    obtain ⟨j, rfl⟩ : ∃ j, k = j + 1 := ⟨k - 1, by omega⟩
    rw [cb]
  | succ n ih =>
    intro k h
    obtain ⟨j, rfl⟩ : ∃ j, k = j + 1 := ⟨k - 1, by omega⟩
    rw [cb_s, ih (by omega), ih (by omega)]
    rfl
theorem cb_nn : ∀ n k : Nat, 0 ≤ cb n k := by
  intro n
  induction n with
  | zero =>
    intro k
    cases k with
    | zero => rw [cb]; decide
    | succ k => rw [cb]; exact Int.le_refl _
  | succ n ih =>
    intro k
    cases k with
    | zero => rw [cb]; decide
    | succ k =>
      rw [cb_s]
      have := ih k
      have := ih (k + 1)
      omega
theorem cb_step : ∀ n k : Nat, ((k : Int) + 1) * cb n (k + 1) = ((n : Int) - k) * cb n k := by
  intro n
  induction n with
  | zero =>
    intro k
    cases k with
    | zero => rw [cb, cb]; decide
    | succ k => rw [cb_gt (by omega), cb_gt (by omega)]; omega
  | succ n ih =>
    intro k
    cases k with
    | zero =>
      have h := ih 0
      rw [cb_0] at h
      rw [cb_s, cb_0, cb_0]
      generalize cb n (0 + 1) = X at *
      omega
    | succ k =>
      have h1 := ih k
      have h2 := ih (k + 1)
      rw [cb_s n (k + 1), cb_s n k]
      simp only [Int.natCast_add, Int.natCast_one] at *
      generalize cb n k = A at *
      generalize cb n (k + 1) = B at *
      generalize cb n (k + 1 + 1) = C at *
      grind
theorem bt_cb (p q : Int) : ∀ t d k : Nat, t = k + d → bt p q t k = cb t k * p ^ k * q ^ d := by
  intro t
  induction t with
  | zero =>
    intro d k h
    obtain rfl : k = 0 := by omega
    obtain rfl : d = 0 := by omega
    rw [bt, cb, Int.pow_zero, Int.pow_zero]
    rfl
  | succ t ih =>
    intro d k h
    cases k with
    | zero =>
      obtain ⟨e, rfl⟩ : ∃ e, d = e + 1 := ⟨d - 1, by omega⟩
      rw [bt_0, ih e 0 (by omega), cb_0, cb_0, Int.pow_succ q]
      simp only [Int.pow_zero, Int.one_mul]
    | succ k =>
      rw [bt_s, ih d k (by omega), cb_s, Int.pow_succ p]
      cases d with
      | zero =>
        rw [bt_gt (show t < k + 1 by omega), cb_gt (show t < k + 1 by omega)]
        grind
      | succ d =>
        rw [ih d (k + 1) (by omega), Int.pow_succ p, Int.pow_succ q]
        grind
/-- Horner's sum, from the top: d terms done -/
def hs (T : Nat → Int) (a : Int) (n : Nat) : Nat → Int
  | 0 => 0
  | d + 1 => hs T a n d * a + T (n - d)
theorem hs_s (T : Nat → Int) (a : Int) (n d : Nat) : hs T a n (d + 1) = hs T a n d * a + T (n - d) := rfl
theorem hs_nn {T : Nat → Int} {a : Int} {n : Nat} (hT : ∀ k, 0 ≤ T k) (ha : 0 ≤ a) : ∀ d, 0 ≤ hs T a n d := by
  intro d
  induction d with
  | zero => exact Int.le_refl _
  | succ d ih =>
    rw [hs_s]
    have := Int.mul_nonneg ih ha
    have := hT (n - d)
    omega
theorem hs_tl {a b : Int} {n : Nat} : ∀ d, d ≤ n + 1 → a ^ (n + 1 - d) * hs (fun j => cb n j * b ^ (n - j)) a n d = ps (bt a b n) (n + 1) - ps (bt a b n) (n + 1 - d) := by
  intro d
  induction d with
  | zero =>
    intro _
    rw [Nat.sub_zero, Int.sub_self]
    exact Int.mul_zero _
  | succ d ih =>
    intro hd
    have h := ih (by omega)
    rw [show n + 1 - d = n - d + 1 by omega, Int.pow_succ, ps_s _ (n - d)] at h
    rw [show n + 1 - (d + 1) = n - d by omega, hs_s]
    have e := bt_cb a b n d (n - d) (by omega)
    rw [e] at h
    show a ^ (n - d) * (_ * a + cb n (n - d) * b ^ (n - (n - d))) = _
    rw [show n - (n - d) = d by omega]
    generalize hs (fun j => cb n j * b ^ (n - j)) a n d = X at *
    generalize a ^ (n - d) = A at *
    generalize cb n (n - d) = C at *
    generalize b ^ d = B at *
    generalize ps (bt a b n) (n + 1) = U at *
    generalize ps (bt a b n) (n - d) = V at *
    grind
theorem hs_le {a b : Int} {n d : Nat} (ha : 0 ≤ a) (hb : 0 ≤ b) (hd : d ≤ n + 1) : hs (fun j => cb n j * b ^ (n - j)) a n d ≤ (a + b + 1) ^ n := by
  have hT : ∀ k, 0 ≤ cb n k * b ^ (n - k) := fun k => Int.mul_nonneg (cb_nn n k) (Int.pow_nonneg hb)
  have hpw : ∀ m : Nat, (a + b) ^ m ≤ (a + b + 1) ^ m := by
    intro m
    induction m with
    | zero => rw [Int.pow_zero, Int.pow_zero]; exact Int.le_refl _
    | succ m ih =>
      rw [Int.pow_succ, Int.pow_succ]
      exact Int.mul_le_mul ih (by omega) (by omega) (Int.pow_nonneg (by omega))
  by_cases h0 : a = 0
  · subst h0
    cases d with
    | zero => exact Int.pow_nonneg (by omega)
    | succ d =>
      rw [hs_s, Int.mul_zero, Int.zero_add]
      have e := bt_cb 1 b n d (n - d) (by omega)
      rw [Int.one_pow, Int.mul_one] at e
      show cb n (n - d) * b ^ (n - (n - d)) ≤ _
      rw [show n - (n - d) = d by omega, ← e, show (0 : Int) + b + 1 = 1 + b by omega]
      exact bt_le (by decide) hb n (n - d)
  · have h1 := hs_tl (a := a) (b := b) d hd
    have h2 := ps_le ha hb n (n + 1 - d)
    rw [bt_all] at h1
    have h3 : 0 < a ^ (n + 1 - d) := Int.pow_pos (by omega)
    have h4 := Int.mul_le_mul_of_nonneg_right (show 1 ≤ a ^ (n + 1 - d) by omega) (hs_nn (n := n) hT ha d)
    have h5 := hpw n
    omega

