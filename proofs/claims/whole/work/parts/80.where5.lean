/-! WHERE: chances at a table, ways in their order -/
/-- what is told, in its bounds -/
def BkH (P n : Nat) (l ev tb fl sc : Nat → Int) : Prop := (5 ≤ P ∧ P ≤ 37) ∧ (∀ j, j < 148 → 1 ≤ l j ∧ l j ≤ 99) ∧ (∀ i, i < n → (0 ≤ ev i ∧ ev i ≤ 3) ∧ (0 ≤ tb i ∧ tb i ≤ 2) ∧ (-1 ≤ fl i ∧ fl i ≤ (P : Int) - 1)) ∧ n ≤ 200 ∧ (∀ j, j < 12 → -1 ≤ sc j ∧ sc j ≤ 3) ∧ ∀ e : Nat, e < 4 → spn ev tb fl e 0 n + spn ev tb fl e 1 n + spn ev tb fl e 2 n ≤ 24
theorem spn_ofE {g : am_G} {d : Nat} {e : Int} (n : Nat) : spn (g (11 + d)) (g (12 + d)) (g (14 + d)) e 0 n + spn (g (11 + d)) (g (12 + d)) (g (14 + d)) e 1 n + spn (g (11 + d)) (g (12 + d)) (g (14 + d)) e 2 n ≤ ofE g d e n := by
  induction n with
  | zero => exact Nat.le_refl _
  | succ n ih =>
    rw [spn, spn, spn, ofE]
    by_cases h : g (11 + d) n = e
    · rw [if_pos h]
      rcases (show (g (12 + d) n ≠ 0 ∧ g (12 + d) n ≠ 1 ∧ g (12 + d) n ≠ 2) ∨ g (12 + d) n = 0 ∨ g (12 + d) n = 1 ∨ g (12 + d) n = 2 by omega) with q | q | q | q
      · rw [if_neg (fun k => q.1 k.2.1), if_neg (fun k => q.2.1 k.2.1), if_neg (fun k => q.2.2 k.2.1)]; omega
      · rw [if_neg (fun k : _ ∧ g (12 + d) n = 1 ∧ _ => by have := k.2.1; omega), if_neg (fun k : _ ∧ g (12 + d) n = 2 ∧ _ => by have := k.2.1; omega)]; split <;> omega
      · rw [if_neg (fun k : _ ∧ g (12 + d) n = 0 ∧ _ => by have := k.2.1; omega), if_neg (fun k : _ ∧ g (12 + d) n = 2 ∧ _ => by have := k.2.1; omega)]; split <;> omega
      · rw [if_neg (fun k : _ ∧ g (12 + d) n = 0 ∧ _ => by have := k.2.1; omega), if_neg (fun k : _ ∧ g (12 + d) n = 1 ∧ _ => by have := k.2.1; omega)]; split <;> omega
    · rw [if_neg (fun k => h k.1), if_neg (fun k => h k.1), if_neg (fun k => h k.1), if_neg h]; omega
theorem CInv.bk {P : Nat} {g : am_G} (h : CInv P g) : BkH P (g 10 4).toNat (g 3) (g 11) (g 12) (g 14) (g 15) := by
  have hn := h.rg.r10_6 4 rfl
  refine ⟨h.ck.1, fun j hj => h.rg.r3_1 j hj, fun i hi => ⟨h.rg.r11_10 i (by omega), h.rg.r12_11 i (by omega), h.rg.r14_13 i (by omega)⟩, by omega, fun j hj => h.rg.r15_14 j hj, fun e he => ?_⟩
  exact Nat.le_trans (spn_ofE (d := 0) _) (h.e24 e (by omega) (by omega))
theorem lsum_in {l : Nat → Int} {w : Nat} (hl : ∀ j, j < 148 → 1 ≤ l j ∧ l j ≤ 99) (hw : w < 4) : ∀ n : Nat, n ≤ 37 → (n : Int) ≤ lsum l w n ∧ lsum l w n ≤ 99 * (n : Int) := by
  intro n
  induction n with
  | zero => intro _; exact ⟨Int.le_refl _, Int.le_refl _⟩
  | succ n ih =>
    intro hn
    have h1 := ih (by omega)
    have h2 := hl (37 * w + n) (by omega)
    rw [lsum]
    omega
theorem mul_in {a b m k : Int} (h1 : 1 ≤ a ∧ a ≤ m) (h2 : 1 ≤ b ∧ b ≤ k) : 1 ≤ a * b ∧ a * b ≤ m * k := by
  have e1 := Int.mul_le_mul h1.1 h2.1 (by decide) (by omega)
  have e2 := Int.mul_le_mul h1.2 h2.2 (by omega) (by omega)
  omega
theorem oth_in {P w : Nat} {l : Nat → Int} (h5 : 5 ≤ P ∧ P ≤ 37) (hl : ∀ j, j < 148 → 1 ≤ l j ∧ l j ≤ 99) : 1 ≤ oth l P w ∧ oth l P w ≤ 49148555247 := by
  have h (u : Nat) (hu : u < 4) : 1 ≤ lsum l u P ∧ lsum l u P ≤ 3663 := by
    have := lsum_in hl hu P (by omega)
    omega
  exact mul_in (h _ (by omega)) (mul_in (h _ (by omega)) (h _ (by omega)))
def chn (P : Nat) (l ev tb fl : Nat → Int) (e : Int) (t w : Nat) : Nat → Int
  | 0 => 1
  | n + 1 => chn P l ev tb fl e t w n * (if ev n = e ∧ tb n = (t : Int) ∧ fl n ≠ -1 then l (37 * w + (fl n).toNat) * oth l P w else 1)
theorem chn_in {P n : Nat} {l ev tb fl sc : Nat → Int} (H : BkH P n l ev tb fl sc) {e : Int} {t w : Nat} (hw : w < 4) : ∀ i, i ≤ n → 1 ≤ chn P l ev tb fl e t w i ∧ chn P l ev tb fl e t w i ≤ 8796093022208 ^ spn ev tb fl e t i := by
  intro i
  induction i with
  | zero => intro _; exact ⟨Int.le_refl _, by show (1 : Int) ≤ 8796093022208 ^ 0; decide⟩
  | succ i ih =>
    intro hi
    have h1 := ih (by omega)
    have h2 := H.2.2.1 i (by omega)
    have h5 := H.1
    rw [chn, spn]
    by_cases h : ev i = e ∧ tb i = (t : Int) ∧ fl i ≠ -1
    · rw [if_pos h, if_pos h, Int.pow_succ]
      have h3 := h2.2.2
      have h4 := mul_in (H.2.1 (37 * w + (fl i).toNat) (by omega)) (oth_in (w := w) H.1 H.2.1)
      exact mul_in h1 ⟨h4.1, Int.le_trans h4.2 (by decide)⟩
    · rw [if_neg h, if_neg h, Int.mul_one]; exact h1
theorem chn_none {P : Nat} {l ev tb fl : Nat → Int} {e : Int} {t w : Nat} : ∀ i, spn ev tb fl e t i = 0 → chn P l ev tb fl e t w i = 1 := by
  intro i
  induction i with
  | zero => intro _; rfl
  | succ i ih =>
    rw [spn, chn]
    by_cases h : ev i = e ∧ tb i = (t : Int) ∧ fl i ≠ -1
    · rw [if_pos h]; intro q; omega
    · rw [if_neg h, if_neg h, Int.mul_one]; intro q; exact ih (by omega)
theorem lkw_chn {P n : Nat} {l ev tb fl sc : Nat → Int} (H : BkH P n l ev tb fl sc) {e : Int} {w : Nat → Int} : ∀ i, i ≤ n → lkw P l ev tb fl e w i = chn P l ev tb fl e 0 (w 0).toNat i * chn P l ev tb fl e 1 (w 1).toNat i * chn P l ev tb fl e 2 (w 2).toNat i := by
  intro i
  induction i with
  | zero => intro _; rfl
  | succ i ih =>
    intro hi
    have h2 := (H.2.2.1 i (by omega)).2.1
    rw [lkw, ih (by omega), chn, chn, chn, fac]
    by_cases h : ev i = e ∧ fl i ≠ -1
    · rw [if_pos h]
      rcases (show tb i = 0 ∨ tb i = 1 ∨ tb i = 2 by omega) with q | q | q
      · rw [if_pos (show ev i = e ∧ tb i = ((0 : Nat) : Int) ∧ fl i ≠ -1 from ⟨h.1, q, h.2⟩), if_neg (show ¬ (ev i = e ∧ tb i = ((1 : Nat) : Int) ∧ fl i ≠ -1) by omega), if_neg (show ¬ (ev i = e ∧ tb i = ((2 : Nat) : Int) ∧ fl i ≠ -1) by omega), q]
        show _ * (l (37 * (w 0).toNat + (fl i).toNat) * oth l P (w 0).toNat) = _
        grind
      · rw [if_neg (show ¬ (ev i = e ∧ tb i = ((0 : Nat) : Int) ∧ fl i ≠ -1) by omega), if_pos (show ev i = e ∧ tb i = ((1 : Nat) : Int) ∧ fl i ≠ -1 from ⟨h.1, q, h.2⟩), if_neg (show ¬ (ev i = e ∧ tb i = ((2 : Nat) : Int) ∧ fl i ≠ -1) by omega), q]
        show _ * (l (37 * (w 1).toNat + (fl i).toNat) * oth l P (w 1).toNat) = _
        grind
      · rw [if_neg (show ¬ (ev i = e ∧ tb i = ((0 : Nat) : Int) ∧ fl i ≠ -1) by omega), if_neg (show ¬ (ev i = e ∧ tb i = ((1 : Nat) : Int) ∧ fl i ≠ -1) by omega), if_pos (show ev i = e ∧ tb i = ((2 : Nat) : Int) ∧ fl i ≠ -1 from ⟨h.1, q, h.2⟩), q]
        show _ * (l (37 * (w 2).toNat + (fl i).toNat) * oth l P (w 2).toNat) = _
        grind
    · rw [if_neg h, if_neg (show ¬ (ev i = e ∧ tb i = ((0 : Nat) : Int) ∧ fl i ≠ -1) from fun k => h ⟨k.1, k.2.2⟩), if_neg (show ¬ (ev i = e ∧ tb i = ((1 : Nat) : Int) ∧ fl i ≠ -1) from fun k => h ⟨k.1, k.2.2⟩), if_neg (show ¬ (ev i = e ∧ tb i = ((2 : Nat) : Int) ∧ fl i ≠ -1) from fun k => h ⟨k.1, k.2.2⟩)]
      simp only [Int.mul_one]
/-- of the first u tables of a way -/
def prw (P : Nat) (l ev tb fl : Nat → Int) (n : Nat) (e : Int) (w : Nat → Int) : Nat → Int
  | 0 => 1
  | u + 1 => prw P l ev tb fl n e w u * chn P l ev tb fl e u (w u).toNat n
def smT (ev tb fl : Nat → Int) (n : Nat) (e : Int) : Nat → Nat
  | 0 => 0
  | u + 1 => smT ev tb fl n e u + spn ev tb fl e u n
theorem prw_in {P n : Nat} {l ev tb fl sc : Nat → Int} (H : BkH P n l ev tb fl sc) {e : Int} {w : Nat → Int} (hw : ∀ t, t < 3 → w t < 4) : ∀ u, u ≤ 3 → 1 ≤ prw P l ev tb fl n e w u ∧ prw P l ev tb fl n e w u ≤ 8796093022208 ^ smT ev tb fl n e u := by
  intro u
  induction u with
  | zero => intro _; exact ⟨Int.le_refl _, by show (1 : Int) ≤ 8796093022208 ^ 0; decide⟩
  | succ u ih =>
    intro hu
    have := hw u (by omega)
    rw [prw, smT, Int.pow_add]
    exact mul_in (ih (by omega)) (chn_in H (by omega) n (Nat.le_refl _))
theorem smT_le {ev tb fl : Nat → Int} {n : Nat} {e : Int} : ∀ u, u ≤ 3 → smT ev tb fl n e u ≤ spn ev tb fl e 0 n + spn ev tb fl e 1 n + spn ev tb fl e 2 n := by
  intro u hu
  have h3 : smT ev tb fl n e 3 = 0 + spn ev tb fl e 0 n + spn ev tb fl e 1 n + spn ev tb fl e 2 n := rfl
  have h2 : smT ev tb fl n e 2 = 0 + spn ev tb fl e 0 n + spn ev tb fl e 1 n := rfl
  have h1 : smT ev tb fl n e 1 = 0 + spn ev tb fl e 0 n := rfl
  have h0 : smT ev tb fl n e 0 = 0 := rfl
  rcases (show u = 0 ∨ u = 1 ∨ u = 2 ∨ u = 3 by omega) with q | q | q | q <;> subst q <;> omega
theorem prw_le {P n e : Nat} {l ev tb fl sc : Nat → Int} (H : BkH P n l ev tb fl sc) (he : e < 4) {w : Nat → Int} (hw : ∀ t, t < 3 → w t < 4) {u : Nat} (hu : u ≤ 3) : 1 ≤ prw P l ev tb fl n e w u ∧ prw P l ev tb fl n e w u ≤ 8796093022208 ^ 24 := by
  have h1 := prw_in H (e := e) hw u hu
  exact ⟨h1.1, Int.le_trans h1.2 (pow_up (by decide) (Nat.le_trans (smT_le u hu) (H.2.2.2.2.2 e he)))⟩
theorem prw_lkw {P n : Nat} {l ev tb fl sc : Nat → Int} (H : BkH P n l ev tb fl sc) {e : Int} {w : Nat → Int} : prw P l ev tb fl n e w 3 = lkw P l ev tb fl e w n := by
  rw [lkw_chn H n (Nat.le_refl _)]
  show 1 * _ * _ * _ = _
  rw [Int.one_mul]
theorem prw_eq {P : Nat} {l ev tb fl : Nat → Int} {n : Nat} {e : Int} {w w' : Nat → Int} : ∀ u, (∀ t, t < u → w t = w' t) → prw P l ev tb fl n e w u = prw P l ev tb fl n e w' u := by
  intro u
  induction u with
  | zero => intro _; rfl
  | succ u ih => intro h; rw [prw, prw, ih fun t ht => h t (by omega), h u (by omega)]
theorem wy_in (k t : Nat) (hk : k < 125) : -1 ≤ wy k t ∧ wy k t < 4 := by
  unfold wy
  split
  · omega
  · split <;> omega
theorem wy0 (k : Nat) : wy k 0 = ((k / 25 : Nat) : Int) - 1 := rfl
theorem wy1 (k : Nat) : wy k 1 = ((k / 5 % 5 : Nat) : Int) - 1 := rfl
theorem wy2 (k : Nat) : wy k 2 = ((k % 5 : Nat) : Int) - 1 := rfl
theorem lk_in {P n e : Nat} {l ev tb fl sc : Nat → Int} (H : BkH P n l ev tb fl sc) (he : e < 4) {k : Nat} (hk : k < 125) : 1 ≤ lkw P l ev tb fl e (wy k) n ∧ lkw P l ev tb fl e (wy k) n ≤ 8796093022208 ^ 24 := by
  rw [← prw_lkw H]
  exact prw_le H he (fun t _ => (wy_in k t hk).2) (Nat.le_refl _)
/-! which ways can be, table by table -/
def lcx (ev tb fl sc : Nat → Int) (n e : Nat) (w : Nat → Int) (t : Nat) : Prop := ((0 < spn ev tb fl e t n ∧ 0 ≤ w t ∧ mst sc e t (w t)) ∨ (spn ev tb fl e t n = 0 ∧ w t = -1)) ∧ ∀ u, u < t → 0 ≤ w t → w t ≠ w u
theorem lcx_eq {ev tb fl sc : Nat → Int} {n e : Nat} {w w' : Nat → Int} {t : Nat} (h : ∀ u, u ≤ t → w' u = w u) (H : lcx ev tb fl sc n e w t) : lcx ev tb fl sc n e w' t := by
  obtain ⟨h1, h2⟩ := H
  unfold lcx
  rw [h t (Nat.le_refl _)]
  exact ⟨h1, fun u hu => by rw [h u (by omega)]; exact h2 u hu⟩
theorem ok_lcx {ev tb fl sc : Nat → Int} {n e : Nat} {w : Nat → Int} (hw : ∀ t, t < 3 → -1 ≤ w t) (hs : ∀ j, j < 12 → -1 ≤ sc j ∧ sc j ≤ 3) (he : e < 4) (h : okw ev tb fl sc n e w) : ∀ t, t < 3 → lcx ev tb fl sc n e w t := by
  intro t ht
  have h1 := h.1 t ht
  have h2 := hw t ht
  refine ⟨?_, h1.2⟩
  by_cases h0 : 0 < spn ev tb fl e t n
  · refine Or.inl ⟨h0, h1.1.mp h0, ?_⟩
    by_cases h3 : 0 ≤ sc (3 * e + t)
    · exact Or.inr ⟨by omega, ((h.2 t ht h3).1 h0).symm⟩
    · have := hs (3 * e + t) (by omega)
      refine Or.inl ⟨by omega, ?_⟩
      rintro ⟨u, u1, u2, u3⟩
      have h5 := h1.1.mp h0
      exact ((h.2 u u1 (by omega)).2 t ht (fun q => u2 q.symm)).1 u3.symm
  · exact Or.inr ⟨by omega, by have : ¬ 0 ≤ w t := fun q => h0 (h1.1.mpr q); omega⟩
theorem lcx_ok {ev tb fl sc : Nat → Int} {n e : Nat} {w : Nat → Int} (hc : ¬ cls sc e) (h : ∀ t, t < 3 → lcx ev tb fl sc n e w t) : okw ev tb fl sc n e w := by
  refine ⟨fun t ht => ⟨?_, (h t ht).2⟩, fun t ht h0 => ⟨fun hs => ?_, fun u hu hut => ⟨fun q => ?_, fun q => hc ⟨t, ht, by omega, u, hu, hut, q⟩⟩⟩⟩
  · rcases (h t ht).1 with ⟨q1, q2, q3⟩ | ⟨q1, q2⟩
    · exact ⟨fun _ => q2, fun _ => q1⟩
    · exact ⟨fun q => absurd q (by omega), fun q => absurd q (by omega)⟩
  · rcases (h t ht).1 with ⟨q1, q2, q3⟩ | ⟨q1, q2⟩
    · rcases q3 with ⟨q4, q5⟩ | ⟨q4, q5⟩
      · omega
      · exact q5.symm
    · omega
  · rcases (h u hu).1 with ⟨q1, q2, q3⟩ | ⟨q1, q2⟩
    · rcases q3 with ⟨q4, q5⟩ | ⟨q4, q5⟩
      · exact q5 ⟨t, ht, fun k => hut k.symm, q.symm⟩
      · exact hc ⟨t, ht, by omega, u, hu, hut, q5.trans q⟩
    · omega
theorem cls_no {ev tb fl sc : Nat → Int} {n e : Nat} {w : Nat → Int} (hs : ∀ j, j < 12 → -1 ≤ sc j ∧ sc j ≤ 3) (he : e < 4) (hc : cls sc e) : ¬ okw ev tb fl sc n e w := by
  obtain ⟨t, ht, h1, u, hu, h2, h3⟩ := hc
  intro h
  have := hs (3 * e + t) (by omega)
  exact ((h.2 t ht (by omega)).2 u hu h2).2 h3
/-! counting -/
theorem cntW_s (p : Nat → Prop) (n : Nat) : cntW p (n + 1) = cntW p n + @ite Nat (p n) (Classical.propDecidable _) 1 0 := rfl
theorem sumW_s (p : Nat → Prop) (v : Nat → Int) (n : Nat) : sumW p v (n + 1) = sumW p v n + @ite Int (p n) (Classical.propDecidable _) (v n) 0 := rfl
theorem cntW_y {p : Nat → Prop} {n : Nat} (h : p n) : cntW p (n + 1) = cntW p n + 1 := by rw [cntW_s, if_pos h]
theorem cntW_n {p : Nat → Prop} {n : Nat} (h : ¬ p n) : cntW p (n + 1) = cntW p n := by rw [cntW_s, if_neg h]; rfl
theorem sumW_y {p : Nat → Prop} {v : Nat → Int} {n : Nat} (h : p n) : sumW p v (n + 1) = sumW p v n + v n := by rw [sumW_s, if_pos h]
theorem sumW_n {p : Nat → Prop} {v : Nat → Int} {n : Nat} (h : ¬ p n) : sumW p v (n + 1) = sumW p v n := by rw [sumW_s, if_neg h, Int.add_zero]
theorem cntW_le (p : Nat → Prop) (n : Nat) : cntW p n ≤ n := by
  induction n with
  | zero => exact Nat.le_refl _
  | succ n ih =>
    by_cases h : p n
    · rw [cntW_y h]; omega
    · rw [cntW_n h]; omega
theorem cntW_0 {p : Nat → Prop} {n : Nat} : cntW p n = 0 → ∀ k, k < n → ¬ p k := by
  induction n with
  | zero => intro _ k hk; omega
  | succ n ih =>
    intro h k hk
    by_cases q : p n
    · rw [cntW_y q] at h; omega
    · rw [cntW_n q] at h
      by_cases e : k = n
      · subst e; exact q
      · exact ih h k (by omega)
theorem cntW_no {p : Nat → Prop} {n : Nat} : (∀ k, k < n → ¬ p k) → cntW p n = 0 := by
  induction n with
  | zero => intro _; rfl
  | succ n ih => intro h; rw [cntW_n (h n (by omega)), ih fun k hk => h k (by omega)]
theorem sumW_no {p : Nat → Prop} {v : Nat → Int} {n : Nat} : (∀ k, k < n → ¬ p k) → sumW p v n = 0 := by
  induction n with
  | zero => intro _; rfl
  | succ n ih => intro h; rw [sumW_n (h n (by omega)), ih fun k hk => h k (by omega)]
theorem sumW_in {p : Nat → Prop} {v : Nat → Int} {M : Int} (h : ∀ k, k < 125 → 1 ≤ v k ∧ v k ≤ M) : ∀ n : Nat, n ≤ 125 → 0 ≤ sumW p v n ∧ sumW p v n ≤ (n : Int) * M := by
  intro n
  induction n with
  | zero => intro _; exact ⟨Int.le_refl _, by rw [show ((0 : Nat) : Int) = 0 from rfl, Int.zero_mul]; exact Int.le_refl _⟩
  | succ n ih =>
    intro hn
    have h1 := ih (by omega)
    have h2 := h n (by omega)
    have e : ((n + 1 : Nat) : Int) * M = (n : Int) * M + M := by rw [Int.natCast_add, Int.add_mul]; omega
    rw [e]
    by_cases q : p n
    · rw [sumW_y q]; omega
    · rw [sumW_n q]; omega
theorem sumW_nn {p : Nat → Prop} {v : Nat → Int} (h : ∀ k, k < 125 → 1 ≤ v k) : ∀ n : Nat, n ≤ 125 → 0 ≤ sumW p v n := by
  intro n
  induction n with
  | zero => intro _; exact Int.le_refl _
  | succ n ih =>
    intro hn
    have h1 := ih (by omega)
    have h2 := h n (by omega)
    by_cases q : p n
    · rw [sumW_y q]; omega
    · rw [sumW_n q]; exact h1
theorem sumW_ge {p : Nat → Prop} {v : Nat → Int} (h : ∀ k, k < 125 → 1 ≤ v k) : ∀ n : Nat, n ≤ 125 → ∀ k, k < n → p k → v k ≤ sumW p v n := by
  intro n
  induction n with
  | zero => intro _ k hk; omega
  | succ n ih =>
    intro hn k hk hp
    have h2 := h n (by omega)
    by_cases e : k = n
    · subst e
      rw [sumW_y hp]
      have := sumW_nn (p := p) h k (by omega)
      omega
    · have h1 := ih (by omega) k (by omega) hp
      by_cases q : p n
      · rw [sumW_y q]; omega
      · rw [sumW_n q]; exact h1
/-- ways below B done -/
def WB (p : Nat → Prop) (v : Nat → Int) (e B : Nat) (g : am_G) : Prop := g 57 e = (cntW p B : Int) ∧ BigR g 67 (sumW p v B) ∧ ((cntW p B = 0 ∧ ∀ t, t < 3 → g 59 (3 * e + t) = -1) ∨ ∃ k, k < B ∧ p k ∧ BigR g 65 (v k) ∧ (∀ j, j < B → p j → v j ≤ v k) ∧ (∀ j, j < k → p j → v j < v k) ∧ ∀ t, t < 3 → g 59 (3 * e + t) = wy k t)
theorem WB.next {p : Nat → Prop} {v : Nat → Int} {e B : Nat} {g : am_G} (h : WB p v e B g) (hp : ¬ p B) : WB p v e (B + 1) g := by
  obtain ⟨h1, h2, h3⟩ := h
  refine ⟨by rw [cntW_n hp]; exact h1, by rw [sumW_n hp]; exact h2, ?_⟩
  rcases h3 with ⟨q1, q2⟩ | ⟨k, q1, q2, q3, q4, q5, q6⟩
  · exact Or.inl ⟨by rw [cntW_n hp]; exact q1, q2⟩
  · refine Or.inr ⟨k, by omega, q2, q3, fun j hj hpj => ?_, q5, q6⟩
    by_cases e : j = B
    · subst e; exact absurd hpj hp
    · exact q4 j (by omega) hpj
theorem WB.skip {p : Nat → Prop} {v : Nat → Int} {e B : Nat} {g : am_G} (h : WB p v e B g) : ∀ d : Nat, (∀ k, B ≤ k → k < B + d → ¬ p k) → WB p v e (B + d) g := by
  intro d
  induction d with
  | zero => intro _; exact h
  | succ d ih => intro hp; exact (ih fun k a b => hp k a (by omega)).next (hp _ (by omega) (by omega))
theorem WB.to {p : Nat → Prop} {v : Nat → Int} {e B B' : Nat} {g : am_G} (h : WB p v e B g) (hB : B ≤ B') (hp : ∀ k, B ≤ k → k < B' → ¬ p k) : WB p v e B' g := by
  obtain ⟨d, rfl⟩ := Nat.le.dest hB
  exact h.skip d hp
theorem WB.same {p : Nat → Prop} {v : Nat → Int} {e B : Nat} {g g' : am_G} (h : WB p v e B g) (hF : ∀ c j, c = 57 ∨ c = 59 ∨ (65 ≤ c ∧ c ≤ 68) → g' c j = g c j) : WB p v e B g' := by
  have big (k : Nat) (hk : k = 65 ∨ k = 67) (x : Int) (q : BigR g k x) : BigR g' k x := by
    obtain ⟨sz, ⟨e1, e2, e3, e4⟩, h⟩ := q
    refine ⟨sz, ⟨?_, e2, ?_, ?_⟩, h⟩
    · rw [hF k 1 (by omega)]; exact e1
    · intro j hj; rw [hF (k + 1) j (by omega)]; exact e3 j hj
    · rw [← e4]; exact bval_eq fun j _ => hF (k + 1) j (by omega)
  obtain ⟨h1, h2, h3⟩ := h
  refine ⟨by rw [hF 57 e (by omega)]; exact h1, big 67 (by omega) _ h2, ?_⟩
  rcases h3 with ⟨q1, q2⟩ | ⟨k, q1, q2, q3, q4, q5, q6⟩
  · exact Or.inl ⟨q1, fun t ht => by rw [hF 59 _ (by omega)]; exact q2 t ht⟩
  · exact Or.inr ⟨k, q1, q2, big 65 (by omega) _ q3, q4, q5, fun t ht => by rw [hF 59 _ (by omega)]; exact q6 t ht⟩
/-- the digits of the ways in a block -/
theorem wyb_2 {B c k : Nat} (hB : B % 5 = 0) (h1 : B + 5 ≤ 125) (hc : c ≤ 4) (hk : B + c * 1 ≤ k) (hk2 : k < B + c * 1 + 1) : (∀ u, u ≤ 2 → wy k u = wy (B + c * 1) u) ∧ wy (B + c * 1) 2 = (c : Int) - 1 ∧ ∀ u, u < 2 → wy (B + c * 1) u = wy B u := by
  refine ⟨fun u hu => ?_, by rw [wy2]; omega, fun u hu => ?_⟩
  · rcases (show u = 0 ∨ u = 1 ∨ u = 2 by omega) with q | q | q <;> subst q <;> first | (rw [wy0, wy0]; omega) | (rw [wy1, wy1]; omega) | (rw [wy2, wy2]; omega) | (exfalso; omega)
  · rcases (show u = 0 ∨ u = 1 ∨ u = 2 by omega) with q | q | q <;> subst q <;> first | (rw [wy0, wy0]; omega) | (rw [wy1, wy1]; omega) | (rw [wy2, wy2]; omega) | (exfalso; omega)
theorem wyb_1 {B c k : Nat} (hB : B % 25 = 0) (h1 : B + 25 ≤ 125) (hc : c ≤ 4) (hk : B + c * 5 ≤ k) (hk2 : k < B + c * 5 + 5) : (∀ u, u ≤ 1 → wy k u = wy (B + c * 5) u) ∧ wy (B + c * 5) 1 = (c : Int) - 1 ∧ ∀ u, u < 1 → wy (B + c * 5) u = wy B u := by
  refine ⟨fun u hu => ?_, by rw [wy1]; omega, fun u hu => ?_⟩
  · rcases (show u = 0 ∨ u = 1 ∨ u = 2 by omega) with q | q | q <;> subst q <;> first | (rw [wy0, wy0]; omega) | (rw [wy1, wy1]; omega) | (rw [wy2, wy2]; omega) | (exfalso; omega)
  · rcases (show u = 0 ∨ u = 1 ∨ u = 2 by omega) with q | q | q <;> subst q <;> first | (rw [wy0, wy0]; omega) | (rw [wy1, wy1]; omega) | (rw [wy2, wy2]; omega) | (exfalso; omega)
theorem wyb_0 {B c k : Nat} (hB : B % 125 = 0) (h1 : B + 125 ≤ 125) (hc : c ≤ 4) (hk : B + c * 25 ≤ k) (hk2 : k < B + c * 25 + 25) : (∀ u, u ≤ 0 → wy k u = wy (B + c * 25) u) ∧ wy (B + c * 25) 0 = (c : Int) - 1 ∧ ∀ u, u < 0 → wy (B + c * 25) u = wy B u := by
  refine ⟨fun u hu => ?_, by rw [wy0]; omega, fun u hu => ?_⟩
  · rcases (show u = 0 ∨ u = 1 ∨ u = 2 by omega) with q | q | q <;> subst q <;> first | (rw [wy0, wy0]; omega) | (rw [wy1, wy1]; omega) | (rw [wy2, wy2]; omega) | (exfalso; omega)
  · rcases (show u = 0 ∨ u = 1 ∨ u = 2 by omega) with q | q | q <;> subst q <;> first | (rw [wy0, wy0]; omega) | (rw [wy1, wy1]; omega) | (rw [wy2, wy2]; omega) | (exfalso; omega)
