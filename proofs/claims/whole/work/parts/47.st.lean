/-! THE STATE OF THE CLASS: scratch places, ranges, what must hold between two calls -/
def Sq (c j : Nat) : Prop := (c = 0 ∧ j = 14) ∨ (c = 47 ∧ 4 ≤ j) ∨ (49 ≤ c ∧ c ≤ 51) ∨ (c = 52 ∧ j ≠ 3) ∨ c = 53 ∨ (c = 54 ∧ j ≠ 0) ∨ c = 55 ∨ (c = 120 ∧ j < 12) ∨ (121 ≤ c ∧ c ≤ 126)
/-- nothing but scratch has changed; no Big is scratch here -/
def FrQ (g h : am_G) : Prop := ∀ c j, ¬ Sq c j → h c j = g c j
theorem FrQ.rfl {g : am_G} : FrQ g g := fun _ _ _ => Eq.refl _
theorem FrQ.trans {g h i : am_G} (h1 : FrQ g h) (h2 : FrQ h i) : FrQ g i := fun c j a => (h2 c j a).trans (h1 c j a)
theorem FrQ.up {g h : am_G} {k i : Nat} {x : Int} (h1 : FrQ g h) (hs : Sq k i) : FrQ g (am_up h k i x) := by
  intro c j hc
  by_cases e : c = k
  · subst e
    by_cases e2 : j = i
    · subst e2; exact absurd hs hc
    · rw [up_nj e2]; exact h1 c j hc
  · rw [up_ne e]; exact h1 c j hc
/-- the model's scratch -/
def Sm (c j : Nat) : Prop := (c = 127 ∧ j ≠ 0 ∧ j ≠ 5 ∧ j ≠ 7 ∧ j ≠ 8) ∨ 132 ≤ c
def FrN (g h : am_G) : Prop := ∀ c j, ¬ Sm c j → h c j = g c j
theorem FrN.rfl {g : am_G} : FrN g g := fun _ _ _ => Eq.refl _
theorem FrN.trans {g h i : am_G} (h1 : FrN g h) (h2 : FrN h i) : FrN g i := fun c j a => (h2 c j a).trans (h1 c j a)
theorem FrN.up {g h : am_G} {k i : Nat} {x : Int} (h1 : FrN g h) (hs : Sm k i) : FrN g (am_up h k i x) := by
  intro c j hc
  by_cases e : c = k
  · subst e
    by_cases e2 : j = i
    · subst e2; exact absurd hs hc
    · rw [up_nj e2]; exact h1 c j hc
  · rw [up_ne e]; exact h1 c j hc
theorem FrN.m {g h i : am_G} {r : Nat} (h1 : FrN g h) (h2 : FrM r h i) : FrN g i := fun c j a => (h2 c j fun e => absurd (Or.inr (by omega)) a).trans (h1 c j a)
theorem FrN.r {g h i : am_G} {lo hi : Nat} (h1 : FrN g h) (h2 : FrR lo hi h i) : FrN g i := fun c j a => (h2 c j fun e => absurd (Or.inr (by omega)) a).trans (h1 c j a)
/-- constants -/
def CK (P : Nat) (g : am_G) : Prop := (5 ≤ P ∧ P ≤ 37) ∧ g 0 0 = (P : Int) ∧ g 1 0 = (P : Int) ∧ g 24 0 = (P : Int) ∧ g 52 3 = (P : Int) ∧ g 54 0 = (P : Int) ∧ g 103 0 = (P : Int)
theorem CK.same {P : Nat} {g g' : am_G} (h : CK P g) (hF : ∀ c j, (c = 0 ∧ j = 0) ∨ c = 1 ∨ c = 24 ∨ (c = 52 ∧ j = 3) ∨ (c = 54 ∧ j = 0) ∨ (c = 103 ∧ j = 0) → g' c j = g c j) : CK P g' := by
  obtain ⟨h0, h1, h2, h3, h4, h5, h6⟩ := h
  exact ⟨h0, by rw [hF 0 0 (by omega)]; exact h1, by rw [hF 1 0 (by omega)]; exact h2, by rw [hF 24 0 (by omega)]; exact h3, by rw [hF 52 3 (by omega)]; exact h4, by rw [hF 54 0 (by omega)]; exact h5, by rw [hF 103 0 (by omega)]; exact h6⟩
/-- the range of a place -/
def Rg (P c j : Nat) (x : Int) : Prop := (c = 2 → j < 148 → 1 ≤ x ∧ x ≤ 10) ∧ (c = 3 → j < 148 → 1 ≤ x ∧ x ≤ 99) ∧ (c = 4 → j < 128 → 0 ≤ x ∧ x ≤ 10) ∧ (c = 5 → j < 4 → 0 ≤ x ∧ x ≤ 99) ∧ (c = 6 → j = 3 → 0 ≤ x ∧ x ≤ 6) ∧ (c = 6 → j = 4 → -1 ≤ x ∧ x ≤ 5) ∧ (c = 10 → j = 4 → 0 ≤ x ∧ x ≤ 200) ∧ (c = 10 → j = 11 → 0 ≤ x ∧ x ≤ 60) ∧ (c = 10 → j = 14 → 0 ≤ x ∧ x ≤ 20) ∧ (c = 10 → j = 16 → 1 ≤ x ∧ x ≤ 99) ∧ (c = 11 → j < 200 → 0 ≤ x ∧ x ≤ 3) ∧ (c = 12 → j < 200 → 0 ≤ x ∧ x ≤ 2) ∧ (c = 13 → j < 200 → 0 ≤ x ∧ x ≤ 3) ∧ (c = 14 → j < 200 → -1 ≤ x ∧ x ≤ (P : Int) - 1) ∧ (c = 15 → j < 12 → -1 ≤ x ∧ x ≤ 3) ∧ (c = 16 → j < 120 ∧ j % 5 = 0 → 0 ≤ x ∧ x ≤ 8 * (P : Int) - 1) ∧ (c = 16 → j < 120 ∧ j % 5 = 1 → 0 ≤ x ∧ x ≤ 999) ∧ (c = 16 → j < 120 ∧ j % 5 = 2 → 0 ≤ x ∧ x ≤ 8 * (P : Int) - 1) ∧ (c = 16 → j < 120 ∧ j % 5 = 3 → 0 ≤ x ∧ x ≤ 99) ∧ (c = 16 → j < 120 ∧ j % 5 = 4 → 0 ≤ x ∧ x ≤ 9) ∧ (c = 17 → j < 4 → 0 ≤ x ∧ x ≤ 6) ∧ (c = 18 → j < 60 → 0 ≤ x ∧ x ≤ 3) ∧ (c = 19 → j < 60 → 0 ≤ x ∧ x ≤ 199) ∧ (c = 20 → j < 60 → 0 ≤ x ∧ x ≤ (P : Int) - 1) ∧ (c = 21 → j < 20 → 0 ≤ x ∧ x ≤ 999) ∧ (c = 22 → j < 20 → 0 ≤ x ∧ x ≤ 600) ∧ (c = 23 → j < 5 → 0 ≤ x ∧ x ≤ 10)
def Rng (P : Nat) (d : Nat) (g : am_G) : Prop := ∀ c j, Rg P c j (g (c + d) j)
theorem Rg.out {P c j : Nat} {x : Int} (h : c < 2 ∨ 23 < c) : Rg P c j x := by
  unfold Rg
  omega
theorem Rng.up {P d k i : Nat} {x : Int} {g : am_G} (h : Rng P d g) (hx : Rg P (k - d) i x) (hk : d ≤ k) : Rng P d (am_up g k i x) := by
  intro c j
  by_cases e : c + d = k
  · by_cases e2 : j = i
    · subst e; subst e2
      rw [up_eq]
      rw [Nat.add_sub_cancel] at hx
      exact hx
    · rw [e, up_nj e2, ← e]; exact h c j
  · rw [up_ne e]; exact h c j
theorem Rng.same {P d : Nat} {g g' : am_G} (h : Rng P d g) (hF : ∀ c j, d + 2 ≤ c → c ≤ d + 23 → g' c j = g c j) : Rng P d g' := by
  intro c j
  by_cases e : c < 2 ∨ 23 < c
  · exact Rg.out e
  · rw [hF (c + d) j (by omega) (by omega)]; exact h c j
theorem Rng.r2_0 {P : Nat} {g : am_G} (h : Rng P 0 g) (j : Nat) (hj : j < 148) : 1 ≤ g 2 j ∧ g 2 j ≤ 10 := (h 2 j).1 rfl hj
theorem Rng.r3_1 {P : Nat} {g : am_G} (h : Rng P 0 g) (j : Nat) (hj : j < 148) : 1 ≤ g 3 j ∧ g 3 j ≤ 99 := (h 3 j).2.1 rfl hj
theorem Rng.r4_2 {P : Nat} {g : am_G} (h : Rng P 0 g) (j : Nat) (hj : j < 128) : 0 ≤ g 4 j ∧ g 4 j ≤ 10 := (h 4 j).2.2.1 rfl hj
theorem Rng.r5_3 {P : Nat} {g : am_G} (h : Rng P 0 g) (j : Nat) (hj : j < 4) : 0 ≤ g 5 j ∧ g 5 j ≤ 99 := (h 5 j).2.2.2.1 rfl hj
theorem Rng.r6_4 {P : Nat} {g : am_G} (h : Rng P 0 g) (j : Nat) (hj : j = 3) : 0 ≤ g 6 j ∧ g 6 j ≤ 6 := (h 6 j).2.2.2.2.1 rfl hj
theorem Rng.r6_5 {P : Nat} {g : am_G} (h : Rng P 0 g) (j : Nat) (hj : j = 4) : -1 ≤ g 6 j ∧ g 6 j ≤ 5 := (h 6 j).2.2.2.2.2.1 rfl hj
theorem Rng.r10_6 {P : Nat} {g : am_G} (h : Rng P 0 g) (j : Nat) (hj : j = 4) : 0 ≤ g 10 j ∧ g 10 j ≤ 200 := (h 10 j).2.2.2.2.2.2.1 rfl hj
theorem Rng.r10_7 {P : Nat} {g : am_G} (h : Rng P 0 g) (j : Nat) (hj : j = 11) : 0 ≤ g 10 j ∧ g 10 j ≤ 60 := (h 10 j).2.2.2.2.2.2.2.1 rfl hj
theorem Rng.r10_8 {P : Nat} {g : am_G} (h : Rng P 0 g) (j : Nat) (hj : j = 14) : 0 ≤ g 10 j ∧ g 10 j ≤ 20 := (h 10 j).2.2.2.2.2.2.2.2.1 rfl hj
theorem Rng.r10_9 {P : Nat} {g : am_G} (h : Rng P 0 g) (j : Nat) (hj : j = 16) : 1 ≤ g 10 j ∧ g 10 j ≤ 99 := (h 10 j).2.2.2.2.2.2.2.2.2.1 rfl hj
theorem Rng.r11_10 {P : Nat} {g : am_G} (h : Rng P 0 g) (j : Nat) (hj : j < 200) : 0 ≤ g 11 j ∧ g 11 j ≤ 3 := (h 11 j).2.2.2.2.2.2.2.2.2.2.1 rfl hj
theorem Rng.r12_11 {P : Nat} {g : am_G} (h : Rng P 0 g) (j : Nat) (hj : j < 200) : 0 ≤ g 12 j ∧ g 12 j ≤ 2 := (h 12 j).2.2.2.2.2.2.2.2.2.2.2.1 rfl hj
theorem Rng.r13_12 {P : Nat} {g : am_G} (h : Rng P 0 g) (j : Nat) (hj : j < 200) : 0 ≤ g 13 j ∧ g 13 j ≤ 3 := (h 13 j).2.2.2.2.2.2.2.2.2.2.2.2.1 rfl hj
theorem Rng.r14_13 {P : Nat} {g : am_G} (h : Rng P 0 g) (j : Nat) (hj : j < 200) : -1 ≤ g 14 j ∧ g 14 j ≤ (P : Int) - 1 := (h 14 j).2.2.2.2.2.2.2.2.2.2.2.2.2.1 rfl hj
theorem Rng.r15_14 {P : Nat} {g : am_G} (h : Rng P 0 g) (j : Nat) (hj : j < 12) : -1 ≤ g 15 j ∧ g 15 j ≤ 3 := (h 15 j).2.2.2.2.2.2.2.2.2.2.2.2.2.2.1 rfl hj
theorem Rng.r16_15 {P : Nat} {g : am_G} (h : Rng P 0 g) (j : Nat) (hj : j < 120 ∧ j % 5 = 0) : 0 ≤ g 16 j ∧ g 16 j ≤ 8 * (P : Int) - 1 := (h 16 j).2.2.2.2.2.2.2.2.2.2.2.2.2.2.2.1 rfl hj
theorem Rng.r16_16 {P : Nat} {g : am_G} (h : Rng P 0 g) (j : Nat) (hj : j < 120 ∧ j % 5 = 1) : 0 ≤ g 16 j ∧ g 16 j ≤ 999 := (h 16 j).2.2.2.2.2.2.2.2.2.2.2.2.2.2.2.2.1 rfl hj
theorem Rng.r16_17 {P : Nat} {g : am_G} (h : Rng P 0 g) (j : Nat) (hj : j < 120 ∧ j % 5 = 2) : 0 ≤ g 16 j ∧ g 16 j ≤ 8 * (P : Int) - 1 := (h 16 j).2.2.2.2.2.2.2.2.2.2.2.2.2.2.2.2.2.1 rfl hj
theorem Rng.r16_18 {P : Nat} {g : am_G} (h : Rng P 0 g) (j : Nat) (hj : j < 120 ∧ j % 5 = 3) : 0 ≤ g 16 j ∧ g 16 j ≤ 99 := (h 16 j).2.2.2.2.2.2.2.2.2.2.2.2.2.2.2.2.2.2.1 rfl hj
theorem Rng.r16_19 {P : Nat} {g : am_G} (h : Rng P 0 g) (j : Nat) (hj : j < 120 ∧ j % 5 = 4) : 0 ≤ g 16 j ∧ g 16 j ≤ 9 := (h 16 j).2.2.2.2.2.2.2.2.2.2.2.2.2.2.2.2.2.2.2.1 rfl hj
theorem Rng.r17_20 {P : Nat} {g : am_G} (h : Rng P 0 g) (j : Nat) (hj : j < 4) : 0 ≤ g 17 j ∧ g 17 j ≤ 6 := (h 17 j).2.2.2.2.2.2.2.2.2.2.2.2.2.2.2.2.2.2.2.2.1 rfl hj
theorem Rng.r18_21 {P : Nat} {g : am_G} (h : Rng P 0 g) (j : Nat) (hj : j < 60) : 0 ≤ g 18 j ∧ g 18 j ≤ 3 := (h 18 j).2.2.2.2.2.2.2.2.2.2.2.2.2.2.2.2.2.2.2.2.2.1 rfl hj
theorem Rng.r19_22 {P : Nat} {g : am_G} (h : Rng P 0 g) (j : Nat) (hj : j < 60) : 0 ≤ g 19 j ∧ g 19 j ≤ 199 := (h 19 j).2.2.2.2.2.2.2.2.2.2.2.2.2.2.2.2.2.2.2.2.2.2.1 rfl hj
theorem Rng.r20_23 {P : Nat} {g : am_G} (h : Rng P 0 g) (j : Nat) (hj : j < 60) : 0 ≤ g 20 j ∧ g 20 j ≤ (P : Int) - 1 := (h 20 j).2.2.2.2.2.2.2.2.2.2.2.2.2.2.2.2.2.2.2.2.2.2.2.1 rfl hj
theorem Rng.r21_24 {P : Nat} {g : am_G} (h : Rng P 0 g) (j : Nat) (hj : j < 20) : 0 ≤ g 21 j ∧ g 21 j ≤ 999 := (h 21 j).2.2.2.2.2.2.2.2.2.2.2.2.2.2.2.2.2.2.2.2.2.2.2.2.1 rfl hj
theorem Rng.r22_25 {P : Nat} {g : am_G} (h : Rng P 0 g) (j : Nat) (hj : j < 20) : 0 ≤ g 22 j ∧ g 22 j ≤ 600 := (h 22 j).2.2.2.2.2.2.2.2.2.2.2.2.2.2.2.2.2.2.2.2.2.2.2.2.2.1 rfl hj
theorem Rng.r23_26 {P : Nat} {g : am_G} (h : Rng P 0 g) (j : Nat) (hj : j < 5) : 0 ≤ g 23 j ∧ g 23 j ≤ 10 := (h 23 j).2.2.2.2.2.2.2.2.2.2.2.2.2.2.2.2.2.2.2.2.2.2.2.2.2.2 rfl hj
/-- at most 24 of an evening -/
def ofE (g : am_G) (d : Nat) (e : Int) : Nat → Nat
  | 0 => 0
  | n + 1 => ofE g d e n + (if g (11 + d) n = e then 1 else 0)
theorem ofE_same {g g' : am_G} {d : Nat} {e : Int} {n : Nat} (h : ∀ j, j < n → g' (11 + d) j = g (11 + d) j) : ofE g' d e n = ofE g d e n := by
  induction n with
  | zero => rfl
  | succ n ih => unfold ofE; rw [ih fun j hj => h j (by omega), h n (by omega)]
theorem ofE_le {g : am_G} {d : Nat} {e : Int} (n : Nat) : ofE g d e n ≤ n := by
  induction n with
  | zero => exact Nat.le_refl _
  | succ n ih => unfold ofE; split <;> omega
def E24 (d : Nat) (g : am_G) : Prop := ∀ e : Int, 0 ≤ e → e ≤ 3 → ofE g d e (g (10 + d) 4).toNat ≤ 24
theorem E24.same {d : Nat} {g g' : am_G} (h : E24 d g) (hF : ∀ c j, (c = 10 + d ∧ j = 4) ∨ c = 11 + d → g' c j = g c j) : E24 d g' := by
  intro e h0 h1
  rw [hF (10 + d) 4 (by omega), ofE_same fun j _ => hF (11 + d) j (by omega)]
  exact h e h0 h1
/-- the Bigs of Where -/
def WLs (g : am_G) : Prop := ∀ k, 65 ≤ k → k ≤ 101 → k % 2 = 1 → BigL g k
theorem WLs.same {g g' : am_G} (h : WLs g) (hF : ∀ c j, 66 ≤ c → c ≤ 102 → g' c j = g c j) : WLs g' := fun k h1 h2 h3 j hj => by
  rw [hF (k + 1) j (by omega) (by omega)]
  exact h k h1 h2 h3 j hj
/-- the tape -/
def Tap (g : am_G) : Prop := (0 ≤ g 47 1 ∧ g 47 1 ≤ 300) ∧ ∀ j, j < 300 → 0 ≤ g 48 j ∧ g 48 j ≤ 255
theorem Tap.same {g g' : am_G} (h : Tap g) (hF : ∀ c j, (c = 47 ∧ j = 1) ∨ c = 48 → g' c j = g c j) : Tap g' := by
  obtain ⟨h1, h2⟩ := h
  refine ⟨by rw [hF 47 1 (by omega)]; exact h1, fun j hj => by rw [hF 48 j (by omega)]; exact h2 j hj⟩
