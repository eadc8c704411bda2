/-! THE FIRST STATE: MRel -/
def zC (c j : Nat) : Int := if c = 2 ∨ c = 3 then (if j < 148 then 10 else 0) else if c = 4 then zq4 j else if c = 6 then (if j = 4 then -1 else 0) else if c = 8 then (if j < 24 then -1 else 0) else if c = 10 then (if j = 16 then 35 else 0) else if c = 15 then (if j < 12 then -1 else 0) else if c = 23 then (if j = 0 then 10 else 0) else 0
set_option maxRecDepth 100000 in
theorem zC_all : ∀ i, i < 1620 → cpC i ≠ 99 → z9 (fun _ => 0) i = zC (cpC i) (cpJ i) := by decide +kernel
theorem zC_gk0 {n : Int} {g : am_G} (c j : Nat) (h : 2 ≤ c ∧ c ≤ 23) : Gk95_0 n g (c + 0) j = zC c j := by
  rcases (show c = 2 ∨ c = 3 ∨ c = 4 ∨ c = 5 ∨ c = 6 ∨ c = 7 ∨ c = 8 ∨ c = 9 ∨ c = 10 ∨ c = 11 ∨ c = 12 ∨ c = 13 ∨ c = 14 ∨ c = 15 ∨ c = 16 ∨ c = 17 ∨ c = 18 ∨ c = 19 ∨ c = 20 ∨ c = 21 ∨ c = 22 ∨ c = 23 by omega) with rfl | rfl | rfl | rfl | rfl | rfl | rfl | rfl | rfl | rfl | rfl | rfl | rfl | rfl | rfl | rfl | rfl | rfl | rfl | rfl | rfl | rfl
  · show Gk95_0 n g 2 j = _
    rw [gk_2]
    simp [zC]
  · show Gk95_0 n g 3 j = _
    rw [gk_3]
    simp [zC]
  · show Gk95_0 n g 4 j = _
    rw [gk_4]
    simp [zC]
  · show Gk95_0 n g 5 j = _
    rw [gk_5]; rfl
  · show Gk95_0 n g 6 j = _
    rw [gk_6]
    simp [zC]
  · show Gk95_0 n g 7 j = _
    rw [gk_7]; rfl
  · show Gk95_0 n g 8 j = _
    rw [gk_8]
    simp [zC]
  · show Gk95_0 n g 9 j = _
    rw [gk_9]; rfl
  · show Gk95_0 n g 10 j = _
    rw [gk_10]
    simp [zC]
  · show Gk95_0 n g 11 j = _
    rw [gk_11]; rfl
  · show Gk95_0 n g 12 j = _
    rw [gk_12]; rfl
  · show Gk95_0 n g 13 j = _
    rw [gk_13]; rfl
  · show Gk95_0 n g 14 j = _
    rw [gk_14]; rfl
  · show Gk95_0 n g 15 j = _
    rw [gk_15]
    simp [zC]
  · show Gk95_0 n g 16 j = _
    rw [gk_16]; rfl
  · show Gk95_0 n g 17 j = _
    rw [gk_17]; rfl
  · show Gk95_0 n g 18 j = _
    rw [gk_18]; rfl
  · show Gk95_0 n g 19 j = _
    rw [gk_19]; rfl
  · show Gk95_0 n g 20 j = _
    rw [gk_20]; rfl
  · show Gk95_0 n g 21 j = _
    rw [gk_21]; rfl
  · show Gk95_0 n g 22 j = _
    rw [gk_22]; rfl
  · show Gk95_0 n g 23 j = _
    rw [gk_23]
    simp [zC]
theorem zC_gk23 {n : Int} {g : am_G} (c j : Nat) (h : 2 ≤ c ∧ c ≤ 23) : Gk95_0 n g (c + 23) j = zC c j := by
  rcases (show c = 2 ∨ c = 3 ∨ c = 4 ∨ c = 5 ∨ c = 6 ∨ c = 7 ∨ c = 8 ∨ c = 9 ∨ c = 10 ∨ c = 11 ∨ c = 12 ∨ c = 13 ∨ c = 14 ∨ c = 15 ∨ c = 16 ∨ c = 17 ∨ c = 18 ∨ c = 19 ∨ c = 20 ∨ c = 21 ∨ c = 22 ∨ c = 23 by omega) with rfl | rfl | rfl | rfl | rfl | rfl | rfl | rfl | rfl | rfl | rfl | rfl | rfl | rfl | rfl | rfl | rfl | rfl | rfl | rfl | rfl | rfl
  · show Gk95_0 n g 25 j = _
    rw [gk_25]
    simp [zC]
  · show Gk95_0 n g 26 j = _
    rw [gk_26]
    simp [zC]
  · show Gk95_0 n g 27 j = _
    rw [gk_27]
    simp [zC]
  · show Gk95_0 n g 28 j = _
    rw [gk_28]; rfl
  · show Gk95_0 n g 29 j = _
    rw [gk_29]
    simp [zC]
  · show Gk95_0 n g 30 j = _
    rw [gk_30]; rfl
  · show Gk95_0 n g 31 j = _
    rw [gk_31]
    simp [zC]
  · show Gk95_0 n g 32 j = _
    rw [gk_32]; rfl
  · show Gk95_0 n g 33 j = _
    rw [gk_33]
    simp [zC]
  · show Gk95_0 n g 34 j = _
    rw [gk_34]; rfl
  · show Gk95_0 n g 35 j = _
    rw [gk_35]; rfl
  · show Gk95_0 n g 36 j = _
    rw [gk_36]; rfl
  · show Gk95_0 n g 37 j = _
    rw [gk_37]; rfl
  · show Gk95_0 n g 38 j = _
    rw [gk_38]
    simp [zC]
  · show Gk95_0 n g 39 j = _
    rw [gk_39]; rfl
  · show Gk95_0 n g 40 j = _
    rw [gk_40]; rfl
  · show Gk95_0 n g 41 j = _
    rw [gk_41]; rfl
  · show Gk95_0 n g 42 j = _
    rw [gk_42]; rfl
  · show Gk95_0 n g 43 j = _
    rw [gk_43]; rfl
  · show Gk95_0 n g 44 j = _
    rw [gk_44]; rfl
  · show Gk95_0 n g 45 j = _
    rw [gk_45]; rfl
  · show Gk95_0 n g 46 j = _
    rw [gk_46]
    simp [zC]
theorem mr_new {n : Int} {g gb g2 : am_G} (hb : ∀ c j, c < 127 → gb c j = Gk95_0 n g c j) (h7 : ∀ j, gb 127 j = 0) (e0 : g2 127 0 = clP n) (e7 : ∀ j, j ≠ 0 → g2 127 j = Gm0 gb 127 j) (e8 : ∀ j, j < 1620 → g2 128 j = z9 (Gm0 gb 128) j) (e9 : ∀ j, j < 1620 → g2 129 j = g2 128 j) (eF : ∀ c j, c ≠ 127 → c ≠ 128 → c ≠ 129 → g2 c j = Gm0 gb c j) : CInv (clP n).toNat g2 ∧ MRel g2 g2 := by
  have hc : ∀ c j, c < 127 → g2 c j = Gk95_0 n g c j := fun c j h => by
    rw [eF c j (by omega) (by omega) (by omega), ← hb c j h]
    unfold Gm0
    simp only [am_up, am_cl]
    repeat rw [if_neg (by omega)]
  have z8 : ∀ j, j < 1620 → g2 128 j = z9 (fun _ => 0) j := fun j hj => e8 j hj
  refine ⟨ci_new hc, fun i hi h9 => ?_, fun i hi h9 => ?_, ?_, ?_, ?_, ?_, fun j hj => ?_, fun t k h _ => ?_⟩
  · rw [z8 i hi, zC_all i hi h9, hc _ _ (by have := cpC_in i h9; omega), zC_gk0 _ _ (cpC_in i h9)]
  · rw [e9 i hi, z8 i hi, zC_all i hi h9, hc _ _ (by have := cpC_in i h9; omega), zC_gk23 _ _ (cpC_in i h9)]
  · rw [e0, hc 0 0 (by decide), gk_0]; rfl
  · rw [e7 5 (by decide), hc 47 1 (by decide), gk_47]; exact h7 5
  · rw [e7 7 (by decide), hc 47 2 (by decide), gk_47]; rfl
  · rw [e7 8 (by decide), hc 47 3 (by decide), gk_47]; rfl
  · rw [eF 131 j (by decide) (by decide) (by decide), hc 48 j (by decide), gk_48]; rfl
  · rw [hc 6 3 (by decide), gk_6] at h
    exact absurd h (by show ¬ (t : Int) < 0; omega)
