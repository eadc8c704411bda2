/-! THE FIRST STATE: CInv -/
theorem zq4_in (j : Nat) : 0 ≤ zq4 j ∧ zq4 j ≤ 10 := by
  by_cases h : j < 128
  · rw [zq4_at j h]; split <;> decide
  · unfold zq4
    repeat rw [if_neg (by omega)]
    decide
theorem ci_rng0 {n : Int} {g g2 : am_G} (hg : ∀ c j, c < 127 → g2 c j = Gk95_0 n g c j) : Rng (clP n).toNat 0 g2 := by
  intro c j
  by_cases e : c < 2 ∨ 23 < c
  · exact Rg.out e
  have hP := clP_in n
  rcases (show c = 2 ∨ c = 3 ∨ c = 4 ∨ c = 5 ∨ c = 6 ∨ c = 7 ∨ c = 8 ∨ c = 9 ∨ c = 10 ∨ c = 11 ∨ c = 12 ∨ c = 13 ∨ c = 14 ∨ c = 15 ∨ c = 16 ∨ c = 17 ∨ c = 18 ∨ c = 19 ∨ c = 20 ∨ c = 21 ∨ c = 22 ∨ c = 23 by omega) with rfl | rfl | rfl | rfl | rfl | rfl | rfl | rfl | rfl | rfl | rfl | rfl | rfl | rfl | rfl | rfl | rfl | rfl | rfl | rfl | rfl | rfl
  · show Rg _ 2 j (g2 2 j)
    rw [hg 2 j (by decide), gk_2]
    split <;> (unfold Rg; omega)
  · show Rg _ 3 j (g2 3 j)
    rw [hg 3 j (by decide), gk_3]
    split <;> (unfold Rg; omega)
  · show Rg _ 4 j (g2 4 j)
    rw [hg 4 j (by decide), gk_4]
    have := zq4_in j
    unfold Rg; omega
  · show Rg _ 5 j (g2 5 j)
    rw [hg 5 j (by decide), gk_5]
    unfold Rg; omega
  · show Rg _ 6 j (g2 6 j)
    rw [hg 6 j (by decide), gk_6]
    split <;> (unfold Rg; omega)
  · show Rg _ 7 j (g2 7 j)
    rw [hg 7 j (by decide), gk_7]
    unfold Rg; omega
  · show Rg _ 8 j (g2 8 j)
    rw [hg 8 j (by decide), gk_8]
    split <;> (unfold Rg; omega)
  · show Rg _ 9 j (g2 9 j)
    rw [hg 9 j (by decide), gk_9]
    unfold Rg; omega
  · show Rg _ 10 j (g2 10 j)
    rw [hg 10 j (by decide), gk_10]
    split <;> (unfold Rg; omega)
  · show Rg _ 11 j (g2 11 j)
    rw [hg 11 j (by decide), gk_11]
    unfold Rg; omega
  · show Rg _ 12 j (g2 12 j)
    rw [hg 12 j (by decide), gk_12]
    unfold Rg; omega
  · show Rg _ 13 j (g2 13 j)
    rw [hg 13 j (by decide), gk_13]
    unfold Rg; omega
  · show Rg _ 14 j (g2 14 j)
    rw [hg 14 j (by decide), gk_14]
    unfold Rg; omega
  · show Rg _ 15 j (g2 15 j)
    rw [hg 15 j (by decide), gk_15]
    split <;> (unfold Rg; omega)
  · show Rg _ 16 j (g2 16 j)
    rw [hg 16 j (by decide), gk_16]
    unfold Rg; omega
  · show Rg _ 17 j (g2 17 j)
    rw [hg 17 j (by decide), gk_17]
    unfold Rg; omega
  · show Rg _ 18 j (g2 18 j)
    rw [hg 18 j (by decide), gk_18]
    unfold Rg; omega
  · show Rg _ 19 j (g2 19 j)
    rw [hg 19 j (by decide), gk_19]
    unfold Rg; omega
  · show Rg _ 20 j (g2 20 j)
    rw [hg 20 j (by decide), gk_20]
    unfold Rg; omega
  · show Rg _ 21 j (g2 21 j)
    rw [hg 21 j (by decide), gk_21]
    unfold Rg; omega
  · show Rg _ 22 j (g2 22 j)
    rw [hg 22 j (by decide), gk_22]
    unfold Rg; omega
  · show Rg _ 23 j (g2 23 j)
    rw [hg 23 j (by decide), gk_23]
    split <;> (unfold Rg; omega)
theorem ci_rng23 {n : Int} {g g2 : am_G} (hg : ∀ c j, c < 127 → g2 c j = Gk95_0 n g c j) : Rng (clP n).toNat 23 g2 := by
  intro c j
  by_cases e : c < 2 ∨ 23 < c
  · exact Rg.out e
  have hP := clP_in n
  rcases (show c = 2 ∨ c = 3 ∨ c = 4 ∨ c = 5 ∨ c = 6 ∨ c = 7 ∨ c = 8 ∨ c = 9 ∨ c = 10 ∨ c = 11 ∨ c = 12 ∨ c = 13 ∨ c = 14 ∨ c = 15 ∨ c = 16 ∨ c = 17 ∨ c = 18 ∨ c = 19 ∨ c = 20 ∨ c = 21 ∨ c = 22 ∨ c = 23 by omega) with rfl | rfl | rfl | rfl | rfl | rfl | rfl | rfl | rfl | rfl | rfl | rfl | rfl | rfl | rfl | rfl | rfl | rfl | rfl | rfl | rfl | rfl
  · show Rg _ 2 j (g2 25 j)
    rw [hg 25 j (by decide), gk_25]
    split <;> (unfold Rg; omega)
  · show Rg _ 3 j (g2 26 j)
    rw [hg 26 j (by decide), gk_26]
    split <;> (unfold Rg; omega)
  · show Rg _ 4 j (g2 27 j)
    rw [hg 27 j (by decide), gk_27]
    have := zq4_in j
    unfold Rg; omega
  · show Rg _ 5 j (g2 28 j)
    rw [hg 28 j (by decide), gk_28]
    unfold Rg; omega
  · show Rg _ 6 j (g2 29 j)
    rw [hg 29 j (by decide), gk_29]
    split <;> (unfold Rg; omega)
  · show Rg _ 7 j (g2 30 j)
    rw [hg 30 j (by decide), gk_30]
    unfold Rg; omega
  · show Rg _ 8 j (g2 31 j)
    rw [hg 31 j (by decide), gk_31]
    split <;> (unfold Rg; omega)
  · show Rg _ 9 j (g2 32 j)
    rw [hg 32 j (by decide), gk_32]
    unfold Rg; omega
  · show Rg _ 10 j (g2 33 j)
    rw [hg 33 j (by decide), gk_33]
    split <;> (unfold Rg; omega)
  · show Rg _ 11 j (g2 34 j)
    rw [hg 34 j (by decide), gk_34]
    unfold Rg; omega
  · show Rg _ 12 j (g2 35 j)
    rw [hg 35 j (by decide), gk_35]
    unfold Rg; omega
  · show Rg _ 13 j (g2 36 j)
    rw [hg 36 j (by decide), gk_36]
    unfold Rg; omega
  · show Rg _ 14 j (g2 37 j)
    rw [hg 37 j (by decide), gk_37]
    unfold Rg; omega
  · show Rg _ 15 j (g2 38 j)
    rw [hg 38 j (by decide), gk_38]
    split <;> (unfold Rg; omega)
  · show Rg _ 16 j (g2 39 j)
    rw [hg 39 j (by decide), gk_39]
    unfold Rg; omega
  · show Rg _ 17 j (g2 40 j)
    rw [hg 40 j (by decide), gk_40]
    unfold Rg; omega
  · show Rg _ 18 j (g2 41 j)
    rw [hg 41 j (by decide), gk_41]
    unfold Rg; omega
  · show Rg _ 19 j (g2 42 j)
    rw [hg 42 j (by decide), gk_42]
    unfold Rg; omega
  · show Rg _ 20 j (g2 43 j)
    rw [hg 43 j (by decide), gk_43]
    unfold Rg; omega
  · show Rg _ 21 j (g2 44 j)
    rw [hg 44 j (by decide), gk_44]
    unfold Rg; omega
  · show Rg _ 22 j (g2 45 j)
    rw [hg 45 j (by decide), gk_45]
    unfold Rg; omega
  · show Rg _ 23 j (g2 46 j)
    rw [hg 46 j (by decide), gk_46]
    split <;> (unfold Rg; omega)
theorem ci_wls {n : Int} {g g2 : am_G} (hg : ∀ c j, c < 127 → g2 c j = Gk95_0 n g c j) : WLs g2 := by
  intro k h1 h2 h3
  rcases (show k = 65 ∨ k = 67 ∨ k = 69 ∨ k = 71 ∨ k = 73 ∨ k = 75 ∨ k = 77 ∨ k = 79 ∨ k = 81 ∨ k = 83 ∨ k = 85 ∨ k = 87 ∨ k = 89 ∨ k = 91 ∨ k = 93 ∨ k = 95 ∨ k = 97 ∨ k = 99 ∨ k = 101 by omega) with rfl | rfl | rfl | rfl | rfl | rfl | rfl | rfl | rfl | rfl | rfl | rfl | rfl | rfl | rfl | rfl | rfl | rfl | rfl
  · intro j hj; show 0 ≤ g2 66 j ∧ g2 66 j < _; rw [hg 66 j (by decide), gk_66]; decide
  · intro j hj; show 0 ≤ g2 68 j ∧ g2 68 j < _; rw [hg 68 j (by decide), gk_68]; decide
  · intro j hj; show 0 ≤ g2 70 j ∧ g2 70 j < _; rw [hg 70 j (by decide), gk_70]; decide
  · intro j hj; show 0 ≤ g2 72 j ∧ g2 72 j < _; rw [hg 72 j (by decide), gk_72]; decide
  · intro j hj; show 0 ≤ g2 74 j ∧ g2 74 j < _; rw [hg 74 j (by decide), gk_74]; decide
  · intro j hj; show 0 ≤ g2 76 j ∧ g2 76 j < _; rw [hg 76 j (by decide), gk_76]; decide
  · intro j hj; show 0 ≤ g2 78 j ∧ g2 78 j < _; rw [hg 78 j (by decide), gk_78]; decide
  · intro j hj; show 0 ≤ g2 80 j ∧ g2 80 j < _; rw [hg 80 j (by decide), gk_80]; decide
  · intro j hj; show 0 ≤ g2 82 j ∧ g2 82 j < _; rw [hg 82 j (by decide), gk_82]; decide
  · intro j hj; show 0 ≤ g2 84 j ∧ g2 84 j < _; rw [hg 84 j (by decide), gk_84]; decide
  · intro j hj; show 0 ≤ g2 86 j ∧ g2 86 j < _; rw [hg 86 j (by decide), gk_86]; decide
  · intro j hj; show 0 ≤ g2 88 j ∧ g2 88 j < _; rw [hg 88 j (by decide), gk_88]; decide
  · intro j hj; show 0 ≤ g2 90 j ∧ g2 90 j < _; rw [hg 90 j (by decide), gk_90]; decide
  · intro j hj; show 0 ≤ g2 92 j ∧ g2 92 j < _; rw [hg 92 j (by decide), gk_92]; decide
  · intro j hj; show 0 ≤ g2 94 j ∧ g2 94 j < _; rw [hg 94 j (by decide), gk_94]; decide
  · intro j hj; show 0 ≤ g2 96 j ∧ g2 96 j < _; rw [hg 96 j (by decide), gk_96]; decide
  · intro j hj; show 0 ≤ g2 98 j ∧ g2 98 j < _; rw [hg 98 j (by decide), gk_98]; decide
  · intro j hj; show 0 ≤ g2 100 j ∧ g2 100 j < _; rw [hg 100 j (by decide), gk_100]; decide
  · intro j hj; show 0 ≤ g2 102 j ∧ g2 102 j < _; rw [hg 102 j (by decide), gk_102]; decide
theorem ci_new {n : Int} {g g2 : am_G} (hg : ∀ c j, c < 127 → g2 c j = Gk95_0 n g c j) : CInv (clP n).toNat g2 := by
  have hP := clP_in n
  have hp : (((clP n).toNat : Nat) : Int) = clP n := Int.toNat_of_nonneg (by omega)
  refine ⟨⟨by omega, by rw [hp, hg 0 0 (by decide), gk_0]; rfl, by rw [hp, hg 1 0 (by decide), gk_1]; rfl, by rw [hp, hg 24 0 (by decide), gk_24]; rfl, by rw [hp, hg 52 3 (by decide), gk_52]; rfl, by rw [hp, hg 54 0 (by decide), gk_54]; rfl, by rw [hp, hg 103 0 (by decide), gk_103]; rfl⟩, ci_rng0 hg, ci_rng23 hg, ?_, ?_, ?_, ?_, ?_, ?_, ?_, ci_wls hg, CaW.none (by rw [hg 56 2 (by decide), gk_56]), Or.inl (by rw [hg 120 12 (by decide), gk_120])⟩
  · intro e _ _
    rw [show g2 (10 + 0) 4 = 0 from (hg 10 4 (by decide)).trans (gk_10 4)]
    exact Nat.zero_le _
  · intro e _ _
    rw [show g2 (10 + 23) 4 = 0 from (hg 33 4 (by decide)).trans (gk_33 4)]
    exact Nat.zero_le _
  · have e3 : g2 (6 + 0) 3 = 0 := (hg 6 3 (by decide)).trans (gk_6 3)
    have e4 : g2 (6 + 0) 4 = -1 := (hg 6 4 (by decide)).trans (gk_6 4)
    refine ⟨by omega, by omega, fun t k h _ => ?_⟩
    rw [e3] at h
    omega
  · have e3 : g2 (6 + 23) 3 = 0 := (hg 29 3 (by decide)).trans (gk_29 3)
    have e4 : g2 (6 + 23) 4 = -1 := (hg 29 4 (by decide)).trans (gk_29 4)
    refine ⟨by omega, by omega, fun t k h _ => ?_⟩
    rw [e3] at h
    omega
  · have e3 : g2 29 3 = 0 := (hg 29 3 (by decide)).trans (gk_29 3)
    have e6 : g2 6 3 = 0 := (hg 6 3 (by decide)).trans (gk_6 3)
    refine ⟨by omega, fun t h => ?_⟩
    rw [e3] at h
    omega
  · have e1 : g2 47 1 = 0 := (hg 47 1 (by decide)).trans (gk_47 1)
    refine ⟨by omega, fun j hj => ?_⟩
    rw [hg 48 j (by decide), gk_48]
    decide
  · refine ⟨fun j hj => by (show 0 ≤ g2 105 j ∧ g2 105 j < _); rw [hg 105 j (by decide), gk_105]; decide, fun j hj => by (show 0 ≤ g2 107 j ∧ g2 107 j < _); rw [hg 107 j (by decide), gk_107]; decide, fun j hj => by (show 0 ≤ g2 109 j ∧ g2 109 j < _); rw [hg 109 j (by decide), gk_109]; decide, fun j hj => by (show 0 ≤ g2 111 j ∧ g2 111 j < _); rw [hg 111 j (by decide), gk_111]; decide, fun j hj => by (show 0 ≤ g2 113 j ∧ g2 113 j < _); rw [hg 113 j (by decide), gk_113]; decide, fun j hj => by (show 0 ≤ g2 115 j ∧ g2 115 j < _); rw [hg 115 j (by decide), gk_115]; decide, fun j hj => by (show 0 ≤ g2 117 j ∧ g2 117 j < _); rw [hg 117 j (by decide), gk_117]; decide, fun j hj => by (show 0 ≤ g2 119 j ∧ g2 119 j < _); rw [hg 119 j (by decide), gk_119]; decide⟩
