/-! THE INVARIANT: the reference's row against the class's rows, what is kept of Where and of a shoe -/
/-- where the class holds place i of the reference's row; (99, 0): nowhere -/
def cpC (i : Nat) : Nat := if i = 0 then 6 else if i = 1 then 6 else if i = 2 then 10 else if i = 3 then 10 else if i = 4 then 10 else if i = 5 then 10 else if i < 11 then 23 else if i < 20 then 99 else if i < 168 then 2 else if i < 170 then 99 else if i < 318 then 3 else if i < 320 then 99 else if i < 448 then 4 else if i < 450 then 99 else if i < 454 then 5 else if i < 455 then 99 else if i < 459 then 17 else if i < 460 then 99 else if i < 580 then 16 else if i < 1380 then 11 + (i - 580) % 4 else if i < 1392 then 15 else if i < 1400 then 99 else if i < 1580 then 18 + (i - 1400) % 3 else if i < 1620 then 21 + (i - 1580) % 2 else 99
def cpJ (i : Nat) : Nat := if i = 0 then 3 else if i = 1 then 4 else if i = 2 then 4 else if i = 3 then 11 else if i = 4 then 14 else if i = 5 then 16 else if i < 11 then i - 6 else if i < 168 then i - 20 else if i < 318 then i - 170 else if i < 448 then i - 320 else if i < 454 then i - 450 else if i < 459 then i - 455 else if i < 580 then i - 460 else if i < 1380 then (i - 580) / 4 else if i < 1392 then i - 1380 else if i < 1400 then 0 else if i < 1580 then (i - 1400) / 3 else (i - 1580) / 2
/-- the place in the reference's row of a place of the class -/
def pcI (c j : Nat) : Nat := if c = 6 then (if j = 3 then 0 else 1) else if c = 10 then (if j = 4 then 2 else if j = 11 then 3 else if j = 14 then 4 else 5) else if c = 23 then 6 + j else if c = 2 then 20 + j else if c = 3 then 170 + j else if c = 4 then 320 + j else if c = 5 then 450 + j else if c = 17 then 455 + j else if c = 16 then 460 + j else if c = 15 then 1380 + j else if c < 15 then 580 + 4 * j + (c - 11) else if c < 21 then 1400 + 3 * j + (c - 18) else 1580 + 2 * j + (c - 21)
theorem cp_i0 (i : Nat) (h2 : i < 1) : cpC i = 6 := by
  unfold cpC
  (repeat first | rw [if_pos (by omega)] | rw [if_neg (by omega)])
theorem cj_i0 (i : Nat) (h2 : i < 1) : cpJ i = 3 := by
  unfold cpJ
  (repeat first | rw [if_pos (by omega)] | rw [if_neg (by omega)]) <;> omega
theorem cp_i1 (i : Nat) (h : 1 ≤ i) (h2 : i < 2) : cpC i = 6 := by
  unfold cpC
  (repeat first | rw [if_pos (by omega)] | rw [if_neg (by omega)])
theorem cj_i1 (i : Nat) (h : 1 ≤ i) (h2 : i < 2) : cpJ i = 4 := by
  unfold cpJ
  (repeat first | rw [if_pos (by omega)] | rw [if_neg (by omega)]) <;> omega
theorem cp_i2 (i : Nat) (h : 2 ≤ i) (h2 : i < 3) : cpC i = 10 := by
  unfold cpC
  (repeat first | rw [if_pos (by omega)] | rw [if_neg (by omega)])
theorem cj_i2 (i : Nat) (h : 2 ≤ i) (h2 : i < 3) : cpJ i = 4 := by
  unfold cpJ
  (repeat first | rw [if_pos (by omega)] | rw [if_neg (by omega)]) <;> omega
theorem cp_i3 (i : Nat) (h : 3 ≤ i) (h2 : i < 4) : cpC i = 10 := by
  unfold cpC
  (repeat first | rw [if_pos (by omega)] | rw [if_neg (by omega)])
theorem cj_i3 (i : Nat) (h : 3 ≤ i) (h2 : i < 4) : cpJ i = 11 := by
  unfold cpJ
  (repeat first | rw [if_pos (by omega)] | rw [if_neg (by omega)]) <;> omega
theorem cp_i4 (i : Nat) (h : 4 ≤ i) (h2 : i < 5) : cpC i = 10 := by
  unfold cpC
  (repeat first | rw [if_pos (by omega)] | rw [if_neg (by omega)])
theorem cj_i4 (i : Nat) (h : 4 ≤ i) (h2 : i < 5) : cpJ i = 14 := by
  unfold cpJ
  (repeat first | rw [if_pos (by omega)] | rw [if_neg (by omega)]) <;> omega
theorem cp_i5 (i : Nat) (h : 5 ≤ i) (h2 : i < 6) : cpC i = 10 := by
  unfold cpC
  (repeat first | rw [if_pos (by omega)] | rw [if_neg (by omega)])
theorem cj_i5 (i : Nat) (h : 5 ≤ i) (h2 : i < 6) : cpJ i = 16 := by
  unfold cpJ
  (repeat first | rw [if_pos (by omega)] | rw [if_neg (by omega)]) <;> omega
theorem cp_late (i : Nat) (h : 6 ≤ i) (h2 : i < 11) : cpC i = 23 := by
  unfold cpC
  (repeat first | rw [if_pos (by omega)] | rw [if_neg (by omega)])
theorem cj_late (i : Nat) (h : 6 ≤ i) (h2 : i < 11) : cpJ i = i - 6 := by
  unfold cpJ
  (repeat first | rw [if_pos (by omega)] | rw [if_neg (by omega)]) <;> omega
theorem cp_x1 (i : Nat) (h : 11 ≤ i) (h2 : i < 20) : cpC i = 99 := by
  unfold cpC
  (repeat first | rw [if_pos (by omega)] | rw [if_neg (by omega)])
theorem cp_hold (i : Nat) (h : 20 ≤ i) (h2 : i < 168) : cpC i = 2 := by
  unfold cpC
  (repeat first | rw [if_pos (by omega)] | rw [if_neg (by omega)])
theorem cj_hold (i : Nat) (h : 20 ≤ i) (h2 : i < 168) : cpJ i = i - 20 := by
  unfold cpJ
  (repeat first | rw [if_pos (by omega)] | rw [if_neg (by omega)]) <;> omega
theorem cp_x2 (i : Nat) (h : 168 ≤ i) (h2 : i < 170) : cpC i = 99 := by
  unfold cpC
  (repeat first | rw [if_pos (by omega)] | rw [if_neg (by omega)])
theorem cp_lean (i : Nat) (h : 170 ≤ i) (h2 : i < 318) : cpC i = 3 := by
  unfold cpC
  (repeat first | rw [if_pos (by omega)] | rw [if_neg (by omega)])
theorem cj_lean (i : Nat) (h : 170 ≤ i) (h2 : i < 318) : cpJ i = i - 170 := by
  unfold cpJ
  (repeat first | rw [if_pos (by omega)] | rw [if_neg (by omega)]) <;> omega
theorem cp_x3 (i : Nat) (h : 318 ≤ i) (h2 : i < 320) : cpC i = 99 := by
  unfold cpC
  (repeat first | rw [if_pos (by omega)] | rw [if_neg (by omega)])
theorem cp_skip (i : Nat) (h : 320 ≤ i) (h2 : i < 448) : cpC i = 4 := by
  unfold cpC
  (repeat first | rw [if_pos (by omega)] | rw [if_neg (by omega)])
theorem cj_skip (i : Nat) (h : 320 ≤ i) (h2 : i < 448) : cpJ i = i - 320 := by
  unfold cpJ
  (repeat first | rw [if_pos (by omega)] | rw [if_neg (by omega)]) <;> omega
theorem cp_x4 (i : Nat) (h : 448 ≤ i) (h2 : i < 450) : cpC i = 99 := by
  unfold cpC
  (repeat first | rw [if_pos (by omega)] | rw [if_neg (by omega)])
theorem cp_tilt (i : Nat) (h : 450 ≤ i) (h2 : i < 454) : cpC i = 5 := by
  unfold cpC
  (repeat first | rw [if_pos (by omega)] | rw [if_neg (by omega)])
theorem cj_tilt (i : Nat) (h : 450 ≤ i) (h2 : i < 454) : cpJ i = i - 450 := by
  unfold cpJ
  (repeat first | rw [if_pos (by omega)] | rw [if_neg (by omega)]) <;> omega
theorem cp_x5 (i : Nat) (h : 454 ≤ i) (h2 : i < 455) : cpC i = 99 := by
  unfold cpC
  (repeat first | rw [if_pos (by omega)] | rw [if_neg (by omega)])
theorem cp_many (i : Nat) (h : 455 ≤ i) (h2 : i < 459) : cpC i = 17 := by
  unfold cpC
  (repeat first | rw [if_pos (by omega)] | rw [if_neg (by omega)])
theorem cj_many (i : Nat) (h : 455 ≤ i) (h2 : i < 459) : cpJ i = i - 455 := by
  unfold cpJ
  (repeat first | rw [if_pos (by omega)] | rw [if_neg (by omega)]) <;> omega
theorem cp_x6 (i : Nat) (h : 459 ≤ i) (h2 : i < 460) : cpC i = 99 := by
  unfold cpC
  (repeat first | rw [if_pos (by omega)] | rw [if_neg (by omega)])
theorem cp_start (i : Nat) (h : 460 ≤ i) (h2 : i < 580) : cpC i = 16 := by
  unfold cpC
  (repeat first | rw [if_pos (by omega)] | rw [if_neg (by omega)])
theorem cj_start (i : Nat) (h : 460 ≤ i) (h2 : i < 580) : cpJ i = i - 460 := by
  unfold cpJ
  (repeat first | rw [if_pos (by omega)] | rw [if_neg (by omega)]) <;> omega
theorem cp_wr (i : Nat) (h : 580 ≤ i) (h2 : i < 1380) : cpC i = 11 + (i - 580) % 4 := by
  unfold cpC
  (repeat first | rw [if_pos (by omega)] | rw [if_neg (by omega)])
theorem cj_wr (i : Nat) (h : 580 ≤ i) (h2 : i < 1380) : cpJ i = (i - 580) / 4 := by
  unfold cpJ
  (repeat first | rw [if_pos (by omega)] | rw [if_neg (by omega)]) <;> omega
theorem cp_scr (i : Nat) (h : 1380 ≤ i) (h2 : i < 1392) : cpC i = 15 := by
  unfold cpC
  (repeat first | rw [if_pos (by omega)] | rw [if_neg (by omega)])
theorem cj_scr (i : Nat) (h : 1380 ≤ i) (h2 : i < 1392) : cpJ i = i - 1380 := by
  unfold cpJ
  (repeat first | rw [if_pos (by omega)] | rw [if_neg (by omega)]) <;> omega
theorem cp_x7 (i : Nat) (h : 1392 ≤ i) (h2 : i < 1400) : cpC i = 99 := by
  unfold cpC
  (repeat first | rw [if_pos (by omega)] | rw [if_neg (by omega)])
theorem cp_bet (i : Nat) (h : 1400 ≤ i) (h2 : i < 1580) : cpC i = 18 + (i - 1400) % 3 := by
  unfold cpC
  (repeat first | rw [if_pos (by omega)] | rw [if_neg (by omega)])
theorem cj_bet (i : Nat) (h : 1400 ≤ i) (h2 : i < 1580) : cpJ i = (i - 1400) / 3 := by
  unfold cpJ
  (repeat first | rw [if_pos (by omega)] | rw [if_neg (by omega)]) <;> omega
theorem cp_see (i : Nat) (h : 1580 ≤ i) (h2 : i < 1620) : cpC i = 21 + (i - 1580) % 2 := by
  unfold cpC
  (repeat first | rw [if_pos (by omega)] | rw [if_neg (by omega)])
theorem cj_see (i : Nat) (h : 1580 ≤ i) (h2 : i < 1620) : cpJ i = (i - 1580) / 2 := by
  unfold cpJ
  (repeat first | rw [if_pos (by omega)] | rw [if_neg (by omega)]) <;> omega
theorem cp_x8 (i : Nat) (h : 1620 ≤ i) : cpC i = 99 := by
  unfold cpC
  (repeat first | rw [if_pos (by omega)] | rw [if_neg (by omega)])
theorem cpC_or (i : Nat) : cpC i = 99 ∨ (2 ≤ cpC i ∧ cpC i ≤ 23) := by
  rcases (show (0 ≤ i ∧ i < 1) ∨ (1 ≤ i ∧ i < 2) ∨ (2 ≤ i ∧ i < 3) ∨ (3 ≤ i ∧ i < 4) ∨ (4 ≤ i ∧ i < 5) ∨ (5 ≤ i ∧ i < 6) ∨ (6 ≤ i ∧ i < 11) ∨ (11 ≤ i ∧ i < 20) ∨ (20 ≤ i ∧ i < 168) ∨ (168 ≤ i ∧ i < 170) ∨ (170 ≤ i ∧ i < 318) ∨ (318 ≤ i ∧ i < 320) ∨ (320 ≤ i ∧ i < 448) ∨ (448 ≤ i ∧ i < 450) ∨ (450 ≤ i ∧ i < 454) ∨ (454 ≤ i ∧ i < 455) ∨ (455 ≤ i ∧ i < 459) ∨ (459 ≤ i ∧ i < 460) ∨ (460 ≤ i ∧ i < 580) ∨ (580 ≤ i ∧ i < 1380) ∨ (1380 ≤ i ∧ i < 1392) ∨ (1392 ≤ i ∧ i < 1400) ∨ (1400 ≤ i ∧ i < 1580) ∨ (1580 ≤ i ∧ i < 1620) ∨ 1620 ≤ i by omega) with ⟨q1, q2⟩ | ⟨q1, q2⟩ | ⟨q1, q2⟩ | ⟨q1, q2⟩ | ⟨q1, q2⟩ | ⟨q1, q2⟩ | ⟨q1, q2⟩ | ⟨q1, q2⟩ | ⟨q1, q2⟩ | ⟨q1, q2⟩ | ⟨q1, q2⟩ | ⟨q1, q2⟩ | ⟨q1, q2⟩ | ⟨q1, q2⟩ | ⟨q1, q2⟩ | ⟨q1, q2⟩ | ⟨q1, q2⟩ | ⟨q1, q2⟩ | ⟨q1, q2⟩ | ⟨q1, q2⟩ | ⟨q1, q2⟩ | ⟨q1, q2⟩ | ⟨q1, q2⟩ | ⟨q1, q2⟩ | q1
  · rw [cp_i0 i q2]; omega
  · rw [cp_i1 i q1 q2]; omega
  · rw [cp_i2 i q1 q2]; omega
  · rw [cp_i3 i q1 q2]; omega
  · rw [cp_i4 i q1 q2]; omega
  · rw [cp_i5 i q1 q2]; omega
  · rw [cp_late i q1 q2]; omega
  · rw [cp_x1 i q1 q2]; omega
  · rw [cp_hold i q1 q2]; omega
  · rw [cp_x2 i q1 q2]; omega
  · rw [cp_lean i q1 q2]; omega
  · rw [cp_x3 i q1 q2]; omega
  · rw [cp_skip i q1 q2]; omega
  · rw [cp_x4 i q1 q2]; omega
  · rw [cp_tilt i q1 q2]; omega
  · rw [cp_x5 i q1 q2]; omega
  · rw [cp_many i q1 q2]; omega
  · rw [cp_x6 i q1 q2]; omega
  · rw [cp_start i q1 q2]; omega
  · rw [cp_wr i q1 q2]; omega
  · rw [cp_scr i q1 q2]; omega
  · rw [cp_x7 i q1 q2]; omega
  · rw [cp_bet i q1 q2]; omega
  · rw [cp_see i q1 q2]; omega
  · rw [cp_x8 i q1]; omega
theorem cpC_in (i : Nat) (h : cpC i ≠ 99) : 2 ≤ cpC i ∧ cpC i ≤ 23 := (cpC_or i).resolve_left h
theorem pc_cp (i : Nat) (h : cpC i ≠ 99) : pcI (cpC i) (cpJ i) = i := by
  rcases (show (0 ≤ i ∧ i < 1) ∨ (1 ≤ i ∧ i < 2) ∨ (2 ≤ i ∧ i < 3) ∨ (3 ≤ i ∧ i < 4) ∨ (4 ≤ i ∧ i < 5) ∨ (5 ≤ i ∧ i < 6) ∨ (6 ≤ i ∧ i < 11) ∨ (11 ≤ i ∧ i < 20) ∨ (20 ≤ i ∧ i < 168) ∨ (168 ≤ i ∧ i < 170) ∨ (170 ≤ i ∧ i < 318) ∨ (318 ≤ i ∧ i < 320) ∨ (320 ≤ i ∧ i < 448) ∨ (448 ≤ i ∧ i < 450) ∨ (450 ≤ i ∧ i < 454) ∨ (454 ≤ i ∧ i < 455) ∨ (455 ≤ i ∧ i < 459) ∨ (459 ≤ i ∧ i < 460) ∨ (460 ≤ i ∧ i < 580) ∨ (580 ≤ i ∧ i < 1380) ∨ (1380 ≤ i ∧ i < 1392) ∨ (1392 ≤ i ∧ i < 1400) ∨ (1400 ≤ i ∧ i < 1580) ∨ (1580 ≤ i ∧ i < 1620) ∨ 1620 ≤ i by omega) with ⟨q1, q2⟩ | ⟨q1, q2⟩ | ⟨q1, q2⟩ | ⟨q1, q2⟩ | ⟨q1, q2⟩ | ⟨q1, q2⟩ | ⟨q1, q2⟩ | ⟨q1, q2⟩ | ⟨q1, q2⟩ | ⟨q1, q2⟩ | ⟨q1, q2⟩ | ⟨q1, q2⟩ | ⟨q1, q2⟩ | ⟨q1, q2⟩ | ⟨q1, q2⟩ | ⟨q1, q2⟩ | ⟨q1, q2⟩ | ⟨q1, q2⟩ | ⟨q1, q2⟩ | ⟨q1, q2⟩ | ⟨q1, q2⟩ | ⟨q1, q2⟩ | ⟨q1, q2⟩ | ⟨q1, q2⟩ | q1
  · rw [cp_i0 i q2, cj_i0 i q2]; unfold pcI; (repeat first | rw [if_pos (by omega)] | rw [if_neg (by omega)]) <;> omega
  · rw [cp_i1 i q1 q2, cj_i1 i q1 q2]; unfold pcI; (repeat first | rw [if_pos (by omega)] | rw [if_neg (by omega)]) <;> omega
  · rw [cp_i2 i q1 q2, cj_i2 i q1 q2]; unfold pcI; (repeat first | rw [if_pos (by omega)] | rw [if_neg (by omega)]) <;> omega
  · rw [cp_i3 i q1 q2, cj_i3 i q1 q2]; unfold pcI; (repeat first | rw [if_pos (by omega)] | rw [if_neg (by omega)]) <;> omega
  · rw [cp_i4 i q1 q2, cj_i4 i q1 q2]; unfold pcI; (repeat first | rw [if_pos (by omega)] | rw [if_neg (by omega)]) <;> omega
  · rw [cp_i5 i q1 q2, cj_i5 i q1 q2]; unfold pcI; (repeat first | rw [if_pos (by omega)] | rw [if_neg (by omega)]) <;> omega
  · rw [cp_late i q1 q2, cj_late i q1 q2]; unfold pcI; (repeat first | rw [if_pos (by omega)] | rw [if_neg (by omega)]) <;> omega
  · exact absurd (cp_x1 i q1 q2) h
  · rw [cp_hold i q1 q2, cj_hold i q1 q2]; unfold pcI; (repeat first | rw [if_pos (by omega)] | rw [if_neg (by omega)]) <;> omega
  · exact absurd (cp_x2 i q1 q2) h
  · rw [cp_lean i q1 q2, cj_lean i q1 q2]; unfold pcI; (repeat first | rw [if_pos (by omega)] | rw [if_neg (by omega)]) <;> omega
  · exact absurd (cp_x3 i q1 q2) h
  · rw [cp_skip i q1 q2, cj_skip i q1 q2]; unfold pcI; (repeat first | rw [if_pos (by omega)] | rw [if_neg (by omega)]) <;> omega
  · exact absurd (cp_x4 i q1 q2) h
  · rw [cp_tilt i q1 q2, cj_tilt i q1 q2]; unfold pcI; (repeat first | rw [if_pos (by omega)] | rw [if_neg (by omega)]) <;> omega
  · exact absurd (cp_x5 i q1 q2) h
  · rw [cp_many i q1 q2, cj_many i q1 q2]; unfold pcI; (repeat first | rw [if_pos (by omega)] | rw [if_neg (by omega)]) <;> omega
  · exact absurd (cp_x6 i q1 q2) h
  · rw [cp_start i q1 q2, cj_start i q1 q2]; unfold pcI; (repeat first | rw [if_pos (by omega)] | rw [if_neg (by omega)]) <;> omega
  · rw [cp_wr i q1 q2, cj_wr i q1 q2]; unfold pcI; (repeat first | rw [if_pos (by omega)] | rw [if_neg (by omega)]) <;> omega
  · rw [cp_scr i q1 q2, cj_scr i q1 q2]; unfold pcI; (repeat first | rw [if_pos (by omega)] | rw [if_neg (by omega)]) <;> omega
  · exact absurd (cp_x7 i q1 q2) h
  · rw [cp_bet i q1 q2, cj_bet i q1 q2]; unfold pcI; (repeat first | rw [if_pos (by omega)] | rw [if_neg (by omega)]) <;> omega
  · rw [cp_see i q1 q2, cj_see i q1 q2]; unfold pcI; (repeat first | rw [if_pos (by omega)] | rw [if_neg (by omega)]) <;> omega
  · exact absurd (cp_x8 i q1) h
/-- d 128, q 0: all as it is; d 129, q 23: the image -/
def Rel (d q : Nat) (c g : am_G) : Prop := ∀ i, i < 1620 → cpC i ≠ 99 → g d i = c (cpC i + q) (cpJ i)
theorem Rel.up {d q : Nat} {c g : am_G} {k j i : Nat} {x : Int} (h : Rel d q c g) (hk : cpC i + q = k) (hj : cpJ i = j) (h9 : cpC i ≠ 99) : Rel d q (am_up c k j x) (am_up g d i x) := by
  intro m hm h1
  by_cases e : m = i
  · subst e
    rw [hk, hj, up_eq, up_eq]
  · rw [up_nj e]
    by_cases e1 : cpC m + q = k
    · by_cases e2 : cpJ m = j
      · exfalso
        apply e
        rw [← pc_cp m h1, ← pc_cp i h9, e2, hj, show cpC m = cpC i by omega]
      · rw [e1, up_nj e2, ← e1]; exact h m hm h1
    · rw [up_ne e1]; exact h m hm h1
theorem Rel.c_same {d q : Nat} {c c' g : am_G} (h : Rel d q c g) (hF : ∀ k j, q + 2 ≤ k → k ≤ q + 23 → c' k j = c k j) : Rel d q c' g := by
  intro i hi h9
  have hr := cpC_in i h9
  rw [hF _ _ (by omega) (by omega)]
  exact h i hi h9
theorem Rel.g_same {d q : Nat} {c g g' : am_G} (h : Rel d q c g) (hF : ∀ j, g' d j = g d j) : Rel d q c g' := fun i hi h9 => by rw [hF]; exact h i hi h9
def MRel (c g : am_G) : Prop := Rel 128 0 c g ∧ Rel 129 23 c g ∧ g 127 0 = c 0 0 ∧ g 127 5 = c 47 1 ∧ g 127 7 = c 47 2 ∧ g 127 8 = c 47 3 ∧ (∀ j, j < 300 → g 131 j = c 48 j) ∧ TR c g
theorem TR.c_same {c c' g : am_G} (h : TR c g) (hF : ∀ k j, 6 ≤ k → k ≤ 9 → c' k j = c k j) : TR c' g := by
  intro t k ht hk
  rw [hF 6 3 (by omega) (by omega)] at ht
  rcases h t k ht hk with ⟨h1, h2⟩ | ⟨a, n, h1, h2, h3, h4, h5, h6, h7⟩
  · exact Or.inl ⟨by rw [hF 8 _ (by omega) (by omega)]; exact h1, h2⟩
  · exact Or.inr ⟨a, n, by rw [hF 8 _ (by omega) (by omega)]; exact h1, by rw [hF 9 _ (by omega) (by omega)]; exact h2, h3, h4, h5, h6, fun i hi => by rw [hF 7 _ (by omega) (by omega)]; exact h7 i hi⟩
theorem TR.g_same {c g g' : am_G} (h : TR c g) (hF : ∀ j, g' 130 j = g 130 j) : TR c g' := by
  intro t k ht hk
  unfold TRc
  simp only [hF]
  exact h t k ht hk
/-- what the reference's state is tied to -/
def Co (k j : Nat) : Prop := (k = 0 ∧ j = 0) ∨ (2 ≤ k ∧ k ≤ 23) ∨ (25 ≤ k ∧ k ≤ 46) ∨ (k = 47 ∧ 1 ≤ j ∧ j ≤ 3) ∨ k = 48
def CoE (c c' : am_G) : Prop := ∀ k j, Co k j → c' k j = c k j
theorem MRel.c_same {c c' g : am_G} (h : MRel c g) (hF : CoE c c') : MRel c' g := by
  obtain ⟨h1, h2, h3, h4, h5, h6, h7, h8⟩ := h
  refine ⟨h1.c_same fun k j a b => hF k j (by unfold Co; omega), h2.c_same fun k j a b => hF k j (by unfold Co; omega), ?_, ?_, ?_, ?_, fun j hj => ?_, h8.c_same fun k j a b => hF k j (by unfold Co; omega)⟩
  · rw [hF 0 0 (by unfold Co; omega)]; exact h3
  · rw [hF 47 1 (by unfold Co; omega)]; exact h4
  · rw [hF 47 2 (by unfold Co; omega)]; exact h5
  · rw [hF 47 3 (by unfold Co; omega)]; exact h6
  · rw [hF 48 j (by unfold Co; omega)]; exact h7 j hj
theorem MRel.g_same {c g g' : am_G} (h : MRel c g) (hF : FrN g g') : MRel c g' := by
  obtain ⟨h1, h2, h3, h4, h5, h6, h7, h8⟩ := h
  refine ⟨h1.g_same fun j => hF 128 j (by unfold Sm; omega), h2.g_same fun j => hF 129 j (by unfold Sm; omega), ?_, ?_, ?_, ?_, fun j hj => ?_, h8.g_same fun j => hF 130 j (by unfold Sm; omega)⟩
  · rw [hF 127 0 (by unfold Sm; omega)]; exact h3
  · rw [hF 127 5 (by unfold Sm; omega)]; exact h4
  · rw [hF 127 7 (by unfold Sm; omega)]; exact h5
  · rw [hF 127 8 (by unfold Sm; omega)]; exact h6
  · rw [hF 131 j (by unfold Sm; omega)]; exact h7 j hj
theorem FrQ.co {g h : am_G} (hF : FrQ g h) : CoE g h := fun k j hc => hF k j (by unfold Co at hc; unfold Sq; omega)
theorem CoE.trans {g h i : am_G} (h1 : CoE g h) (h2 : CoE h i) : CoE g i := fun c j a => (h2 c j a).trans (h1 c j a)
theorem CoE.rfl {g : am_G} : CoE g g := fun _ _ _ => Eq.refl _
theorem MRel.texts {c g : am_G} (h : MRel c g) : g 128 (0) = c 6 (3) := by
  have e1 : cpC (0) = 6 := (cp_i0 (0) (by omega)).trans (by omega)
  have e2 : cpJ (0) = 3 := (cj_i0 (0) (by omega)).trans (by omega)
  have e := h.1 (0) (by omega) (by rw [e1]; decide)
  rw [e1, e2] at e
  exact e
theorem MRel.law {c g : am_G} (h : MRel c g) : g 128 (1) = c 6 (4) := by
  have e1 : cpC (1) = 6 := (cp_i1 (1) (by omega) (by omega)).trans (by omega)
  have e2 : cpJ (1) = 4 := (cj_i1 (1) (by omega) (by omega)).trans (by omega)
  have e := h.1 (1) (by omega) (by rw [e1]; decide)
  rw [e1, e2] at e
  exact e
theorem MRel.written {c g : am_G} (h : MRel c g) : g 128 (2) = c 10 (4) := by
  have e1 : cpC (2) = 10 := (cp_i2 (2) (by omega) (by omega)).trans (by omega)
  have e2 : cpJ (2) = 4 := (cj_i2 (2) (by omega) (by omega)).trans (by omega)
  have e := h.1 (2) (by omega) (by rw [e1]; decide)
  rw [e1, e2] at e
  exact e
theorem MRel.bets {c g : am_G} (h : MRel c g) : g 128 (3) = c 10 (11) := by
  have e1 : cpC (3) = 10 := (cp_i3 (3) (by omega) (by omega)).trans (by omega)
  have e2 : cpJ (3) = 11 := (cj_i3 (3) (by omega) (by omega)).trans (by omega)
  have e := h.1 (3) (by omega) (by rw [e1]; decide)
  rw [e1, e2] at e
  exact e
theorem MRel.seen {c g : am_G} (h : MRel c g) : g 128 (4) = c 10 (14) := by
  have e1 : cpC (4) = 10 := (cp_i4 (4) (by omega) (by omega)).trans (by omega)
  have e2 : cpJ (4) = 14 := (cj_i4 (4) (by omega) (by omega)).trans (by omega)
  have e := h.1 (4) (by omega) (by rw [e1]; decide)
  rw [e1, e2] at e
  exact e
theorem MRel.pay {c g : am_G} (h : MRel c g) : g 128 (5) = c 10 (16) := by
  have e1 : cpC (5) = 10 := (cp_i5 (5) (by omega) (by omega)).trans (by omega)
  have e2 : cpJ (5) = 16 := (cj_i5 (5) (by omega) (by omega)).trans (by omega)
  have e := h.1 (5) (by omega) (by rw [e1]; decide)
  rw [e1, e2] at e
  exact e
theorem MRel.late {c g : am_G} (h : MRel c g) (i : Nat) (hi : i < 5) : g 128 (6 + i) = c 23 (i) := by
  have e1 : cpC (6 + i) = 23 := (cp_late (6 + i) (by omega) (by omega)).trans (by omega)
  have e2 : cpJ (6 + i) = i := (cj_late (6 + i) (by omega) (by omega)).trans (by omega)
  have e := h.1 (6 + i) (by omega) (by rw [e1]; decide)
  rw [e1, e2] at e
  exact e
theorem MRel.hold {c g : am_G} (h : MRel c g) (i : Nat) (hi : i < 148) : g 128 (20 + i) = c 2 (i) := by
  have e1 : cpC (20 + i) = 2 := (cp_hold (20 + i) (by omega) (by omega)).trans (by omega)
  have e2 : cpJ (20 + i) = i := (cj_hold (20 + i) (by omega) (by omega)).trans (by omega)
  have e := h.1 (20 + i) (by omega) (by rw [e1]; decide)
  rw [e1, e2] at e
  exact e
theorem MRel.lean {c g : am_G} (h : MRel c g) (i : Nat) (hi : i < 148) : g 128 (170 + i) = c 3 (i) := by
  have e1 : cpC (170 + i) = 3 := (cp_lean (170 + i) (by omega) (by omega)).trans (by omega)
  have e2 : cpJ (170 + i) = i := (cj_lean (170 + i) (by omega) (by omega)).trans (by omega)
  have e := h.1 (170 + i) (by omega) (by rw [e1]; decide)
  rw [e1, e2] at e
  exact e
theorem MRel.skip {c g : am_G} (h : MRel c g) (i : Nat) (hi : i < 128) : g 128 (320 + i) = c 4 (i) := by
  have e1 : cpC (320 + i) = 4 := (cp_skip (320 + i) (by omega) (by omega)).trans (by omega)
  have e2 : cpJ (320 + i) = i := (cj_skip (320 + i) (by omega) (by omega)).trans (by omega)
  have e := h.1 (320 + i) (by omega) (by rw [e1]; decide)
  rw [e1, e2] at e
  exact e
theorem MRel.tilt {c g : am_G} (h : MRel c g) (i : Nat) (hi : i < 4) : g 128 (450 + i) = c 5 (i) := by
  have e1 : cpC (450 + i) = 5 := (cp_tilt (450 + i) (by omega) (by omega)).trans (by omega)
  have e2 : cpJ (450 + i) = i := (cj_tilt (450 + i) (by omega) (by omega)).trans (by omega)
  have e := h.1 (450 + i) (by omega) (by rw [e1]; decide)
  rw [e1, e2] at e
  exact e
theorem MRel.many {c g : am_G} (h : MRel c g) (i : Nat) (hi : i < 4) : g 128 (455 + i) = c 17 (i) := by
  have e1 : cpC (455 + i) = 17 := (cp_many (455 + i) (by omega) (by omega)).trans (by omega)
  have e2 : cpJ (455 + i) = i := (cj_many (455 + i) (by omega) (by omega)).trans (by omega)
  have e := h.1 (455 + i) (by omega) (by rw [e1]; decide)
  rw [e1, e2] at e
  exact e
theorem MRel.start {c g : am_G} (h : MRel c g) (i : Nat) (hi : i < 120) : g 128 (460 + i) = c 16 (i) := by
  have e1 : cpC (460 + i) = 16 := (cp_start (460 + i) (by omega) (by omega)).trans (by omega)
  have e2 : cpJ (460 + i) = i := (cj_start (460 + i) (by omega) (by omega)).trans (by omega)
  have e := h.1 (460 + i) (by omega) (by rw [e1]; decide)
  rw [e1, e2] at e
  exact e
theorem MRel.ev {c g : am_G} (h : MRel c g) (i : Nat) (hi : i < 200) : g 128 (580 + 4 * i) = c 11 (i) := by
  have e1 : cpC (580 + 4 * i) = 11 := (cp_wr (580 + 4 * i) (by omega) (by omega)).trans (by omega)
  have e2 : cpJ (580 + 4 * i) = i := (cj_wr (580 + 4 * i) (by omega) (by omega)).trans (by omega)
  have e := h.1 (580 + 4 * i) (by omega) (by rw [e1]; decide)
  rw [e1, e2] at e
  exact e
theorem MRel.tb {c g : am_G} (h : MRel c g) (i : Nat) (hi : i < 200) : g 128 (580 + 4 * i + 1) = c 12 (i) := by
  have e1 : cpC (580 + 4 * i + 1) = 12 := (cp_wr (580 + 4 * i + 1) (by omega) (by omega)).trans (by omega)
  have e2 : cpJ (580 + 4 * i + 1) = i := (cj_wr (580 + 4 * i + 1) (by omega) (by omega)).trans (by omega)
  have e := h.1 (580 + 4 * i + 1) (by omega) (by rw [e1]; decide)
  rw [e1, e2] at e
  exact e
theorem MRel.hd {c g : am_G} (h : MRel c g) (i : Nat) (hi : i < 200) : g 128 (580 + 4 * i + 2) = c 13 (i) := by
  have e1 : cpC (580 + 4 * i + 2) = 13 := (cp_wr (580 + 4 * i + 2) (by omega) (by omega)).trans (by omega)
  have e2 : cpJ (580 + 4 * i + 2) = i := (cj_wr (580 + 4 * i + 2) (by omega) (by omega)).trans (by omega)
  have e := h.1 (580 + 4 * i + 2) (by omega) (by rw [e1]; decide)
  rw [e1, e2] at e
  exact e
theorem MRel.fl {c g : am_G} (h : MRel c g) (i : Nat) (hi : i < 200) : g 128 (580 + 4 * i + 3) = c 14 (i) := by
  have e1 : cpC (580 + 4 * i + 3) = 14 := (cp_wr (580 + 4 * i + 3) (by omega) (by omega)).trans (by omega)
  have e2 : cpJ (580 + 4 * i + 3) = i := (cj_wr (580 + 4 * i + 3) (by omega) (by omega)).trans (by omega)
  have e := h.1 (580 + 4 * i + 3) (by omega) (by rw [e1]; decide)
  rw [e1, e2] at e
  exact e
theorem MRel.scr {c g : am_G} (h : MRel c g) (i : Nat) (hi : i < 12) : g 128 (1380 + i) = c 15 (i) := by
  have e1 : cpC (1380 + i) = 15 := (cp_scr (1380 + i) (by omega) (by omega)).trans (by omega)
  have e2 : cpJ (1380 + i) = i := (cj_scr (1380 + i) (by omega) (by omega)).trans (by omega)
  have e := h.1 (1380 + i) (by omega) (by rw [e1]; decide)
  rw [e1, e2] at e
  exact e
theorem MRel.bt {c g : am_G} (h : MRel c g) (i : Nat) (hi : i < 60) : g 128 (1400 + 3 * i) = c 18 (i) := by
  have e1 : cpC (1400 + 3 * i) = 18 := (cp_bet (1400 + 3 * i) (by omega) (by omega)).trans (by omega)
  have e2 : cpJ (1400 + 3 * i) = i := (cj_bet (1400 + 3 * i) (by omega) (by omega)).trans (by omega)
  have e := h.1 (1400 + 3 * i) (by omega) (by rw [e1]; decide)
  rw [e1, e2] at e
  exact e
theorem MRel.bs {c g : am_G} (h : MRel c g) (i : Nat) (hi : i < 60) : g 128 (1400 + 3 * i + 1) = c 19 (i) := by
  have e1 : cpC (1400 + 3 * i + 1) = 19 := (cp_bet (1400 + 3 * i + 1) (by omega) (by omega)).trans (by omega)
  have e2 : cpJ (1400 + 3 * i + 1) = i := (cj_bet (1400 + 3 * i + 1) (by omega) (by omega)).trans (by omega)
  have e := h.1 (1400 + 3 * i + 1) (by omega) (by rw [e1]; decide)
  rw [e1, e2] at e
  exact e
theorem MRel.bp {c g : am_G} (h : MRel c g) (i : Nat) (hi : i < 60) : g 128 (1400 + 3 * i + 2) = c 20 (i) := by
  have e1 : cpC (1400 + 3 * i + 2) = 20 := (cp_bet (1400 + 3 * i + 2) (by omega) (by omega)).trans (by omega)
  have e2 : cpJ (1400 + 3 * i + 2) = i := (cj_bet (1400 + 3 * i + 2) (by omega) (by omega)).trans (by omega)
  have e := h.1 (1400 + 3 * i + 2) (by omega) (by rw [e1]; decide)
  rw [e1, e2] at e
  exact e
theorem MRel.ss {c g : am_G} (h : MRel c g) (i : Nat) (hi : i < 20) : g 128 (1580 + 2 * i) = c 21 (i) := by
  have e1 : cpC (1580 + 2 * i) = 21 := (cp_see (1580 + 2 * i) (by omega) (by omega)).trans (by omega)
  have e2 : cpJ (1580 + 2 * i) = i := (cj_see (1580 + 2 * i) (by omega) (by omega)).trans (by omega)
  have e := h.1 (1580 + 2 * i) (by omega) (by rw [e1]; decide)
  rw [e1, e2] at e
  exact e
theorem MRel.sn {c g : am_G} (h : MRel c g) (i : Nat) (hi : i < 20) : g 128 (1580 + 2 * i + 1) = c 22 (i) := by
  have e1 : cpC (1580 + 2 * i + 1) = 22 := (cp_see (1580 + 2 * i + 1) (by omega) (by omega)).trans (by omega)
  have e2 : cpJ (1580 + 2 * i + 1) = i := (cj_see (1580 + 2 * i + 1) (by omega) (by omega)).trans (by omega)
  have e := h.1 (1580 + 2 * i + 1) (by omega) (by rw [e1]; decide)
  rw [e1, e2] at e
  exact e
theorem MRel.n {c g : am_G} (h : MRel c g) : g 127 0 = c 0 0 := h.2.2.1
theorem MRel.taped {c g : am_G} (h : MRel c g) : g 127 5 = c 47 1 := h.2.2.2.1
theorem MRel.fault {c g : am_G} (h : MRel c g) : g 127 7 = c 47 2 := h.2.2.2.2.1
theorem MRel.place {c g : am_G} (h : MRel c g) : g 127 8 = c 47 3 := h.2.2.2.2.2.1
theorem MRel.tape {c g : am_G} (h : MRel c g) : ∀ j, j < 300 → g 131 j = c 48 j := h.2.2.2.2.2.2.1
theorem MRel.tr {c g : am_G} (h : MRel c g) : TR c g := h.2.2.2.2.2.2.2
