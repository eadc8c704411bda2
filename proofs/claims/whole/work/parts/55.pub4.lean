/-! AN IMAGE, AND BACK -/
def RowW (c j : Nat) : Prop := (c = 2 ∧ j < 148) ∨ (c = 3 ∧ j < 148) ∨ (c = 4 ∧ j < 128) ∨ (c = 5 ∧ j < 4)
def RowT (c j : Nat) : Prop := (c = 6 ∧ j = 3) ∨ (c = 6 ∧ j = 4) ∨ (c = 7 ∧ j < 1800) ∨ (c = 8 ∧ j < 24) ∨ (c = 9 ∧ j < 24)
def RowB (c j : Nat) : Prop := (c = 10 ∧ j = 4) ∨ (c = 10 ∧ j = 11) ∨ (c = 10 ∧ j = 14) ∨ (c = 10 ∧ j = 16) ∨ (c = 11 ∧ j < 200) ∨ (c = 12 ∧ j < 200) ∨ (c = 13 ∧ j < 200) ∨ (c = 14 ∧ j < 200) ∨ (c = 15 ∧ j < 12) ∨ (c = 16 ∧ j < 120) ∨ (c = 17 ∧ j < 4) ∨ (c = 18 ∧ j < 60) ∨ (c = 19 ∧ j < 60) ∨ (c = 20 ∧ j < 60) ∨ (c = 21 ∧ j < 20) ∨ (c = 22 ∧ j < 20) ∨ (c = 23 ∧ j < 5)
def Row (c j : Nat) : Prop := RowW c j ∨ RowT c j ∨ RowB c j
theorem cp_in {g : am_G} {s a d n j : Nat} (h : j < n) : am_cp g s a d 0 n d j = g s (a + j) := by
  unfold am_cp
  rw [if_pos rfl, if_pos ⟨Nat.zero_le _, by omega⟩, Nat.sub_zero]
theorem cp_ne {g : am_G} {s a d p n k j : Nat} (h : k ≠ d) : am_cp g s a d p n k j = g k j := by
  unfold am_cp
  rw [if_neg h]
theorem cp_in0 {g : am_G} {s d n j : Nat} (h : j < n) : am_cp g s 0 d 0 n d j = g s j := by
  rw [cp_in h, Nat.zero_add]
theorem row_2 {j : Nat} (h : j < 148) : Row 2 j := Or.inl (Or.inl ⟨rfl, h⟩)
theorem row_3 {j : Nat} (h : j < 148) : Row 3 j := Or.inl (Or.inr (Or.inl ⟨rfl, h⟩))
theorem row_4 {j : Nat} (h : j < 128) : Row 4 j := Or.inl (Or.inr (Or.inr (Or.inl ⟨rfl, h⟩)))
theorem row_5 {j : Nat} (h : j < 4) : Row 5 j := Or.inl (Or.inr (Or.inr (Or.inr (⟨rfl, h⟩))))
theorem row_6_3 : Row 6 3 := Or.inr (Or.inl (Or.inl ⟨rfl, rfl⟩))
theorem row_6_4 : Row 6 4 := Or.inr (Or.inl (Or.inr (Or.inl ⟨rfl, rfl⟩)))
theorem row_7 {j : Nat} (h : j < 1800) : Row 7 j := Or.inr (Or.inl (Or.inr (Or.inr (Or.inl ⟨rfl, h⟩))))
theorem row_8 {j : Nat} (h : j < 24) : Row 8 j := Or.inr (Or.inl (Or.inr (Or.inr (Or.inr (Or.inl ⟨rfl, h⟩)))))
theorem row_9 {j : Nat} (h : j < 24) : Row 9 j := Or.inr (Or.inl (Or.inr (Or.inr (Or.inr (Or.inr (⟨rfl, h⟩))))))
theorem row_10_4 : Row 10 4 := Or.inr (Or.inr (Or.inl ⟨rfl, rfl⟩))
theorem row_10_11 : Row 10 11 := Or.inr (Or.inr (Or.inr (Or.inl ⟨rfl, rfl⟩)))
theorem row_10_14 : Row 10 14 := Or.inr (Or.inr (Or.inr (Or.inr (Or.inl ⟨rfl, rfl⟩))))
theorem row_10_16 : Row 10 16 := Or.inr (Or.inr (Or.inr (Or.inr (Or.inr (Or.inl ⟨rfl, rfl⟩)))))
theorem row_11 {j : Nat} (h : j < 200) : Row 11 j := Or.inr (Or.inr (Or.inr (Or.inr (Or.inr (Or.inr (Or.inl ⟨rfl, h⟩))))))
theorem row_12 {j : Nat} (h : j < 200) : Row 12 j := Or.inr (Or.inr (Or.inr (Or.inr (Or.inr (Or.inr (Or.inr (Or.inl ⟨rfl, h⟩)))))))
theorem row_13 {j : Nat} (h : j < 200) : Row 13 j := Or.inr (Or.inr (Or.inr (Or.inr (Or.inr (Or.inr (Or.inr (Or.inr (Or.inl ⟨rfl, h⟩))))))))
theorem row_14 {j : Nat} (h : j < 200) : Row 14 j := Or.inr (Or.inr (Or.inr (Or.inr (Or.inr (Or.inr (Or.inr (Or.inr (Or.inr (Or.inl ⟨rfl, h⟩)))))))))
theorem row_15 {j : Nat} (h : j < 12) : Row 15 j := Or.inr (Or.inr (Or.inr (Or.inr (Or.inr (Or.inr (Or.inr (Or.inr (Or.inr (Or.inr (Or.inl ⟨rfl, h⟩))))))))))
theorem row_16 {j : Nat} (h : j < 120) : Row 16 j := Or.inr (Or.inr (Or.inr (Or.inr (Or.inr (Or.inr (Or.inr (Or.inr (Or.inr (Or.inr (Or.inr (Or.inl ⟨rfl, h⟩)))))))))))
theorem row_17 {j : Nat} (h : j < 4) : Row 17 j := Or.inr (Or.inr (Or.inr (Or.inr (Or.inr (Or.inr (Or.inr (Or.inr (Or.inr (Or.inr (Or.inr (Or.inr (Or.inl ⟨rfl, h⟩))))))))))))
theorem row_18 {j : Nat} (h : j < 60) : Row 18 j := Or.inr (Or.inr (Or.inr (Or.inr (Or.inr (Or.inr (Or.inr (Or.inr (Or.inr (Or.inr (Or.inr (Or.inr (Or.inr (Or.inl ⟨rfl, h⟩)))))))))))))
theorem row_19 {j : Nat} (h : j < 60) : Row 19 j := Or.inr (Or.inr (Or.inr (Or.inr (Or.inr (Or.inr (Or.inr (Or.inr (Or.inr (Or.inr (Or.inr (Or.inr (Or.inr (Or.inr (Or.inl ⟨rfl, h⟩))))))))))))))
theorem row_20 {j : Nat} (h : j < 60) : Row 20 j := Or.inr (Or.inr (Or.inr (Or.inr (Or.inr (Or.inr (Or.inr (Or.inr (Or.inr (Or.inr (Or.inr (Or.inr (Or.inr (Or.inr (Or.inr (Or.inl ⟨rfl, h⟩)))))))))))))))
theorem row_21 {j : Nat} (h : j < 20) : Row 21 j := Or.inr (Or.inr (Or.inr (Or.inr (Or.inr (Or.inr (Or.inr (Or.inr (Or.inr (Or.inr (Or.inr (Or.inr (Or.inr (Or.inr (Or.inr (Or.inr (Or.inl ⟨rfl, h⟩))))))))))))))))
theorem row_22 {j : Nat} (h : j < 20) : Row 22 j := Or.inr (Or.inr (Or.inr (Or.inr (Or.inr (Or.inr (Or.inr (Or.inr (Or.inr (Or.inr (Or.inr (Or.inr (Or.inr (Or.inr (Or.inr (Or.inr (Or.inr (Or.inl ⟨rfl, h⟩)))))))))))))))))
theorem row_23 {j : Nat} (h : j < 5) : Row 23 j := Or.inr (Or.inr (Or.inr (Or.inr (Or.inr (Or.inr (Or.inr (Or.inr (Or.inr (Or.inr (Or.inr (Or.inr (Or.inr (Or.inr (Or.inr (Or.inr (Or.inr (Or.inr (⟨rfl, h⟩))))))))))))))))))
set_option maxHeartbeats 400000 in
set_option maxRecDepth 20000 in
theorem e_takeW1 {sn : Nat} {sx : Nat → Int} {b : Nat} {g : am_G}  : Ev sn sx 1 81 [(2, 24), (2, 1)] (SH b) g (fun r => ∃ g', r = (none, SH b, g') ∧ (∀ c j, RowW c j → g' (c + 23) j = g c j) ∧ (∀ c j, (c < 25 ∨ 28 < c) → g' c j = g c j)) := by
  refine ev_of (K := 0) T81 (by decide) rfl rfl (Nat.le_of_ble_eq_true rfl) ?_
  refine wp_eq (L' := [(2, 24), (2, 1)]) (st' := []) (g' := g) ?_
  refine wp_n 9 (pc' := 15) (L' := [(2, 24), (2, 1)]) (st' := [(0, 148), (0, 0), (2, 25), (0, 0), (2, 2)]) (g' := g) rfl ?_
  refine wp_cpy (a := 0) (b := 0) (c := 148) (src := 2) (dst := 25) rfl rfl rfl (by decide) rfl rfl rfl (by omega) (by omega) (by decide) (by decide) (by decide) ?_
  refine wp_n 9 (pc' := 33) (L' := [(2, 24), (2, 1)]) (st' := [(0, 148), (0, 0), (2, 26), (0, 0), (2, 3)]) (g' := (am_cp g 2 0 25 0 148)) rfl ?_
  refine wp_cpy (a := 0) (b := 0) (c := 148) (src := 3) (dst := 26) rfl rfl rfl (by decide) rfl rfl rfl (by omega) (by omega) (by decide) (by decide) (by decide) ?_
  refine wp_n 9 (pc' := 51) (L' := [(2, 24), (2, 1)]) (st' := [(0, 128), (0, 0), (2, 27), (0, 0), (2, 4)]) (g' := (am_cp (am_cp g 2 0 25 0 148) 3 0 26 0 148)) rfl ?_
  refine wp_cpy (a := 0) (b := 0) (c := 128) (src := 4) (dst := 27) rfl rfl rfl (by decide) rfl rfl rfl (by omega) (by omega) (by decide) (by decide) (by decide) ?_
  refine wp_n 9 (pc' := 69) (L' := [(2, 24), (2, 1)]) (st' := [(0, 4), (0, 0), (2, 28), (0, 0), (2, 5)]) (g' := (am_cp (am_cp (am_cp g 2 0 25 0 148) 3 0 26 0 148) 4 0 27 0 128)) rfl ?_
  refine wp_cpy (a := 0) (b := 0) (c := 4) (src := 5) (dst := 28) rfl rfl rfl (by decide) rfl rfl rfl (by omega) (by omega) (by decide) (by decide) (by decide) ?_
  exact wp_ret rfl rfl rfl ⟨_, rfl, fun c j hc => by
    unfold RowW at hc
    rcases hc with ⟨rfl, hj⟩ | ⟨rfl, hj⟩ | ⟨rfl, hj⟩ | ⟨rfl, hj⟩ <;> (first | subst hj | skip) <;> (repeat first | rw [cp_in0 (by omega)] | rw [cp_ne (by omega)] | rw [up_eq] | rw [up_no (by omega)]), fun c j hc => by
    (repeat first | rw [cp_ne (by omega)] | rw [up_no (by omega)])⟩
set_option maxHeartbeats 400000 in
set_option maxRecDepth 20000 in
theorem e_takeW2 {sn : Nat} {sx : Nat → Int} {b : Nat} {g : am_G}  : Ev sn sx 1 81 [(2, 1), (2, 24)] (SH b) g (fun r => ∃ g', r = (none, SH b, g') ∧ (∀ c j, RowW c j → g' c j = g (c + 23) j) ∧ (∀ c j, (c < 2 ∨ 5 < c) → g' c j = g c j)) := by
  refine ev_of (K := 0) T81 (by decide) rfl rfl (Nat.le_of_ble_eq_true rfl) ?_
  refine wp_eq (L' := [(2, 1), (2, 24)]) (st' := []) (g' := g) ?_
  refine wp_n 9 (pc' := 15) (L' := [(2, 1), (2, 24)]) (st' := [(0, 148), (0, 0), (2, 2), (0, 0), (2, 25)]) (g' := g) rfl ?_
  refine wp_cpy (a := 0) (b := 0) (c := 148) (src := 25) (dst := 2) rfl rfl rfl (by decide) rfl rfl rfl (by omega) (by omega) (by decide) (by decide) (by decide) ?_
  refine wp_n 9 (pc' := 33) (L' := [(2, 1), (2, 24)]) (st' := [(0, 148), (0, 0), (2, 3), (0, 0), (2, 26)]) (g' := (am_cp g 25 0 2 0 148)) rfl ?_
  refine wp_cpy (a := 0) (b := 0) (c := 148) (src := 26) (dst := 3) rfl rfl rfl (by decide) rfl rfl rfl (by omega) (by omega) (by decide) (by decide) (by decide) ?_
  refine wp_n 9 (pc' := 51) (L' := [(2, 1), (2, 24)]) (st' := [(0, 128), (0, 0), (2, 4), (0, 0), (2, 27)]) (g' := (am_cp (am_cp g 25 0 2 0 148) 26 0 3 0 148)) rfl ?_
  refine wp_cpy (a := 0) (b := 0) (c := 128) (src := 27) (dst := 4) rfl rfl rfl (by decide) rfl rfl rfl (by omega) (by omega) (by decide) (by decide) (by decide) ?_
  refine wp_n 9 (pc' := 69) (L' := [(2, 1), (2, 24)]) (st' := [(0, 4), (0, 0), (2, 5), (0, 0), (2, 28)]) (g' := (am_cp (am_cp (am_cp g 25 0 2 0 148) 26 0 3 0 148) 27 0 4 0 128)) rfl ?_
  refine wp_cpy (a := 0) (b := 0) (c := 4) (src := 28) (dst := 5) rfl rfl rfl (by decide) rfl rfl rfl (by omega) (by omega) (by decide) (by decide) (by decide) ?_
  exact wp_ret rfl rfl rfl ⟨_, rfl, fun c j hc => by
    unfold RowW at hc
    rcases hc with ⟨rfl, hj⟩ | ⟨rfl, hj⟩ | ⟨rfl, hj⟩ | ⟨rfl, hj⟩ <;> (first | subst hj | skip) <;> (repeat first | rw [cp_in0 (by omega)] | rw [cp_ne (by omega)] | rw [up_eq] | rw [up_no (by omega)]), fun c j hc => by
    (repeat first | rw [cp_ne (by omega)] | rw [up_no (by omega)])⟩
set_option maxHeartbeats 400000 in
set_option maxRecDepth 20000 in
theorem e_takeT1 {sn : Nat} {sx : Nat → Int} {b : Nat} {g : am_G}  : Ev sn sx 1 78 [(2, 29), (2, 6)] (SH b) g (fun r => ∃ g', r = (none, SH b, g') ∧ (∀ c j, RowT c j → g' (c + 23) j = g c j) ∧ (∀ c j, (c < 29 ∨ 32 < c) → g' c j = g c j)) := by
  refine ev_of (K := 0) T78 (by decide) rfl rfl (Nat.le_of_ble_eq_true rfl) ?_
  refine wp_eq (L' := [(2, 29), (2, 6)]) (st' := []) (g' := g) ?_
  refine wp_n 9 (pc' := 15) (L' := [(2, 29), (2, 6)]) (st' := [(0, 1800), (0, 0), (2, 30), (0, 0), (2, 7)]) (g' := g) rfl ?_
  refine wp_cpy (a := 0) (b := 0) (c := 1800) (src := 7) (dst := 30) rfl rfl rfl (by decide) rfl rfl rfl (by omega) (by omega) (by decide) (by decide) (by decide) ?_
  refine wp_n 9 (pc' := 33) (L' := [(2, 29), (2, 6)]) (st' := [(0, 24), (0, 0), (2, 31), (0, 0), (2, 8)]) (g' := (am_cp g 7 0 30 0 1800)) rfl ?_
  refine wp_cpy (a := 0) (b := 0) (c := 24) (src := 8) (dst := 31) rfl rfl rfl (by decide) rfl rfl rfl (by omega) (by omega) (by decide) (by decide) (by decide) ?_
  refine wp_n 9 (pc' := 51) (L' := [(2, 29), (2, 6)]) (st' := [(0, 24), (0, 0), (2, 32), (0, 0), (2, 9)]) (g' := (am_cp (am_cp g 7 0 30 0 1800) 8 0 31 0 24)) rfl ?_
  refine wp_cpy (a := 0) (b := 0) (c := 24) (src := 9) (dst := 32) rfl rfl rfl (by decide) rfl rfl rfl (by omega) (by omega) (by decide) (by decide) (by decide) ?_
  refine wp_n 8 (pc' := 70) (L' := [(2, 29), (2, 6)]) (st' := []) (g' := (am_up (am_up (am_cp (am_cp (am_cp g 7 0 30 0 1800) 8 0 31 0 24) 9 0 32 0 24) 29 3 ((am_cp (am_cp (am_cp g 7 0 30 0 1800) 8 0 31 0 24) 9 0 32 0 24) 6 3)) 29 4 ((am_cp (am_cp (am_cp g 7 0 30 0 1800) 8 0 31 0 24) 9 0 32 0 24) 6 4))) rfl ?_
  exact wp_ret rfl rfl rfl ⟨_, rfl, fun c j hc => by
    unfold RowT at hc
    rcases hc with ⟨rfl, hj⟩ | ⟨rfl, hj⟩ | ⟨rfl, hj⟩ | ⟨rfl, hj⟩ | ⟨rfl, hj⟩ <;> (first | subst hj | skip) <;> (repeat first | rw [cp_in0 (by omega)] | rw [cp_ne (by omega)] | rw [up_eq] | rw [up_no (by omega)]), fun c j hc => by
    (repeat first | rw [cp_ne (by omega)] | rw [up_no (by omega)])⟩
set_option maxHeartbeats 400000 in
set_option maxRecDepth 20000 in
theorem e_takeT2 {sn : Nat} {sx : Nat → Int} {b : Nat} {g : am_G}  : Ev sn sx 1 78 [(2, 6), (2, 29)] (SH b) g (fun r => ∃ g', r = (none, SH b, g') ∧ (∀ c j, RowT c j → g' c j = g (c + 23) j) ∧ (∀ c j, (c < 6 ∨ 9 < c) → g' c j = g c j)) := by
  refine ev_of (K := 0) T78 (by decide) rfl rfl (Nat.le_of_ble_eq_true rfl) ?_
  refine wp_eq (L' := [(2, 6), (2, 29)]) (st' := []) (g' := g) ?_
  refine wp_n 9 (pc' := 15) (L' := [(2, 6), (2, 29)]) (st' := [(0, 1800), (0, 0), (2, 7), (0, 0), (2, 30)]) (g' := g) rfl ?_
  refine wp_cpy (a := 0) (b := 0) (c := 1800) (src := 30) (dst := 7) rfl rfl rfl (by decide) rfl rfl rfl (by omega) (by omega) (by decide) (by decide) (by decide) ?_
  refine wp_n 9 (pc' := 33) (L' := [(2, 6), (2, 29)]) (st' := [(0, 24), (0, 0), (2, 8), (0, 0), (2, 31)]) (g' := (am_cp g 30 0 7 0 1800)) rfl ?_
  refine wp_cpy (a := 0) (b := 0) (c := 24) (src := 31) (dst := 8) rfl rfl rfl (by decide) rfl rfl rfl (by omega) (by omega) (by decide) (by decide) (by decide) ?_
  refine wp_n 9 (pc' := 51) (L' := [(2, 6), (2, 29)]) (st' := [(0, 24), (0, 0), (2, 9), (0, 0), (2, 32)]) (g' := (am_cp (am_cp g 30 0 7 0 1800) 31 0 8 0 24)) rfl ?_
  refine wp_cpy (a := 0) (b := 0) (c := 24) (src := 32) (dst := 9) rfl rfl rfl (by decide) rfl rfl rfl (by omega) (by omega) (by decide) (by decide) (by decide) ?_
  refine wp_n 8 (pc' := 70) (L' := [(2, 6), (2, 29)]) (st' := []) (g' := (am_up (am_up (am_cp (am_cp (am_cp g 30 0 7 0 1800) 31 0 8 0 24) 32 0 9 0 24) 6 3 ((am_cp (am_cp (am_cp g 30 0 7 0 1800) 31 0 8 0 24) 32 0 9 0 24) 29 3)) 6 4 ((am_cp (am_cp (am_cp g 30 0 7 0 1800) 31 0 8 0 24) 32 0 9 0 24) 29 4))) rfl ?_
  exact wp_ret rfl rfl rfl ⟨_, rfl, fun c j hc => by
    unfold RowT at hc
    rcases hc with ⟨rfl, hj⟩ | ⟨rfl, hj⟩ | ⟨rfl, hj⟩ | ⟨rfl, hj⟩ | ⟨rfl, hj⟩ <;> (first | subst hj | skip) <;> (repeat first | rw [cp_in0 (by omega)] | rw [cp_ne (by omega)] | rw [up_eq] | rw [up_no (by omega)]), fun c j hc => by
    (repeat first | rw [cp_ne (by omega)] | rw [up_no (by omega)])⟩
set_option maxHeartbeats 400000 in
set_option maxRecDepth 20000 in
theorem e_takeB1 {sn : Nat} {sx : Nat → Int} {b : Nat} {g : am_G}  : Ev sn sx 1 18 [(2, 33), (2, 10)] (SH b) g (fun r => ∃ g', r = (none, SH b, g') ∧ (∀ c j, RowB c j → g' (c + 23) j = g c j) ∧ (∀ c j, (c < 33 ∨ 46 < c) → g' c j = g c j)) := by
  refine ev_of (K := 0) T18 (by decide) rfl rfl (Nat.le_of_ble_eq_true rfl) ?_
  refine wp_eq (L' := [(2, 33), (2, 10)]) (st' := []) (g' := g) ?_
  refine wp_n 9 (pc' := 15) (L' := [(2, 33), (2, 10)]) (st' := [(0, 200), (0, 0), (2, 34), (0, 0), (2, 11)]) (g' := g) rfl ?_
  refine wp_cpy (a := 0) (b := 0) (c := 200) (src := 11) (dst := 34) rfl rfl rfl (by decide) rfl rfl rfl (by omega) (by omega) (by decide) (by decide) (by decide) ?_
  refine wp_n 9 (pc' := 33) (L' := [(2, 33), (2, 10)]) (st' := [(0, 200), (0, 0), (2, 35), (0, 0), (2, 12)]) (g' := (am_cp g 11 0 34 0 200)) rfl ?_
  refine wp_cpy (a := 0) (b := 0) (c := 200) (src := 12) (dst := 35) rfl rfl rfl (by decide) rfl rfl rfl (by omega) (by omega) (by decide) (by decide) (by decide) ?_
  refine wp_n 9 (pc' := 51) (L' := [(2, 33), (2, 10)]) (st' := [(0, 200), (0, 0), (2, 36), (0, 0), (2, 13)]) (g' := (am_cp (am_cp g 11 0 34 0 200) 12 0 35 0 200)) rfl ?_
  refine wp_cpy (a := 0) (b := 0) (c := 200) (src := 13) (dst := 36) rfl rfl rfl (by decide) rfl rfl rfl (by omega) (by omega) (by decide) (by decide) (by decide) ?_
  refine wp_n 9 (pc' := 69) (L' := [(2, 33), (2, 10)]) (st' := [(0, 200), (0, 0), (2, 37), (0, 0), (2, 14)]) (g' := (am_cp (am_cp (am_cp g 11 0 34 0 200) 12 0 35 0 200) 13 0 36 0 200)) rfl ?_
  refine wp_cpy (a := 0) (b := 0) (c := 200) (src := 14) (dst := 37) rfl rfl rfl (by decide) rfl rfl rfl (by omega) (by omega) (by decide) (by decide) (by decide) ?_
  refine wp_n 13 (pc' := 95) (L' := [(2, 33), (2, 10)]) (st' := [(0, 12), (0, 0), (2, 38), (0, 0), (2, 15)]) (g' := (am_up (am_cp (am_cp (am_cp (am_cp g 11 0 34 0 200) 12 0 35 0 200) 13 0 36 0 200) 14 0 37 0 200) 33 4 ((am_cp (am_cp (am_cp (am_cp g 11 0 34 0 200) 12 0 35 0 200) 13 0 36 0 200) 14 0 37 0 200) 10 4))) rfl ?_
  refine wp_cpy (a := 0) (b := 0) (c := 12) (src := 15) (dst := 38) rfl rfl rfl (by decide) rfl rfl rfl (by omega) (by omega) (by decide) (by decide) (by decide) ?_
  refine wp_n 9 (pc' := 113) (L' := [(2, 33), (2, 10)]) (st' := [(0, 120), (0, 0), (2, 39), (0, 0), (2, 16)]) (g' := (am_cp (am_up (am_cp (am_cp (am_cp (am_cp g 11 0 34 0 200) 12 0 35 0 200) 13 0 36 0 200) 14 0 37 0 200) 33 4 ((am_cp (am_cp (am_cp (am_cp g 11 0 34 0 200) 12 0 35 0 200) 13 0 36 0 200) 14 0 37 0 200) 10 4)) 15 0 38 0 12)) rfl ?_
  refine wp_cpy (a := 0) (b := 0) (c := 120) (src := 16) (dst := 39) rfl rfl rfl (by decide) rfl rfl rfl (by omega) (by omega) (by decide) (by decide) (by decide) ?_
  refine wp_n 9 (pc' := 131) (L' := [(2, 33), (2, 10)]) (st' := [(0, 4), (0, 0), (2, 40), (0, 0), (2, 17)]) (g' := (am_cp (am_cp (am_up (am_cp (am_cp (am_cp (am_cp g 11 0 34 0 200) 12 0 35 0 200) 13 0 36 0 200) 14 0 37 0 200) 33 4 ((am_cp (am_cp (am_cp (am_cp g 11 0 34 0 200) 12 0 35 0 200) 13 0 36 0 200) 14 0 37 0 200) 10 4)) 15 0 38 0 12) 16 0 39 0 120)) rfl ?_
  refine wp_cpy (a := 0) (b := 0) (c := 4) (src := 17) (dst := 40) rfl rfl rfl (by decide) rfl rfl rfl (by omega) (by omega) (by decide) (by decide) (by decide) ?_
  refine wp_n 9 (pc' := 149) (L' := [(2, 33), (2, 10)]) (st' := [(0, 60), (0, 0), (2, 41), (0, 0), (2, 18)]) (g' := (am_cp (am_cp (am_cp (am_up (am_cp (am_cp (am_cp (am_cp g 11 0 34 0 200) 12 0 35 0 200) 13 0 36 0 200) 14 0 37 0 200) 33 4 ((am_cp (am_cp (am_cp (am_cp g 11 0 34 0 200) 12 0 35 0 200) 13 0 36 0 200) 14 0 37 0 200) 10 4)) 15 0 38 0 12) 16 0 39 0 120) 17 0 40 0 4)) rfl ?_
  refine wp_cpy (a := 0) (b := 0) (c := 60) (src := 18) (dst := 41) rfl rfl rfl (by decide) rfl rfl rfl (by omega) (by omega) (by decide) (by decide) (by decide) ?_
  refine wp_n 9 (pc' := 167) (L' := [(2, 33), (2, 10)]) (st' := [(0, 60), (0, 0), (2, 42), (0, 0), (2, 19)]) (g' := (am_cp (am_cp (am_cp (am_cp (am_up (am_cp (am_cp (am_cp (am_cp g 11 0 34 0 200) 12 0 35 0 200) 13 0 36 0 200) 14 0 37 0 200) 33 4 ((am_cp (am_cp (am_cp (am_cp g 11 0 34 0 200) 12 0 35 0 200) 13 0 36 0 200) 14 0 37 0 200) 10 4)) 15 0 38 0 12) 16 0 39 0 120) 17 0 40 0 4) 18 0 41 0 60)) rfl ?_
  refine wp_cpy (a := 0) (b := 0) (c := 60) (src := 19) (dst := 42) rfl rfl rfl (by decide) rfl rfl rfl (by omega) (by omega) (by decide) (by decide) (by decide) ?_
  refine wp_n 9 (pc' := 185) (L' := [(2, 33), (2, 10)]) (st' := [(0, 60), (0, 0), (2, 43), (0, 0), (2, 20)]) (g' := (am_cp (am_cp (am_cp (am_cp (am_cp (am_up (am_cp (am_cp (am_cp (am_cp g 11 0 34 0 200) 12 0 35 0 200) 13 0 36 0 200) 14 0 37 0 200) 33 4 ((am_cp (am_cp (am_cp (am_cp g 11 0 34 0 200) 12 0 35 0 200) 13 0 36 0 200) 14 0 37 0 200) 10 4)) 15 0 38 0 12) 16 0 39 0 120) 17 0 40 0 4) 18 0 41 0 60) 19 0 42 0 60)) rfl ?_
  refine wp_cpy (a := 0) (b := 0) (c := 60) (src := 20) (dst := 43) rfl rfl rfl (by decide) rfl rfl rfl (by omega) (by omega) (by decide) (by decide) (by decide) ?_
  refine wp_n 13 (pc' := 211) (L' := [(2, 33), (2, 10)]) (st' := [(0, 20), (0, 0), (2, 44), (0, 0), (2, 21)]) (g' := (am_up (am_cp (am_cp (am_cp (am_cp (am_cp (am_cp (am_up (am_cp (am_cp (am_cp (am_cp g 11 0 34 0 200) 12 0 35 0 200) 13 0 36 0 200) 14 0 37 0 200) 33 4 ((am_cp (am_cp (am_cp (am_cp g 11 0 34 0 200) 12 0 35 0 200) 13 0 36 0 200) 14 0 37 0 200) 10 4)) 15 0 38 0 12) 16 0 39 0 120) 17 0 40 0 4) 18 0 41 0 60) 19 0 42 0 60) 20 0 43 0 60) 33 11 ((am_cp (am_cp (am_cp (am_cp (am_cp (am_cp (am_up (am_cp (am_cp (am_cp (am_cp g 11 0 34 0 200) 12 0 35 0 200) 13 0 36 0 200) 14 0 37 0 200) 33 4 ((am_cp (am_cp (am_cp (am_cp g 11 0 34 0 200) 12 0 35 0 200) 13 0 36 0 200) 14 0 37 0 200) 10 4)) 15 0 38 0 12) 16 0 39 0 120) 17 0 40 0 4) 18 0 41 0 60) 19 0 42 0 60) 20 0 43 0 60) 10 11))) rfl ?_
  refine wp_cpy (a := 0) (b := 0) (c := 20) (src := 21) (dst := 44) rfl rfl rfl (by decide) rfl rfl rfl (by omega) (by omega) (by decide) (by decide) (by decide) ?_
  refine wp_n 9 (pc' := 229) (L' := [(2, 33), (2, 10)]) (st' := [(0, 20), (0, 0), (2, 45), (0, 0), (2, 22)]) (g' := (am_cp (am_up (am_cp (am_cp (am_cp (am_cp (am_cp (am_cp (am_up (am_cp (am_cp (am_cp (am_cp g 11 0 34 0 200) 12 0 35 0 200) 13 0 36 0 200) 14 0 37 0 200) 33 4 ((am_cp (am_cp (am_cp (am_cp g 11 0 34 0 200) 12 0 35 0 200) 13 0 36 0 200) 14 0 37 0 200) 10 4)) 15 0 38 0 12) 16 0 39 0 120) 17 0 40 0 4) 18 0 41 0 60) 19 0 42 0 60) 20 0 43 0 60) 33 11 ((am_cp (am_cp (am_cp (am_cp (am_cp (am_cp (am_up (am_cp (am_cp (am_cp (am_cp g 11 0 34 0 200) 12 0 35 0 200) 13 0 36 0 200) 14 0 37 0 200) 33 4 ((am_cp (am_cp (am_cp (am_cp g 11 0 34 0 200) 12 0 35 0 200) 13 0 36 0 200) 14 0 37 0 200) 10 4)) 15 0 38 0 12) 16 0 39 0 120) 17 0 40 0 4) 18 0 41 0 60) 19 0 42 0 60) 20 0 43 0 60) 10 11)) 21 0 44 0 20)) rfl ?_
  refine wp_cpy (a := 0) (b := 0) (c := 20) (src := 22) (dst := 45) rfl rfl rfl (by decide) rfl rfl rfl (by omega) (by omega) (by decide) (by decide) (by decide) ?_
  refine wp_n 13 (pc' := 255) (L' := [(2, 33), (2, 10)]) (st' := [(0, 5), (0, 0), (2, 46), (0, 0), (2, 23)]) (g' := (am_up (am_cp (am_cp (am_up (am_cp (am_cp (am_cp (am_cp (am_cp (am_cp (am_up (am_cp (am_cp (am_cp (am_cp g 11 0 34 0 200) 12 0 35 0 200) 13 0 36 0 200) 14 0 37 0 200) 33 4 ((am_cp (am_cp (am_cp (am_cp g 11 0 34 0 200) 12 0 35 0 200) 13 0 36 0 200) 14 0 37 0 200) 10 4)) 15 0 38 0 12) 16 0 39 0 120) 17 0 40 0 4) 18 0 41 0 60) 19 0 42 0 60) 20 0 43 0 60) 33 11 ((am_cp (am_cp (am_cp (am_cp (am_cp (am_cp (am_up (am_cp (am_cp (am_cp (am_cp g 11 0 34 0 200) 12 0 35 0 200) 13 0 36 0 200) 14 0 37 0 200) 33 4 ((am_cp (am_cp (am_cp (am_cp g 11 0 34 0 200) 12 0 35 0 200) 13 0 36 0 200) 14 0 37 0 200) 10 4)) 15 0 38 0 12) 16 0 39 0 120) 17 0 40 0 4) 18 0 41 0 60) 19 0 42 0 60) 20 0 43 0 60) 10 11)) 21 0 44 0 20) 22 0 45 0 20) 33 14 ((am_cp (am_cp (am_up (am_cp (am_cp (am_cp (am_cp (am_cp (am_cp (am_up (am_cp (am_cp (am_cp (am_cp g 11 0 34 0 200) 12 0 35 0 200) 13 0 36 0 200) 14 0 37 0 200) 33 4 ((am_cp (am_cp (am_cp (am_cp g 11 0 34 0 200) 12 0 35 0 200) 13 0 36 0 200) 14 0 37 0 200) 10 4)) 15 0 38 0 12) 16 0 39 0 120) 17 0 40 0 4) 18 0 41 0 60) 19 0 42 0 60) 20 0 43 0 60) 33 11 ((am_cp (am_cp (am_cp (am_cp (am_cp (am_cp (am_up (am_cp (am_cp (am_cp (am_cp g 11 0 34 0 200) 12 0 35 0 200) 13 0 36 0 200) 14 0 37 0 200) 33 4 ((am_cp (am_cp (am_cp (am_cp g 11 0 34 0 200) 12 0 35 0 200) 13 0 36 0 200) 14 0 37 0 200) 10 4)) 15 0 38 0 12) 16 0 39 0 120) 17 0 40 0 4) 18 0 41 0 60) 19 0 42 0 60) 20 0 43 0 60) 10 11)) 21 0 44 0 20) 22 0 45 0 20) 10 14))) rfl ?_
  refine wp_cpy (a := 0) (b := 0) (c := 5) (src := 23) (dst := 46) rfl rfl rfl (by decide) rfl rfl rfl (by omega) (by omega) (by decide) (by decide) (by decide) ?_
  refine wp_n 4 (pc' := 266) (L' := [(2, 33), (2, 10)]) (st' := []) (g' := (am_up (am_cp (am_up (am_cp (am_cp (am_up (am_cp (am_cp (am_cp (am_cp (am_cp (am_cp (am_up (am_cp (am_cp (am_cp (am_cp g 11 0 34 0 200) 12 0 35 0 200) 13 0 36 0 200) 14 0 37 0 200) 33 4 ((am_cp (am_cp (am_cp (am_cp g 11 0 34 0 200) 12 0 35 0 200) 13 0 36 0 200) 14 0 37 0 200) 10 4)) 15 0 38 0 12) 16 0 39 0 120) 17 0 40 0 4) 18 0 41 0 60) 19 0 42 0 60) 20 0 43 0 60) 33 11 ((am_cp (am_cp (am_cp (am_cp (am_cp (am_cp (am_up (am_cp (am_cp (am_cp (am_cp g 11 0 34 0 200) 12 0 35 0 200) 13 0 36 0 200) 14 0 37 0 200) 33 4 ((am_cp (am_cp (am_cp (am_cp g 11 0 34 0 200) 12 0 35 0 200) 13 0 36 0 200) 14 0 37 0 200) 10 4)) 15 0 38 0 12) 16 0 39 0 120) 17 0 40 0 4) 18 0 41 0 60) 19 0 42 0 60) 20 0 43 0 60) 10 11)) 21 0 44 0 20) 22 0 45 0 20) 33 14 ((am_cp (am_cp (am_up (am_cp (am_cp (am_cp (am_cp (am_cp (am_cp (am_up (am_cp (am_cp (am_cp (am_cp g 11 0 34 0 200) 12 0 35 0 200) 13 0 36 0 200) 14 0 37 0 200) 33 4 ((am_cp (am_cp (am_cp (am_cp g 11 0 34 0 200) 12 0 35 0 200) 13 0 36 0 200) 14 0 37 0 200) 10 4)) 15 0 38 0 12) 16 0 39 0 120) 17 0 40 0 4) 18 0 41 0 60) 19 0 42 0 60) 20 0 43 0 60) 33 11 ((am_cp (am_cp (am_cp (am_cp (am_cp (am_cp (am_up (am_cp (am_cp (am_cp (am_cp g 11 0 34 0 200) 12 0 35 0 200) 13 0 36 0 200) 14 0 37 0 200) 33 4 ((am_cp (am_cp (am_cp (am_cp g 11 0 34 0 200) 12 0 35 0 200) 13 0 36 0 200) 14 0 37 0 200) 10 4)) 15 0 38 0 12) 16 0 39 0 120) 17 0 40 0 4) 18 0 41 0 60) 19 0 42 0 60) 20 0 43 0 60) 10 11)) 21 0 44 0 20) 22 0 45 0 20) 10 14)) 23 0 46 0 5) 33 16 ((am_cp (am_up (am_cp (am_cp (am_up (am_cp (am_cp (am_cp (am_cp (am_cp (am_cp (am_up (am_cp (am_cp (am_cp (am_cp g 11 0 34 0 200) 12 0 35 0 200) 13 0 36 0 200) 14 0 37 0 200) 33 4 ((am_cp (am_cp (am_cp (am_cp g 11 0 34 0 200) 12 0 35 0 200) 13 0 36 0 200) 14 0 37 0 200) 10 4)) 15 0 38 0 12) 16 0 39 0 120) 17 0 40 0 4) 18 0 41 0 60) 19 0 42 0 60) 20 0 43 0 60) 33 11 ((am_cp (am_cp (am_cp (am_cp (am_cp (am_cp (am_up (am_cp (am_cp (am_cp (am_cp g 11 0 34 0 200) 12 0 35 0 200) 13 0 36 0 200) 14 0 37 0 200) 33 4 ((am_cp (am_cp (am_cp (am_cp g 11 0 34 0 200) 12 0 35 0 200) 13 0 36 0 200) 14 0 37 0 200) 10 4)) 15 0 38 0 12) 16 0 39 0 120) 17 0 40 0 4) 18 0 41 0 60) 19 0 42 0 60) 20 0 43 0 60) 10 11)) 21 0 44 0 20) 22 0 45 0 20) 33 14 ((am_cp (am_cp (am_up (am_cp (am_cp (am_cp (am_cp (am_cp (am_cp (am_up (am_cp (am_cp (am_cp (am_cp g 11 0 34 0 200) 12 0 35 0 200) 13 0 36 0 200) 14 0 37 0 200) 33 4 ((am_cp (am_cp (am_cp (am_cp g 11 0 34 0 200) 12 0 35 0 200) 13 0 36 0 200) 14 0 37 0 200) 10 4)) 15 0 38 0 12) 16 0 39 0 120) 17 0 40 0 4) 18 0 41 0 60) 19 0 42 0 60) 20 0 43 0 60) 33 11 ((am_cp (am_cp (am_cp (am_cp (am_cp (am_cp (am_up (am_cp (am_cp (am_cp (am_cp g 11 0 34 0 200) 12 0 35 0 200) 13 0 36 0 200) 14 0 37 0 200) 33 4 ((am_cp (am_cp (am_cp (am_cp g 11 0 34 0 200) 12 0 35 0 200) 13 0 36 0 200) 14 0 37 0 200) 10 4)) 15 0 38 0 12) 16 0 39 0 120) 17 0 40 0 4) 18 0 41 0 60) 19 0 42 0 60) 20 0 43 0 60) 10 11)) 21 0 44 0 20) 22 0 45 0 20) 10 14)) 23 0 46 0 5) 10 16))) rfl ?_
  exact wp_ret rfl rfl rfl ⟨_, rfl, fun c j hc => by
    unfold RowB at hc
    rcases hc with ⟨rfl, hj⟩ | ⟨rfl, hj⟩ | ⟨rfl, hj⟩ | ⟨rfl, hj⟩ | ⟨rfl, hj⟩ | ⟨rfl, hj⟩ | ⟨rfl, hj⟩ | ⟨rfl, hj⟩ | ⟨rfl, hj⟩ | ⟨rfl, hj⟩ | ⟨rfl, hj⟩ | ⟨rfl, hj⟩ | ⟨rfl, hj⟩ | ⟨rfl, hj⟩ | ⟨rfl, hj⟩ | ⟨rfl, hj⟩ | ⟨rfl, hj⟩ <;> (first | subst hj | skip) <;> (repeat first | rw [cp_in0 (by omega)] | rw [cp_ne (by omega)] | rw [up_eq] | rw [up_no (by omega)]), fun c j hc => by
    (repeat first | rw [cp_ne (by omega)] | rw [up_no (by omega)])⟩
set_option maxHeartbeats 400000 in
set_option maxRecDepth 20000 in
theorem e_takeB2 {sn : Nat} {sx : Nat → Int} {b : Nat} {g : am_G}  : Ev sn sx 1 18 [(2, 10), (2, 33)] (SH b) g (fun r => ∃ g', r = (none, SH b, g') ∧ (∀ c j, RowB c j → g' c j = g (c + 23) j) ∧ (∀ c j, (c < 10 ∨ 23 < c) → g' c j = g c j)) := by
  refine ev_of (K := 0) T18 (by decide) rfl rfl (Nat.le_of_ble_eq_true rfl) ?_
  refine wp_eq (L' := [(2, 10), (2, 33)]) (st' := []) (g' := g) ?_
  refine wp_n 9 (pc' := 15) (L' := [(2, 10), (2, 33)]) (st' := [(0, 200), (0, 0), (2, 11), (0, 0), (2, 34)]) (g' := g) rfl ?_
  refine wp_cpy (a := 0) (b := 0) (c := 200) (src := 34) (dst := 11) rfl rfl rfl (by decide) rfl rfl rfl (by omega) (by omega) (by decide) (by decide) (by decide) ?_
  refine wp_n 9 (pc' := 33) (L' := [(2, 10), (2, 33)]) (st' := [(0, 200), (0, 0), (2, 12), (0, 0), (2, 35)]) (g' := (am_cp g 34 0 11 0 200)) rfl ?_
  refine wp_cpy (a := 0) (b := 0) (c := 200) (src := 35) (dst := 12) rfl rfl rfl (by decide) rfl rfl rfl (by omega) (by omega) (by decide) (by decide) (by decide) ?_
  refine wp_n 9 (pc' := 51) (L' := [(2, 10), (2, 33)]) (st' := [(0, 200), (0, 0), (2, 13), (0, 0), (2, 36)]) (g' := (am_cp (am_cp g 34 0 11 0 200) 35 0 12 0 200)) rfl ?_
  refine wp_cpy (a := 0) (b := 0) (c := 200) (src := 36) (dst := 13) rfl rfl rfl (by decide) rfl rfl rfl (by omega) (by omega) (by decide) (by decide) (by decide) ?_
  refine wp_n 9 (pc' := 69) (L' := [(2, 10), (2, 33)]) (st' := [(0, 200), (0, 0), (2, 14), (0, 0), (2, 37)]) (g' := (am_cp (am_cp (am_cp g 34 0 11 0 200) 35 0 12 0 200) 36 0 13 0 200)) rfl ?_
  refine wp_cpy (a := 0) (b := 0) (c := 200) (src := 37) (dst := 14) rfl rfl rfl (by decide) rfl rfl rfl (by omega) (by omega) (by decide) (by decide) (by decide) ?_
  refine wp_n 13 (pc' := 95) (L' := [(2, 10), (2, 33)]) (st' := [(0, 12), (0, 0), (2, 15), (0, 0), (2, 38)]) (g' := (am_up (am_cp (am_cp (am_cp (am_cp g 34 0 11 0 200) 35 0 12 0 200) 36 0 13 0 200) 37 0 14 0 200) 10 4 ((am_cp (am_cp (am_cp (am_cp g 34 0 11 0 200) 35 0 12 0 200) 36 0 13 0 200) 37 0 14 0 200) 33 4))) rfl ?_
  refine wp_cpy (a := 0) (b := 0) (c := 12) (src := 38) (dst := 15) rfl rfl rfl (by decide) rfl rfl rfl (by omega) (by omega) (by decide) (by decide) (by decide) ?_
  refine wp_n 9 (pc' := 113) (L' := [(2, 10), (2, 33)]) (st' := [(0, 120), (0, 0), (2, 16), (0, 0), (2, 39)]) (g' := (am_cp (am_up (am_cp (am_cp (am_cp (am_cp g 34 0 11 0 200) 35 0 12 0 200) 36 0 13 0 200) 37 0 14 0 200) 10 4 ((am_cp (am_cp (am_cp (am_cp g 34 0 11 0 200) 35 0 12 0 200) 36 0 13 0 200) 37 0 14 0 200) 33 4)) 38 0 15 0 12)) rfl ?_
  refine wp_cpy (a := 0) (b := 0) (c := 120) (src := 39) (dst := 16) rfl rfl rfl (by decide) rfl rfl rfl (by omega) (by omega) (by decide) (by decide) (by decide) ?_
  refine wp_n 9 (pc' := 131) (L' := [(2, 10), (2, 33)]) (st' := [(0, 4), (0, 0), (2, 17), (0, 0), (2, 40)]) (g' := (am_cp (am_cp (am_up (am_cp (am_cp (am_cp (am_cp g 34 0 11 0 200) 35 0 12 0 200) 36 0 13 0 200) 37 0 14 0 200) 10 4 ((am_cp (am_cp (am_cp (am_cp g 34 0 11 0 200) 35 0 12 0 200) 36 0 13 0 200) 37 0 14 0 200) 33 4)) 38 0 15 0 12) 39 0 16 0 120)) rfl ?_
  refine wp_cpy (a := 0) (b := 0) (c := 4) (src := 40) (dst := 17) rfl rfl rfl (by decide) rfl rfl rfl (by omega) (by omega) (by decide) (by decide) (by decide) ?_
  refine wp_n 9 (pc' := 149) (L' := [(2, 10), (2, 33)]) (st' := [(0, 60), (0, 0), (2, 18), (0, 0), (2, 41)]) (g' := (am_cp (am_cp (am_cp (am_up (am_cp (am_cp (am_cp (am_cp g 34 0 11 0 200) 35 0 12 0 200) 36 0 13 0 200) 37 0 14 0 200) 10 4 ((am_cp (am_cp (am_cp (am_cp g 34 0 11 0 200) 35 0 12 0 200) 36 0 13 0 200) 37 0 14 0 200) 33 4)) 38 0 15 0 12) 39 0 16 0 120) 40 0 17 0 4)) rfl ?_
  refine wp_cpy (a := 0) (b := 0) (c := 60) (src := 41) (dst := 18) rfl rfl rfl (by decide) rfl rfl rfl (by omega) (by omega) (by decide) (by decide) (by decide) ?_
  refine wp_n 9 (pc' := 167) (L' := [(2, 10), (2, 33)]) (st' := [(0, 60), (0, 0), (2, 19), (0, 0), (2, 42)]) (g' := (am_cp (am_cp (am_cp (am_cp (am_up (am_cp (am_cp (am_cp (am_cp g 34 0 11 0 200) 35 0 12 0 200) 36 0 13 0 200) 37 0 14 0 200) 10 4 ((am_cp (am_cp (am_cp (am_cp g 34 0 11 0 200) 35 0 12 0 200) 36 0 13 0 200) 37 0 14 0 200) 33 4)) 38 0 15 0 12) 39 0 16 0 120) 40 0 17 0 4) 41 0 18 0 60)) rfl ?_
  refine wp_cpy (a := 0) (b := 0) (c := 60) (src := 42) (dst := 19) rfl rfl rfl (by decide) rfl rfl rfl (by omega) (by omega) (by decide) (by decide) (by decide) ?_
  refine wp_n 9 (pc' := 185) (L' := [(2, 10), (2, 33)]) (st' := [(0, 60), (0, 0), (2, 20), (0, 0), (2, 43)]) (g' := (am_cp (am_cp (am_cp (am_cp (am_cp (am_up (am_cp (am_cp (am_cp (am_cp g 34 0 11 0 200) 35 0 12 0 200) 36 0 13 0 200) 37 0 14 0 200) 10 4 ((am_cp (am_cp (am_cp (am_cp g 34 0 11 0 200) 35 0 12 0 200) 36 0 13 0 200) 37 0 14 0 200) 33 4)) 38 0 15 0 12) 39 0 16 0 120) 40 0 17 0 4) 41 0 18 0 60) 42 0 19 0 60)) rfl ?_
  refine wp_cpy (a := 0) (b := 0) (c := 60) (src := 43) (dst := 20) rfl rfl rfl (by decide) rfl rfl rfl (by omega) (by omega) (by decide) (by decide) (by decide) ?_
  refine wp_n 13 (pc' := 211) (L' := [(2, 10), (2, 33)]) (st' := [(0, 20), (0, 0), (2, 21), (0, 0), (2, 44)]) (g' := (am_up (am_cp (am_cp (am_cp (am_cp (am_cp (am_cp (am_up (am_cp (am_cp (am_cp (am_cp g 34 0 11 0 200) 35 0 12 0 200) 36 0 13 0 200) 37 0 14 0 200) 10 4 ((am_cp (am_cp (am_cp (am_cp g 34 0 11 0 200) 35 0 12 0 200) 36 0 13 0 200) 37 0 14 0 200) 33 4)) 38 0 15 0 12) 39 0 16 0 120) 40 0 17 0 4) 41 0 18 0 60) 42 0 19 0 60) 43 0 20 0 60) 10 11 ((am_cp (am_cp (am_cp (am_cp (am_cp (am_cp (am_up (am_cp (am_cp (am_cp (am_cp g 34 0 11 0 200) 35 0 12 0 200) 36 0 13 0 200) 37 0 14 0 200) 10 4 ((am_cp (am_cp (am_cp (am_cp g 34 0 11 0 200) 35 0 12 0 200) 36 0 13 0 200) 37 0 14 0 200) 33 4)) 38 0 15 0 12) 39 0 16 0 120) 40 0 17 0 4) 41 0 18 0 60) 42 0 19 0 60) 43 0 20 0 60) 33 11))) rfl ?_
  refine wp_cpy (a := 0) (b := 0) (c := 20) (src := 44) (dst := 21) rfl rfl rfl (by decide) rfl rfl rfl (by omega) (by omega) (by decide) (by decide) (by decide) ?_
  refine wp_n 9 (pc' := 229) (L' := [(2, 10), (2, 33)]) (st' := [(0, 20), (0, 0), (2, 22), (0, 0), (2, 45)]) (g' := (am_cp (am_up (am_cp (am_cp (am_cp (am_cp (am_cp (am_cp (am_up (am_cp (am_cp (am_cp (am_cp g 34 0 11 0 200) 35 0 12 0 200) 36 0 13 0 200) 37 0 14 0 200) 10 4 ((am_cp (am_cp (am_cp (am_cp g 34 0 11 0 200) 35 0 12 0 200) 36 0 13 0 200) 37 0 14 0 200) 33 4)) 38 0 15 0 12) 39 0 16 0 120) 40 0 17 0 4) 41 0 18 0 60) 42 0 19 0 60) 43 0 20 0 60) 10 11 ((am_cp (am_cp (am_cp (am_cp (am_cp (am_cp (am_up (am_cp (am_cp (am_cp (am_cp g 34 0 11 0 200) 35 0 12 0 200) 36 0 13 0 200) 37 0 14 0 200) 10 4 ((am_cp (am_cp (am_cp (am_cp g 34 0 11 0 200) 35 0 12 0 200) 36 0 13 0 200) 37 0 14 0 200) 33 4)) 38 0 15 0 12) 39 0 16 0 120) 40 0 17 0 4) 41 0 18 0 60) 42 0 19 0 60) 43 0 20 0 60) 33 11)) 44 0 21 0 20)) rfl ?_
  refine wp_cpy (a := 0) (b := 0) (c := 20) (src := 45) (dst := 22) rfl rfl rfl (by decide) rfl rfl rfl (by omega) (by omega) (by decide) (by decide) (by decide) ?_
  refine wp_n 13 (pc' := 255) (L' := [(2, 10), (2, 33)]) (st' := [(0, 5), (0, 0), (2, 23), (0, 0), (2, 46)]) (g' := (am_up (am_cp (am_cp (am_up (am_cp (am_cp (am_cp (am_cp (am_cp (am_cp (am_up (am_cp (am_cp (am_cp (am_cp g 34 0 11 0 200) 35 0 12 0 200) 36 0 13 0 200) 37 0 14 0 200) 10 4 ((am_cp (am_cp (am_cp (am_cp g 34 0 11 0 200) 35 0 12 0 200) 36 0 13 0 200) 37 0 14 0 200) 33 4)) 38 0 15 0 12) 39 0 16 0 120) 40 0 17 0 4) 41 0 18 0 60) 42 0 19 0 60) 43 0 20 0 60) 10 11 ((am_cp (am_cp (am_cp (am_cp (am_cp (am_cp (am_up (am_cp (am_cp (am_cp (am_cp g 34 0 11 0 200) 35 0 12 0 200) 36 0 13 0 200) 37 0 14 0 200) 10 4 ((am_cp (am_cp (am_cp (am_cp g 34 0 11 0 200) 35 0 12 0 200) 36 0 13 0 200) 37 0 14 0 200) 33 4)) 38 0 15 0 12) 39 0 16 0 120) 40 0 17 0 4) 41 0 18 0 60) 42 0 19 0 60) 43 0 20 0 60) 33 11)) 44 0 21 0 20) 45 0 22 0 20) 10 14 ((am_cp (am_cp (am_up (am_cp (am_cp (am_cp (am_cp (am_cp (am_cp (am_up (am_cp (am_cp (am_cp (am_cp g 34 0 11 0 200) 35 0 12 0 200) 36 0 13 0 200) 37 0 14 0 200) 10 4 ((am_cp (am_cp (am_cp (am_cp g 34 0 11 0 200) 35 0 12 0 200) 36 0 13 0 200) 37 0 14 0 200) 33 4)) 38 0 15 0 12) 39 0 16 0 120) 40 0 17 0 4) 41 0 18 0 60) 42 0 19 0 60) 43 0 20 0 60) 10 11 ((am_cp (am_cp (am_cp (am_cp (am_cp (am_cp (am_up (am_cp (am_cp (am_cp (am_cp g 34 0 11 0 200) 35 0 12 0 200) 36 0 13 0 200) 37 0 14 0 200) 10 4 ((am_cp (am_cp (am_cp (am_cp g 34 0 11 0 200) 35 0 12 0 200) 36 0 13 0 200) 37 0 14 0 200) 33 4)) 38 0 15 0 12) 39 0 16 0 120) 40 0 17 0 4) 41 0 18 0 60) 42 0 19 0 60) 43 0 20 0 60) 33 11)) 44 0 21 0 20) 45 0 22 0 20) 33 14))) rfl ?_
  refine wp_cpy (a := 0) (b := 0) (c := 5) (src := 46) (dst := 23) rfl rfl rfl (by decide) rfl rfl rfl (by omega) (by omega) (by decide) (by decide) (by decide) ?_
  refine wp_n 4 (pc' := 266) (L' := [(2, 10), (2, 33)]) (st' := []) (g' := (am_up (am_cp (am_up (am_cp (am_cp (am_up (am_cp (am_cp (am_cp (am_cp (am_cp (am_cp (am_up (am_cp (am_cp (am_cp (am_cp g 34 0 11 0 200) 35 0 12 0 200) 36 0 13 0 200) 37 0 14 0 200) 10 4 ((am_cp (am_cp (am_cp (am_cp g 34 0 11 0 200) 35 0 12 0 200) 36 0 13 0 200) 37 0 14 0 200) 33 4)) 38 0 15 0 12) 39 0 16 0 120) 40 0 17 0 4) 41 0 18 0 60) 42 0 19 0 60) 43 0 20 0 60) 10 11 ((am_cp (am_cp (am_cp (am_cp (am_cp (am_cp (am_up (am_cp (am_cp (am_cp (am_cp g 34 0 11 0 200) 35 0 12 0 200) 36 0 13 0 200) 37 0 14 0 200) 10 4 ((am_cp (am_cp (am_cp (am_cp g 34 0 11 0 200) 35 0 12 0 200) 36 0 13 0 200) 37 0 14 0 200) 33 4)) 38 0 15 0 12) 39 0 16 0 120) 40 0 17 0 4) 41 0 18 0 60) 42 0 19 0 60) 43 0 20 0 60) 33 11)) 44 0 21 0 20) 45 0 22 0 20) 10 14 ((am_cp (am_cp (am_up (am_cp (am_cp (am_cp (am_cp (am_cp (am_cp (am_up (am_cp (am_cp (am_cp (am_cp g 34 0 11 0 200) 35 0 12 0 200) 36 0 13 0 200) 37 0 14 0 200) 10 4 ((am_cp (am_cp (am_cp (am_cp g 34 0 11 0 200) 35 0 12 0 200) 36 0 13 0 200) 37 0 14 0 200) 33 4)) 38 0 15 0 12) 39 0 16 0 120) 40 0 17 0 4) 41 0 18 0 60) 42 0 19 0 60) 43 0 20 0 60) 10 11 ((am_cp (am_cp (am_cp (am_cp (am_cp (am_cp (am_up (am_cp (am_cp (am_cp (am_cp g 34 0 11 0 200) 35 0 12 0 200) 36 0 13 0 200) 37 0 14 0 200) 10 4 ((am_cp (am_cp (am_cp (am_cp g 34 0 11 0 200) 35 0 12 0 200) 36 0 13 0 200) 37 0 14 0 200) 33 4)) 38 0 15 0 12) 39 0 16 0 120) 40 0 17 0 4) 41 0 18 0 60) 42 0 19 0 60) 43 0 20 0 60) 33 11)) 44 0 21 0 20) 45 0 22 0 20) 33 14)) 46 0 23 0 5) 10 16 ((am_cp (am_up (am_cp (am_cp (am_up (am_cp (am_cp (am_cp (am_cp (am_cp (am_cp (am_up (am_cp (am_cp (am_cp (am_cp g 34 0 11 0 200) 35 0 12 0 200) 36 0 13 0 200) 37 0 14 0 200) 10 4 ((am_cp (am_cp (am_cp (am_cp g 34 0 11 0 200) 35 0 12 0 200) 36 0 13 0 200) 37 0 14 0 200) 33 4)) 38 0 15 0 12) 39 0 16 0 120) 40 0 17 0 4) 41 0 18 0 60) 42 0 19 0 60) 43 0 20 0 60) 10 11 ((am_cp (am_cp (am_cp (am_cp (am_cp (am_cp (am_up (am_cp (am_cp (am_cp (am_cp g 34 0 11 0 200) 35 0 12 0 200) 36 0 13 0 200) 37 0 14 0 200) 10 4 ((am_cp (am_cp (am_cp (am_cp g 34 0 11 0 200) 35 0 12 0 200) 36 0 13 0 200) 37 0 14 0 200) 33 4)) 38 0 15 0 12) 39 0 16 0 120) 40 0 17 0 4) 41 0 18 0 60) 42 0 19 0 60) 43 0 20 0 60) 33 11)) 44 0 21 0 20) 45 0 22 0 20) 10 14 ((am_cp (am_cp (am_up (am_cp (am_cp (am_cp (am_cp (am_cp (am_cp (am_up (am_cp (am_cp (am_cp (am_cp g 34 0 11 0 200) 35 0 12 0 200) 36 0 13 0 200) 37 0 14 0 200) 10 4 ((am_cp (am_cp (am_cp (am_cp g 34 0 11 0 200) 35 0 12 0 200) 36 0 13 0 200) 37 0 14 0 200) 33 4)) 38 0 15 0 12) 39 0 16 0 120) 40 0 17 0 4) 41 0 18 0 60) 42 0 19 0 60) 43 0 20 0 60) 10 11 ((am_cp (am_cp (am_cp (am_cp (am_cp (am_cp (am_up (am_cp (am_cp (am_cp (am_cp g 34 0 11 0 200) 35 0 12 0 200) 36 0 13 0 200) 37 0 14 0 200) 10 4 ((am_cp (am_cp (am_cp (am_cp g 34 0 11 0 200) 35 0 12 0 200) 36 0 13 0 200) 37 0 14 0 200) 33 4)) 38 0 15 0 12) 39 0 16 0 120) 40 0 17 0 4) 41 0 18 0 60) 42 0 19 0 60) 43 0 20 0 60) 33 11)) 44 0 21 0 20) 45 0 22 0 20) 33 14)) 46 0 23 0 5) 33 16))) rfl ?_
  exact wp_ret rfl rfl rfl ⟨_, rfl, fun c j hc => by
    unfold RowB at hc
    rcases hc with ⟨rfl, hj⟩ | ⟨rfl, hj⟩ | ⟨rfl, hj⟩ | ⟨rfl, hj⟩ | ⟨rfl, hj⟩ | ⟨rfl, hj⟩ | ⟨rfl, hj⟩ | ⟨rfl, hj⟩ | ⟨rfl, hj⟩ | ⟨rfl, hj⟩ | ⟨rfl, hj⟩ | ⟨rfl, hj⟩ | ⟨rfl, hj⟩ | ⟨rfl, hj⟩ | ⟨rfl, hj⟩ | ⟨rfl, hj⟩ | ⟨rfl, hj⟩ <;> (first | subst hj | skip) <;> (repeat first | rw [cp_in0 (by omega)] | rw [cp_ne (by omega)] | rw [up_eq] | rw [up_no (by omega)]), fun c j hc => by
    (repeat first | rw [cp_ne (by omega)] | rw [up_no (by omega)])⟩
set_option maxHeartbeats 400000 in
set_option maxRecDepth 20000 in
theorem e_image {sn : Nat} {sx : Nat → Int} {b : Nat} {g : am_G}  : Ev sn sx 2 128 [(2, 0)] (SH b) g (fun r => ∃ g', r = (some (0, g 10 4), SH b, g') ∧ (∀ c j, Row c j → g' (c + 23) j = g c j) ∧ (∀ c j, (c < 25 ∨ 46 < c) → g' c j = g c j)) := by
  refine ev_of (K := 1) T128 (by decide) rfl rfl (Nat.le_of_ble_eq_true rfl) ?_
  refine wp_eq (L' := [(2, 0)]) (st' := []) (g' := g) ?_
  refine wp_n 4 (pc' := 8) (L' := [(2, 0)]) (st' := [(2, 1), (2, 24)]) (g' := g) rfl ?_
  refine wp_cv (as := [(2, 24), (2, 1)]) (rest := []) rfl rfl rfl (Nat.le_of_ble_eq_true rfl) rfl (e_takeW1) (by decide) (fun r1 h2 => ?_)
  obtain ⟨g8, rfl, hA8, hB8⟩ := h2
  refine wp_eq (L' := [(2, 0)]) (st' := []) (g' := g8) ?_
  refine wp_n 4 (pc' := 19) (L' := [(2, 0)]) (st' := [(2, 6), (2, 29)]) (g' := g8) rfl ?_
  refine wp_cv (as := [(2, 29), (2, 6)]) (rest := []) rfl rfl rfl (Nat.le_of_ble_eq_true rfl) rfl (e_takeT1) (by decide) (fun r3 h4 => ?_)
  obtain ⟨g19, rfl, hA19, hB19⟩ := h4
  refine wp_eq (L' := [(2, 0)]) (st' := []) (g' := g19) ?_
  refine wp_n 4 (pc' := 30) (L' := [(2, 0)]) (st' := [(2, 10), (2, 33)]) (g' := g19) rfl ?_
  refine wp_cv (as := [(2, 33), (2, 10)]) (rest := []) rfl rfl rfl (Nat.le_of_ble_eq_true rfl) rfl (e_takeB1) (by decide) (fun r5 h6 => ?_)
  obtain ⟨g30, rfl, hA30, hB30⟩ := h6
  refine wp_eq (L' := [(2, 0)]) (st' := []) (g' := g30) ?_
  refine wp_n 3 (pc' := 40) (L' := [(2, 0)]) (st' := [(0, (g30 10 4))]) (g' := g30) rfl ?_
  exact wp_ret rfl rfl rfl ⟨_, by rw [hB30 10 4 (by omega), hB19 10 4 (by omega), hB8 10 4 (by omega)], fun c j hc => by
    rcases hc with hc | hc | hc
    · have hq := hc
      unfold RowW at hq
      rw [hB30 _ _ (by omega), hB19 _ _ (by omega), hA8 _ _ hc]
    · have hq := hc
      unfold RowT at hq
      rw [hB30 _ _ (by omega), hA19 _ _ hc, hB8 _ _ (by omega)]
    · have hq := hc
      unfold RowB at hq
      rw [hA30 _ _ hc, hB19 _ _ (by omega), hB8 _ _ (by omega)], fun c j hc => by rw [hB30 _ _ (by omega), hB19 _ _ (by omega), hB8 _ _ (by omega)]⟩
set_option maxHeartbeats 400000 in
set_option maxRecDepth 20000 in
theorem e_back {sn : Nat} {sx : Nat → Int} {b : Nat} {g : am_G}  : Ev sn sx 2 129 [(2, 0)] (SH b) g (fun r => ∃ g', r = (some (0, g 33 4), SH b, g') ∧ (∀ c j, Row c j → g' c j = g (c + 23) j) ∧ g' 56 2 = 0 ∧ g' 120 12 = 0 ∧ (∀ c j, (c < 2 ∨ 23 < c) → ¬ (c = 56 ∧ j = 2) → ¬ (c = 120 ∧ j = 12) → g' c j = g c j)) := by
  refine ev_of (K := 1) T129 (by decide) rfl rfl (Nat.le_of_ble_eq_true rfl) ?_
  refine wp_eq (L' := [(2, 0)]) (st' := []) (g' := g) ?_
  refine wp_n 4 (pc' := 8) (L' := [(2, 0)]) (st' := [(2, 24), (2, 1)]) (g' := g) rfl ?_
  refine wp_cv (as := [(2, 1), (2, 24)]) (rest := []) rfl rfl rfl (Nat.le_of_ble_eq_true rfl) rfl (e_takeW2) (by decide) (fun r1 h2 => ?_)
  obtain ⟨g8, rfl, hA8, hB8⟩ := h2
  refine wp_eq (L' := [(2, 0)]) (st' := []) (g' := g8) ?_
  refine wp_n 4 (pc' := 19) (L' := [(2, 0)]) (st' := [(2, 29), (2, 6)]) (g' := g8) rfl ?_
  refine wp_cv (as := [(2, 6), (2, 29)]) (rest := []) rfl rfl rfl (Nat.le_of_ble_eq_true rfl) rfl (e_takeT2) (by decide) (fun r3 h4 => ?_)
  obtain ⟨g19, rfl, hA19, hB19⟩ := h4
  refine wp_eq (L' := [(2, 0)]) (st' := []) (g' := g19) ?_
  refine wp_n 4 (pc' := 30) (L' := [(2, 0)]) (st' := [(2, 33), (2, 10)]) (g' := g19) rfl ?_
  refine wp_cv (as := [(2, 10), (2, 33)]) (rest := []) rfl rfl rfl (Nat.le_of_ble_eq_true rfl) rfl (e_takeB2) (by decide) (fun r5 h6 => ?_)
  obtain ⟨g30, rfl, hA30, hB30⟩ := h6
  refine wp_eq (L' := [(2, 0)]) (st' := []) (g' := g30) ?_
  refine wp_n 2 (pc' := 37) (L' := [(2, 0)]) (st' := [(2, 56)]) (g' := g30) rfl ?_
  refine wp_cv (as := [(2, 56)]) (rest := []) rfl rfl rfl (Nat.le_of_ble_eq_true rfl) rfl (e_forget) (by decide) (fun r7 h8 => ?_)
  obtain rfl := h8
  refine wp_eq (L' := [(2, 0)]) (st' := []) (g' := (am_up g30 56 2 0)) ?_
  refine wp_n 7 (pc' := 55) (L' := [(2, 0)]) (st' := [(0, (g30 10 4))]) (g' := (am_up (am_up g30 56 2 0) 120 12 0)) rfl ?_
  exact wp_ret rfl rfl rfl ⟨_, by rw [hA30 10 4 (Or.inl ⟨rfl, rfl⟩), hB19 _ _ (by omega), hB8 _ _ (by omega)], fun c j hc => by
    rcases hc with hc | hc | hc
    · have hq := hc
      unfold RowW at hq
      rw [up_no (by omega), up_no (by omega), hB30 _ _ (by omega), hB19 _ _ (by omega), hA8 _ _ hc]
    · have hq := hc
      unfold RowT at hq
      rw [up_no (by omega), up_no (by omega), hB30 _ _ (by omega), hA19 _ _ hc, hB8 _ _ (by omega)]
    · have hq := hc
      unfold RowB at hq
      rw [up_no (by omega), up_no (by omega), hA30 _ _ hc, hB19 _ _ (by omega), hB8 _ _ (by omega)], by rw [up_no (by omega), up_eq], up_eq, fun c j hc h1 h2 => by rw [up_no (by omega), up_no (by omega), hB30 _ _ (by omega), hB19 _ _ (by omega), hB8 _ _ (by omega)]⟩
set_option maxHeartbeats 400000 in
set_option maxRecDepth 20000 in
theorem m_copy1 {sn : Nat} {sx : Nat → Int} {b : Nat} {g : am_G}  : Ev sn sx 1 150 [(2, 128), (2, 129)] (SH b) g (fun r => ∃ g', r = (none, SH b, g') ∧ (∀ j, j < 1620 → g' 129 j = g 128 j) ∧ (∀ c j, c ≠ 129 → g' c j = g c j)) := by
  refine ev_of (K := 0) T150 (by decide) rfl rfl (Nat.le_of_ble_eq_true rfl) ?_
  refine wp_eq (L' := [(2, 128), (2, 129), (9, 0)]) (st' := []) (g' := g) ?_
  refine wp_n 2 (pc' := 2) (L' := [(2, 128), (2, 129), (0, 0)]) (st' := []) (g' := g) rfl ?_
  have L2 : ∀ (lf : Nat) (i : Nat) (h : am_G), 1620 - i < lf → (i ≤ 1620) → (∀ j, j < i → h 129 j = g 128 j) → (∀ c j, c ≠ 129 → h c j = g c j) → Wp sn sx 0 T150 2 [(2, 128), (2, 129), (0, ((i : Nat) : Int))] [] (SH b) h (fun r => ∃ g', r = (none, SH b, g') ∧ (∀ j, j < 1620 → g' 129 j = g 128 j) ∧ (∀ c j, c ≠ 129 → g' c j = g c j)) := by
    intro lf
    induction lf with
    | zero => intro i h hlf; exact absurd hlf (Nat.not_lt_zero _)
    | succ lf ih2 =>
      intro i h hlf hi hH hF
      refine wp_n 2 (pc' := 6) (L' := [(2, 128), (2, 129), (0, ((i : Nat) : Int))]) (st' := [(0, 1620), (0, ((i : Nat) : Int))]) (g' := h) rfl ?_
      refine wp_ic_ge rfl (fun c1 => ?_) (fun c1 => ?_)
      · exact wp_ret rfl rfl rfl ⟨_, rfl, fun j hj => hH j (by omega), hF⟩
      · refine wp_n 4 (pc' := 13) (L' := [(2, 128), (2, 129), (0, ((i : Nat) : Int))]) (st' := [(0, ((i : Nat) : Int)), (2, 128), (0, ((i : Nat) : Int)), (2, 129)]) (g' := h) rfl ?_
        refine wp_iald (k := 128) (i) rfl rfl (by omega) (by omega) (by decide) ?_
        refine wp_iast (k := 129) (i) rfl rfl (by omega) (by omega) (by decide) ?_
        refine wp_n 2 (pc' := 2) (L' := [(2, 128), (2, 129), (0, (((i : Nat) : Int) + 1))]) (st' := []) (g' := (am_up h 129 i (h 128 i))) rfl ?_
        refine wp_eq (ih2 (i + 1) ((am_up h 129 i (h 128 i))) ?_ ?_ ?_ ?_) (by first | rfl | (simp; done) | (simp; omega)) (by rfl) (by rfl)
        · omega
        · omega
        · intro j hj
          by_cases e : j = i
          · subst e; rw [up_eq, hF 128 _ (by decide)]
          · rw [up_nj e]; exact hH j (by omega)
        · exact fun c j hc => by rw [up_ne hc]; exact hF c j hc
  refine wp_eq (L2 (_ + 1) (0) (g) (Nat.lt_succ_self _) ?_ ?_ ?_) (by first | rfl | (simp; done) | (simp; omega)) (by rfl) (by rfl)
  · exact Nat.zero_le _
  · exact fun j hj => absurd hj (Nat.not_lt_zero _)
  · exact fun _ _ _ => rfl
set_option maxHeartbeats 400000 in
set_option maxRecDepth 20000 in
theorem m_copy2 {sn : Nat} {sx : Nat → Int} {b : Nat} {g : am_G}  : Ev sn sx 1 150 [(2, 129), (2, 128)] (SH b) g (fun r => ∃ g', r = (none, SH b, g') ∧ (∀ j, j < 1620 → g' 128 j = g 129 j) ∧ (∀ c j, c ≠ 128 → g' c j = g c j)) := by
  refine ev_of (K := 0) T150 (by decide) rfl rfl (Nat.le_of_ble_eq_true rfl) ?_
  refine wp_eq (L' := [(2, 129), (2, 128), (9, 0)]) (st' := []) (g' := g) ?_
  refine wp_n 2 (pc' := 2) (L' := [(2, 129), (2, 128), (0, 0)]) (st' := []) (g' := g) rfl ?_
  have L2 : ∀ (lf : Nat) (i : Nat) (h : am_G), 1620 - i < lf → (i ≤ 1620) → (∀ j, j < i → h 128 j = g 129 j) → (∀ c j, c ≠ 128 → h c j = g c j) → Wp sn sx 0 T150 2 [(2, 129), (2, 128), (0, ((i : Nat) : Int))] [] (SH b) h (fun r => ∃ g', r = (none, SH b, g') ∧ (∀ j, j < 1620 → g' 128 j = g 129 j) ∧ (∀ c j, c ≠ 128 → g' c j = g c j)) := by
    intro lf
    induction lf with
    | zero => intro i h hlf; exact absurd hlf (Nat.not_lt_zero _)
    | succ lf ih2 =>
      intro i h hlf hi hH hF
      refine wp_n 2 (pc' := 6) (L' := [(2, 129), (2, 128), (0, ((i : Nat) : Int))]) (st' := [(0, 1620), (0, ((i : Nat) : Int))]) (g' := h) rfl ?_
      refine wp_ic_ge rfl (fun c1 => ?_) (fun c1 => ?_)
      · exact wp_ret rfl rfl rfl ⟨_, rfl, fun j hj => hH j (by omega), hF⟩
      · refine wp_n 4 (pc' := 13) (L' := [(2, 129), (2, 128), (0, ((i : Nat) : Int))]) (st' := [(0, ((i : Nat) : Int)), (2, 129), (0, ((i : Nat) : Int)), (2, 128)]) (g' := h) rfl ?_
        refine wp_iald (k := 129) (i) rfl rfl (by omega) (by omega) (by decide) ?_
        refine wp_iast (k := 128) (i) rfl rfl (by omega) (by omega) (by decide) ?_
        refine wp_n 2 (pc' := 2) (L' := [(2, 129), (2, 128), (0, (((i : Nat) : Int) + 1))]) (st' := []) (g' := (am_up h 128 i (h 129 i))) rfl ?_
        refine wp_eq (ih2 (i + 1) ((am_up h 128 i (h 129 i))) ?_ ?_ ?_ ?_) (by first | rfl | (simp; done) | (simp; omega)) (by rfl) (by rfl)
        · omega
        · omega
        · intro j hj
          by_cases e : j = i
          · subst e; rw [up_eq, hF 129 _ (by decide)]
          · rw [up_nj e]; exact hH j (by omega)
        · exact fun c j hc => by rw [up_ne hc]; exact hF c j hc
  refine wp_eq (L2 (_ + 1) (0) (g) (Nat.lt_succ_self _) ?_ ?_ ?_) (by first | rfl | (simp; done) | (simp; omega)) (by rfl) (by rfl)
  · exact Nat.zero_le _
  · exact fun j hj => absurd hj (Nat.not_lt_zero _)
  · exact fun _ _ _ => rfl
set_option maxHeartbeats 400000 in
set_option maxRecDepth 20000 in
theorem m_image {sn : Nat} {sx : Nat → Int} {b : Nat} {g : am_G}  : Ev sn sx 2 249 [(2, 127)] (SH b) g (fun r => ∃ g', r = (some (0, g 128 2), SH b, g') ∧ (∀ j, j < 1620 → g' 129 j = g 128 j) ∧ (∀ c j, c ≠ 129 → g' c j = g c j)) := by
  refine ev_of (K := 1) T249 (by decide) rfl rfl (Nat.le_of_ble_eq_true rfl) ?_
  refine wp_eq (L' := [(2, 127)]) (st' := []) (g' := g) ?_
  refine wp_n 4 (pc' := 8) (L' := [(2, 127)]) (st' := [(2, 129), (2, 128)]) (g' := g) rfl ?_
  refine wp_cs (as := [(2, 128), (2, 129)]) (rest := []) rfl (by decide) rfl (Nat.le_of_ble_eq_true rfl) (m_copy1) (by decide) (fun r1 h2 => ?_)
  obtain ⟨g8, rfl, hA8, hB8⟩ := h2
  refine wp_eq (L' := [(2, 127)]) (st' := []) (g' := g8) ?_
  refine wp_n 3 (pc' := 16) (L' := [(2, 127)]) (st' := [(0, 2), (2, 128)]) (g' := g8) rfl ?_
  refine wp_iald (k := 128) (2) rfl rfl (by omega) (by omega) (by decide) ?_
  exact wp_ret rfl rfl rfl ⟨_, by rw [hB8 128 2 (by decide)], hA8, hB8⟩
set_option maxHeartbeats 400000 in
set_option maxRecDepth 20000 in
theorem m_back {sn : Nat} {sx : Nat → Int} {b : Nat} {g : am_G}  : Ev sn sx 2 250 [(2, 127)] (SH b) g (fun r => ∃ g', r = (some (0, g 129 2), SH b, g') ∧ (∀ j, j < 1620 → g' 128 j = g 129 j) ∧ (∀ c j, c ≠ 128 → g' c j = g c j)) := by
  refine ev_of (K := 1) T250 (by decide) rfl rfl (Nat.le_of_ble_eq_true rfl) ?_
  refine wp_eq (L' := [(2, 127)]) (st' := []) (g' := g) ?_
  refine wp_n 4 (pc' := 8) (L' := [(2, 127)]) (st' := [(2, 128), (2, 129)]) (g' := g) rfl ?_
  refine wp_cs (as := [(2, 129), (2, 128)]) (rest := []) rfl (by decide) rfl (Nat.le_of_ble_eq_true rfl) (m_copy2) (by decide) (fun r1 h2 => ?_)
  obtain ⟨g8, rfl, hA8, hB8⟩ := h2
  refine wp_eq (L' := [(2, 127)]) (st' := []) (g' := g8) ?_
  refine wp_n 3 (pc' := 16) (L' := [(2, 127)]) (st' := [(0, 2), (2, 128)]) (g' := g8) rfl ?_
  refine wp_iald (k := 128) (2) rfl rfl (by omega) (by omega) (by decide) ?_
  exact wp_ret rfl rfl rfl ⟨_, by rw [hA8 2 (by decide)], hA8, hB8⟩
theorem cp_row (i : Nat) (h : cpC i ≠ 99) : Row (cpC i) (cpJ i) := by
  rcases (show (0 ≤ i ∧ i < 1) ∨ (1 ≤ i ∧ i < 2) ∨ (2 ≤ i ∧ i < 3) ∨ (3 ≤ i ∧ i < 4) ∨ (4 ≤ i ∧ i < 5) ∨ (5 ≤ i ∧ i < 6) ∨ (6 ≤ i ∧ i < 11) ∨ (11 ≤ i ∧ i < 20) ∨ (20 ≤ i ∧ i < 168) ∨ (168 ≤ i ∧ i < 170) ∨ (170 ≤ i ∧ i < 318) ∨ (318 ≤ i ∧ i < 320) ∨ (320 ≤ i ∧ i < 448) ∨ (448 ≤ i ∧ i < 450) ∨ (450 ≤ i ∧ i < 454) ∨ (454 ≤ i ∧ i < 455) ∨ (455 ≤ i ∧ i < 459) ∨ (459 ≤ i ∧ i < 460) ∨ (460 ≤ i ∧ i < 580) ∨ (580 ≤ i ∧ i < 1380) ∨ (1380 ≤ i ∧ i < 1392) ∨ (1392 ≤ i ∧ i < 1400) ∨ (1400 ≤ i ∧ i < 1580) ∨ (1580 ≤ i ∧ i < 1620) ∨ 1620 ≤ i by omega) with ⟨q1, q2⟩ | ⟨q1, q2⟩ | ⟨q1, q2⟩ | ⟨q1, q2⟩ | ⟨q1, q2⟩ | ⟨q1, q2⟩ | ⟨q1, q2⟩ | ⟨q1, q2⟩ | ⟨q1, q2⟩ | ⟨q1, q2⟩ | ⟨q1, q2⟩ | ⟨q1, q2⟩ | ⟨q1, q2⟩ | ⟨q1, q2⟩ | ⟨q1, q2⟩ | ⟨q1, q2⟩ | ⟨q1, q2⟩ | ⟨q1, q2⟩ | ⟨q1, q2⟩ | ⟨q1, q2⟩ | ⟨q1, q2⟩ | ⟨q1, q2⟩ | ⟨q1, q2⟩ | ⟨q1, q2⟩ | q1
  · rw [cp_i0 i q2, cj_i0 i q2]; exact row_6_3
  · rw [cp_i1 i q1 q2, cj_i1 i q1 q2]; exact row_6_4
  · rw [cp_i2 i q1 q2, cj_i2 i q1 q2]; exact row_10_4
  · rw [cp_i3 i q1 q2, cj_i3 i q1 q2]; exact row_10_11
  · rw [cp_i4 i q1 q2, cj_i4 i q1 q2]; exact row_10_14
  · rw [cp_i5 i q1 q2, cj_i5 i q1 q2]; exact row_10_16
  · rw [cp_late i q1 q2, cj_late i q1 q2]; exact row_23 (by omega)
  · exact absurd (cp_x1 i q1 q2) h
  · rw [cp_hold i q1 q2, cj_hold i q1 q2]; exact row_2 (by omega)
  · exact absurd (cp_x2 i q1 q2) h
  · rw [cp_lean i q1 q2, cj_lean i q1 q2]; exact row_3 (by omega)
  · exact absurd (cp_x3 i q1 q2) h
  · rw [cp_skip i q1 q2, cj_skip i q1 q2]; exact row_4 (by omega)
  · exact absurd (cp_x4 i q1 q2) h
  · rw [cp_tilt i q1 q2, cj_tilt i q1 q2]; exact row_5 (by omega)
  · exact absurd (cp_x5 i q1 q2) h
  · rw [cp_many i q1 q2, cj_many i q1 q2]; exact row_17 (by omega)
  · exact absurd (cp_x6 i q1 q2) h
  · rw [cp_start i q1 q2, cj_start i q1 q2]; exact row_16 (by omega)
  · rw [cp_wr i q1 q2, cj_wr i q1 q2]; rcases (show (i - 580) % 4 = 0 ∨ (i - 580) % 4 = 1 ∨ (i - 580) % 4 = 2 ∨ (i - 580) % 4 = 3 by omega) with e | e | e | e
    · rw [e]; exact row_11 (by omega)
    · rw [e]; exact row_12 (by omega)
    · rw [e]; exact row_13 (by omega)
    · rw [e]; exact row_14 (by omega)
  · rw [cp_scr i q1 q2, cj_scr i q1 q2]; exact row_15 (by omega)
  · exact absurd (cp_x7 i q1 q2) h
  · rw [cp_bet i q1 q2, cj_bet i q1 q2]; rcases (show (i - 1400) % 3 = 0 ∨ (i - 1400) % 3 = 1 ∨ (i - 1400) % 3 = 2 by omega) with e | e | e
    · rw [e]; exact row_18 (by omega)
    · rw [e]; exact row_19 (by omega)
    · rw [e]; exact row_20 (by omega)
  · rw [cp_see i q1 q2, cj_see i q1 q2]; rcases (show (i - 1580) % 2 = 0 ∨ (i - 1580) % 2 = 1 by omega) with e | e
    · rw [e]; exact row_21 (by omega)
    · rw [e]; exact row_22 (by omega)
  · exact absurd (cp_x8 i q1) h
theorem hgt_eq {f f' : Nat → Int} {a n : Nat} (h : ∀ i, i < n → f' (a + i) = f (a + i)) : ∀ i, i ≤ n → hgt f' a i = hgt f a i := by
  intro i
  induction i with
  | zero => intro _; rfl
  | succ i ih => intro hi; rw [hgt_s, hgt_s, h i (by omega), ih (by omega)]
theorem ClW.eq {k : Nat} {f f' : Nat → Int} {a n : Nat} (hc : ClW k f a n) (h : ∀ i, i < n → f' (a + i) = f (a + i)) : ClW k f' a n := by
  have e := hgt_eq h
  refine ⟨hc.1, fun i hi => ?_, fun i hi => by rw [e i hi]; exact hc.2.2.1 i hi, by rw [e n (Nat.le_refl _)]; exact hc.2.2.2⟩
  rw [h i hi, e i (by omega)]
  exact hc.2.1 i hi
theorem Rng.shift {P d d' : Nat} {g g' : am_G} (h : Rng P d g) (hr : ∀ c j, Row c j → g' (c + d') j = g (c + d) j) : Rng P d' g' := by
  intro c j
  by_cases hc : Row c j
  · rw [hr c j hc]; exact h c j
  · unfold Rg
    refine ⟨?_, ?_, ?_, ?_, ?_, ?_, ?_, ?_, ?_, ?_, ?_, ?_, ?_, ?_, ?_, ?_, ?_, ?_, ?_, ?_, ?_, ?_, ?_, ?_, ?_, ?_, ?_⟩
    · intro e hj; subst e; exact absurd (row_2 hj) hc
    · intro e hj; subst e; exact absurd (row_3 hj) hc
    · intro e hj; subst e; exact absurd (row_4 hj) hc
    · intro e hj; subst e; exact absurd (row_5 hj) hc
    · intro e hj; subst e; subst hj; exact absurd row_6_3 hc
    · intro e hj; subst e; subst hj; exact absurd row_6_4 hc
    · intro e hj; subst e; subst hj; exact absurd row_10_4 hc
    · intro e hj; subst e; subst hj; exact absurd row_10_11 hc
    · intro e hj; subst e; subst hj; exact absurd row_10_14 hc
    · intro e hj; subst e; subst hj; exact absurd row_10_16 hc
    · intro e hj; subst e; exact absurd (row_11 hj) hc
    · intro e hj; subst e; exact absurd (row_12 hj) hc
    · intro e hj; subst e; exact absurd (row_13 hj) hc
    · intro e hj; subst e; exact absurd (row_14 hj) hc
    · intro e hj; subst e; exact absurd (row_15 hj) hc
    · intro e hj; subst e; exact absurd (row_16 hj.1) hc
    · intro e hj; subst e; exact absurd (row_16 hj.1) hc
    · intro e hj; subst e; exact absurd (row_16 hj.1) hc
    · intro e hj; subst e; exact absurd (row_16 hj.1) hc
    · intro e hj; subst e; exact absurd (row_16 hj.1) hc
    · intro e hj; subst e; exact absurd (row_17 hj) hc
    · intro e hj; subst e; exact absurd (row_18 hj) hc
    · intro e hj; subst e; exact absurd (row_19 hj) hc
    · intro e hj; subst e; exact absurd (row_20 hj) hc
    · intro e hj; subst e; exact absurd (row_21 hj) hc
    · intro e hj; subst e; exact absurd (row_22 hj) hc
    · intro e hj; subst e; exact absurd (row_23 hj) hc
theorem E24.shift {P d d' : Nat} {g g' : am_G} (h : E24 d g) (hg : Rng P d g) (hd : d = 0 ∨ d = 23) (hr : ∀ c j, Row c j → g' (c + d') j = g (c + d) j) : E24 d' g' := by
  intro e h0 h1
  rw [hr 10 4 row_10_4]
  have hn : 0 ≤ g (10 + d) 4 ∧ g (10 + d) 4 ≤ 200 := (hg 10 4).2.2.2.2.2.2.1 rfl rfl
  have e1 : ∀ n, n ≤ 200 → ofE g' d' e n = ofE g d e n := by
    intro n
    induction n with
    | zero => intro _; rfl
    | succ n ih =>
      intro hn
      show ofE g' d' e n + (if g' (11 + d') n = e then 1 else 0) = ofE g d e n + (if g (11 + d) n = e then 1 else 0)
      rw [ih (by omega), hr 11 n (row_11 (by omega))]
  rw [e1 _ (by omega)]
  exact h e h0 h1
theorem TxW.shift {d d' : Nat} {g g' : am_G} (h : TxW d g) (hr : ∀ c j, Row c j → g' (c + d') j = g (c + d) j) : TxW d' g' := by
  have h3 : g' (6 + d') 3 = g (6 + d) 3 := hr 6 3 row_6_3
  have h4 : g' (6 + d') 4 = g (6 + d) 4 := hr 6 4 row_6_4
  refine ⟨by rw [h3]; exact h.1, by rw [h3, h4]; exact h.2.1, fun t k ht hk => ?_⟩
  rw [h3] at ht
  have hb := h.1
  have e8 : g' (8 + d') (4 * t + k) = g (8 + d) (4 * t + k) := hr 8 _ (row_8 (by omega))
  have e9 : g' (9 + d') (4 * t + k) = g (9 + d) (4 * t + k) := hr 9 _ (row_9 (by omega))
  rcases h.2.2 t k ht hk with q | ⟨a, n, q1, q2, q3, q4, q5⟩
  · exact Or.inl (by rw [e8]; exact q)
  · exact Or.inr ⟨a, n, by rw [e8]; exact q1, by rw [e9]; exact q2, q3, q4, q5.eq fun i hi => hr 7 _ (row_7 (by omega))⟩
theorem C_image {sn : Nat} {sx : Nat → Int} {b : Nat} {g : am_G} {P : Nat} (hI : CInv P g) : Ev sn sx 2 128 [(2, 0)] (SH b) g (CPost P g (fun c1 v1 => v1 = g 10 4 ∧ (∀ c j, Row c j → c1 (c + 23) j = g c j) ∧ (∀ c j, (c < 25 ∨ 46 < c) → c1 c j = g c j))) := e_image.mono fun r h => by
  obtain ⟨g', h1, h2, h3⟩ := h
  have h2' : ∀ c j, Row c j → g' (c + 23) j = g (c + 0) j := h2
  refine ⟨g', _, b, h1, ⟨hI.ck.same fun c j q => h3 c j (by omega), hI.rg.same fun c j q1 q2 => h3 c j (by omega), hI.rg.shift h2', hI.e24.same fun c j q => h3 c j (by omega), hI.e24.shift hI.rg (Or.inl rfl) h2', hI.tx.same fun c j q1 q2 => h3 c j (by omega), hI.tx.shift h2', ?_, hI.tap.same fun c j q => h3 c j (by omega), hI.cls.same fun c j q1 q2 => h3 c j (by omega), hI.wls.same fun c j q1 q2 => h3 c j (by omega), hI.caw.same fun c j q => h3 c j (by omega), hI.cal.same fun c j q => h3 c j (by omega)⟩, fun c j q => h3 c j (by omega), rfl, h2, h3⟩
  have hb := hI.tx.n0
  have e6 : g' 6 3 = g 6 3 := h3 6 3 (by omega)
  have e29 : g' 29 3 = g 6 3 := h2 6 3 row_6_3
  refine ⟨by rw [e6, e29]; exact Int.le_refl _, fun t ht => ⟨fun j hj => ?_, fun k hk => ⟨?_, ?_⟩⟩⟩
  · rw [h3 7 _ (by omega)]; exact h2 7 _ (row_7 (by omega))
  · rw [h3 8 _ (by omega)]; exact h2 8 _ (row_8 (by omega))
  · rw [h3 9 _ (by omega)]; exact h2 9 _ (row_9 (by omega))
theorem M_image {sn : Nat} {sx : Nat → Int} {b : Nat} {g c : am_G} (hM : MRel c g) : Ev sn sx 2 249 [(2, 127)] (SH b) g (MPost b g (fun c1 v1 => v1 = c 10 4 ∧ (∀ k j, Row k j → c1 (k + 23) j = c k j) ∧ (∀ k j, (k < 25 ∨ 46 < k) → c1 k j = c k j))) := m_image.mono fun r h => by
  obtain ⟨g', h1, h2, h3⟩ := h
  refine ⟨g', _, h1, fun k j q => h3 k j (by omega), fun c1 v1 hE => ?_⟩
  obtain ⟨rfl, k2, k3⟩ := hE
  refine ⟨hM.written.symm, ?_⟩
  obtain ⟨a1, a2, a3, a4, a5, a6, a7, a8⟩ := hM
  refine ⟨(a1.c_same fun k j q1 q2 => k3 k j (by omega)).g_same fun j => h3 128 j (by decide), fun i hi h9 => ?_, ?_, ?_, ?_, ?_, fun j hj => ?_, (a8.c_same fun k j q1 q2 => k3 k j (by omega)).g_same fun j => h3 130 j (by decide)⟩
  · rw [h2 i hi, k2 _ _ (cp_row i h9)]; exact a1 i hi h9
  · rw [h3 127 0 (by decide), k3 0 0 (by omega)]; exact a3
  · rw [h3 127 5 (by decide), k3 47 1 (by omega)]; exact a4
  · rw [h3 127 7 (by decide), k3 47 2 (by omega)]; exact a5
  · rw [h3 127 8 (by decide), k3 47 3 (by omega)]; exact a6
  · rw [h3 131 j (by decide), k3 48 j (by omega)]; exact a7 j hj
theorem C_back {sn : Nat} {sx : Nat → Int} {b : Nat} {g : am_G} {P : Nat} (hI : CInv P g) : Ev sn sx 2 129 [(2, 0)] (SH b) g (CPost P g (fun c1 v1 => v1 = g 33 4 ∧ (∀ c j, Row c j → c1 c j = g (c + 23) j) ∧ (∀ c j, (c < 2 ∨ 23 < c) → ¬ (c = 56 ∧ j = 2) → ¬ (c = 120 ∧ j = 12) → c1 c j = g c j))) := e_back.mono fun r h => by
  obtain ⟨g', h1, h2, h5, h6, h3⟩ := h
  have h2' : ∀ c j, Row c j → g' (c + 0) j = g (c + 23) j := h2
  refine ⟨g', _, b, h1, ⟨hI.ck.same fun c j q => h3 c j (by omega) (by omega) (by omega), hI.rgi.shift h2', hI.rgi.same fun c j q1 q2 => h3 c j (by omega) (by omega) (by omega), hI.e24i.shift hI.rgi (Or.inr rfl) h2', hI.e24i.same fun c j q => h3 c j (by omega) (by omega) (by omega), hI.txi.shift h2', hI.txi.same fun c j q1 q2 => h3 c j (by omega) (by omega) (by omega), ?_, hI.tap.same fun c j q => h3 c j (by omega) (by omega) (by omega), hI.cls.same fun c j q1 q2 => h3 c j (by omega) (by omega) (by omega), hI.wls.same fun c j q1 q2 => h3 c j (by omega) (by omega) (by omega), CaW.none h5, Or.inl h6⟩, fun c j q => h3 c j (by omega) (by omega) (by omega), rfl, h2, h3⟩
  have hb : 0 ≤ g 29 3 ∧ g 29 3 ≤ 6 := hI.txi.1
  have e6 : g' 6 3 = g 29 3 := h2 6 3 row_6_3
  have e29 : g' 29 3 = g 29 3 := h3 29 3 (by omega) (by omega) (by omega)
  refine ⟨by rw [e6, e29]; exact Int.le_refl _, fun t ht => ⟨fun j hj => ?_, fun k hk => ⟨?_, ?_⟩⟩⟩
  · rw [h3 30 _ (by omega) (by omega) (by omega)]; exact (h2 7 _ (row_7 (by omega))).symm
  · rw [h3 31 _ (by omega) (by omega) (by omega)]; exact (h2 8 _ (row_8 (by omega))).symm
  · rw [h3 32 _ (by omega) (by omega) (by omega)]; exact (h2 9 _ (row_9 (by omega))).symm
theorem M_back {sn : Nat} {sx : Nat → Int} {b : Nat} {g c : am_G} {P : Nat} (hI : CInv P c) (hM : MRel c g) : Ev sn sx 2 250 [(2, 127)] (SH b) g (MPost b g (fun c1 v1 => v1 = c 33 4 ∧ (∀ k j, Row k j → c1 k j = c (k + 23) j) ∧ (∀ k j, (k < 2 ∨ 23 < k) → ¬ (k = 56 ∧ j = 2) → ¬ (k = 120 ∧ j = 12) → c1 k j = c k j))) := m_back.mono fun r h => by
  obtain ⟨g', h1, h2, h3⟩ := h
  refine ⟨g', _, h1, fun k j q => h3 k j (by omega), fun c1 v1 hE => ?_⟩
  obtain ⟨rfl, k2, k3⟩ := hE
  have hb : 0 ≤ c 29 3 ∧ c 29 3 ≤ 6 := hI.txi.1
  have hti := hI.ti
  obtain ⟨a1, a2, a3, a4, a5, a6, a7, a8⟩ := hM
  refine ⟨(a2 2 (by decide) (by decide)).symm, fun i hi h9 => ?_, (a2.c_same fun k j q1 q2 => k3 k j (by omega) (by omega) (by omega)).g_same fun j => h3 129 j (by decide), ?_, ?_, ?_, ?_, fun j hj => ?_, fun t k ht hk => ?_⟩
  · rw [h2 i hi]; exact (a2 i hi h9).trans (k2 _ _ (cp_row i h9)).symm
  · rw [h3 127 0 (by decide), k3 0 0 (by omega) (by omega) (by omega)]; exact a3
  · rw [h3 127 5 (by decide), k3 47 1 (by omega) (by omega) (by omega)]; exact a4
  · rw [h3 127 7 (by decide), k3 47 2 (by omega) (by omega) (by omega)]; exact a5
  · rw [h3 127 8 (by decide), k3 47 3 (by omega) (by omega) (by omega)]; exact a6
  · rw [h3 131 j (by decide), k3 48 j (by omega) (by omega) (by omega)]; exact a7 j hj
  · have e6 : c1 6 3 = c 29 3 := k2 6 3 row_6_3
    rw [e6] at ht
    have q := hti.2 t ht
    have e8 : c1 8 (4 * t + k) = c 8 (4 * t + k) := (k2 8 _ (row_8 (by omega))).trans (q.2 k hk).1
    have e9 : c1 9 (4 * t + k) = c 9 (4 * t + k) := (k2 9 _ (row_9 (by omega))).trans (q.2 k hk).2
    have e130 : ∀ x, g' 130 x = g 130 x := fun x => h3 130 x (by decide)
    unfold TRc
    simp only [e130]
    rw [e8, e9]
    rcases a8 t k (by have := hti.1; omega) hk with ⟨b1, b2⟩ | ⟨a, n, b1, b2, b3, b4, b5, b6, b7⟩
    · exact Or.inl ⟨b1, b2⟩
    · refine Or.inr ⟨a, n, b1, b2, b3, b4, b5, b6, fun i hi => ?_⟩
      have e7 : c1 7 (a + i) = c 7 (a + i) := by
        rw [k2 7 _ (row_7 (by omega))]
        have := q.1 (a + i - 300 * t) (by omega)
        rw [show 300 * t + (a + i - 300 * t) = a + i by omega] at this
        exact this
      rw [e7]
      exact b7 i hi
