/-! among: both sides -/
theorem cb_mono {n m k : Nat} (h : n ≤ m) : cb n k ≤ cb m k := by
  induction h with
  | refl => exact Int.le_refl _
  | step _ ih =>
    rename_i m _
    cases k with
    | zero => rw [cb_0, cb_0]; exact Int.le_refl _
    | succ k =>
      rw [cb_s m k]
      have := cb_nn m k
      omega
theorem cb_37 : cb 37 0 = 1 ∧ cb 37 1 = 37 ∧ cb 37 2 = 666 ∧ cb 37 3 = 7770 ∧ cb 37 4 = 66045 ∧ cb 37 5 = 435897 ∧ cb 37 6 = 2324784 ∧ cb 37 7 = 10295472 ∧ cb 37 8 = 38608020 ∧ cb 37 9 = 124403620 := by
  have h0 := cb_0 37
  have h1 : (1 : Int) * cb 37 1 = 37 * cb 37 0 := cb_step 37 0
  have h2 : (2 : Int) * cb 37 2 = 36 * cb 37 1 := cb_step 37 1
  have h3 : (3 : Int) * cb 37 3 = 35 * cb 37 2 := cb_step 37 2
  have h4 : (4 : Int) * cb 37 4 = 34 * cb 37 3 := cb_step 37 3
  have h5 : (5 : Int) * cb 37 5 = 33 * cb 37 4 := cb_step 37 4
  have h6 : (6 : Int) * cb 37 6 = 32 * cb 37 5 := cb_step 37 5
  have h7 : (7 : Int) * cb 37 7 = 31 * cb 37 6 := cb_step 37 6
  have h8 : (8 : Int) * cb 37 8 = 30 * cb 37 7 := cb_step 37 7
  have h9 : (9 : Int) * cb 37 9 = 29 * cb 37 8 := cb_step 37 8
  omega
theorem cb_set {P j : Nat} (hP : P ≤ 37) (hj : j ≤ 9) : 0 ≤ cb P j ∧ cb P j ≤ 124403620 := by
  have h1 := cb_mono (k := j) hP
  have h2 := cb_nn P j
  have h3 := cb_37
  rcases (show j = 0 ∨ j = 1 ∨ j = 2 ∨ j = 3 ∨ j = 4 ∨ j = 5 ∨ j = 6 ∨ j = 7 ∨ j = 8 ∨ j = 9 by omega) with e | e | e | e | e | e | e | e | e | e <;> subst e <;> omega
def AmD (P : Nat) (x y z : Int) : Prop := 1 ≤ x ∧ x ≤ 60 ∧ 0 ≤ y ∧ y ≤ x ∧ 1 ≤ z ∧ z ≤ 9 ∧ z < (P : Int)
set_option maxHeartbeats 400000 in
set_option maxRecDepth 20000 in
theorem e_isNine {sn : Nat} {sx : Nat → Int} {b : Nat} {g : am_G} {P : Nat} {z : Int} (hz : R32 z) (h0 : g 0 0 = (P : Int)) (h5 : 5 ≤ P ∧ P ≤ 37) : Ev sn sx 2 139 [(2, 0), (0, z)] (SH b) g (fun r => Is1 r (SH b) g (1 ≤ z ∧ z ≤ 9 ∧ z < (P : Int))) := by
  refine ev_of (K := 1) T139 (by decide) rfl rfl (Nat.le_of_ble_eq_true rfl) ?_
  refine wp_eq (L' := [(2, 0), (0, z)]) (st' := []) (g' := g) ?_
  refine wp_n 5 (pc' := 8) (L' := [(2, 0), (0, z)]) (st' := [(0, (g 0 0)), (0, 9), (0, 1), (0, z)]) (g' := g) rfl ?_
  refine wp_eq (L' := [(2, 0), (0, z)]) (st' := [(0, ((P : Nat) : Int)), (0, 9), (0, 1), (0, z)]) (g' := g) ?_ (by rfl) (by rw [h0]) (by rfl)
  refine wp_n 2 (pc' := 10) (L' := [(2, 0), (0, z)]) (st' := [(0, (((P : Nat) : Int) - 1)), (0, 9), (0, 1), (0, z)]) (g' := g) rfl ?_
  refine wp_cs (as := [(0, 9), (0, (((P : Nat) : Int) - 1))]) (rest := [(0, 1), (0, z)]) rfl (by decide) rfl (Nat.le_of_ble_eq_true rfl) (e_min (by omega) (by omega)) (by decide) (fun r1 h2 => ?_)
  obtain rfl := h2
  refine wp_eq (L' := [(2, 0), (0, z)]) (st' := [(0, (if (((P : Nat) : Int) - 1) < 9 then (((P : Nat) : Int) - 1) else 9)), (0, 1), (0, z)]) (g' := g) ?_
  refine wp_cs (as := [(0, z), (0, 1), (0, (if (((P : Nat) : Int) - 1) < 9 then (((P : Nat) : Int) - 1) else 9))]) (rest := []) rfl (by decide) rfl (Nat.le_of_ble_eq_true rfl) (e_within (by omega) (by omega) ((by split <;> omega))) (by decide) (fun r4 h5 => ?_)
  rcases h5 with ⟨rfl, p3⟩ | ⟨rfl, p3⟩
  · refine wp_eq (L' := [(2, 0), (0, z)]) (st' := [(0, 1)]) (g' := g) ?_
    exact wp_ret rfl rfl rfl (Or.inl ⟨rfl, by (split at p3 <;> omega)⟩)
  · refine wp_eq (L' := [(2, 0), (0, z)]) (st' := [(0, 0)]) (g' := g) ?_
    exact wp_ret rfl rfl rfl (Or.inr ⟨rfl, by (split at p3 <;> omega)⟩)
set_option maxHeartbeats 400000 in
set_option maxRecDepth 20000 in
theorem e_among {sn : Nat} {sx : Nat → Int} {b : Nat} {g : am_G} {P : Nat} {x y z : Int} (hx : R32 x) (hy : R32 y) (hz : R32 z) (h0 : g 0 0 = (P : Int)) (hP : g 103 0 = (P : Int)) (h5 : 5 ≤ P ∧ P ≤ 37) (hL : CLs g) : Ev sn sx 6 116 [(2, 0), (0, x), (0, y), (0, z)] (SH b) g (fun r => ∃ g' v, r = (some (0, v), SH b, g') ∧ ((AmD P x y z ∧ IsShare (tl z ((P : Int) - z) x.toNat y.toNat * cb P z.toNat) 1000000 ((P : Int) ^ x.toNat) v) ∨ (¬ AmD P x y z ∧ v = -1)) ∧ CLs g' ∧ FrH g g') := by
  refine ev_of (K := 5) T116 (by decide) rfl rfl (Nat.le_of_ble_eq_true rfl) ?_
  refine wp_eq (L' := [(2, 0), (0, x), (0, y), (0, z)]) (st' := []) (g' := g) ?_
  refine wp_n 2 (pc' := 2) (L' := [(2, 0), (0, x), (0, y), (0, z)]) (st' := [(0, y), (0, x)]) (g' := g) rfl ?_
  refine wp_cs (as := [(0, x), (0, y)]) (rest := []) rfl (by decide) rfl (Nat.le_of_ble_eq_true rfl) (e_isCount (by omega) (by omega)) (by decide) (fun r2 h3 => ?_)
  rcases h3 with ⟨rfl, p1⟩ | ⟨rfl, p1⟩
  · refine wp_eq (L' := [(2, 0), (0, x), (0, y), (0, z)]) (st' := [(0, 1)]) (g' := g) ?_
    refine wp_n 3 (pc' := 10) (L' := [(2, 0), (0, x), (0, y), (0, z)]) (st' := [(0, z), (2, 0)]) (g' := g) rfl ?_
    refine wp_cv (as := [(2, 0), (0, z)]) (rest := []) rfl rfl rfl (Nat.le_of_ble_eq_true rfl) rfl (e_isNine (by omega) h0 (by omega)) (by decide) (fun r4 h5 => ?_)
    rcases h5 with ⟨rfl, p10⟩ | ⟨rfl, p10⟩
    · refine wp_eq (L' := [(2, 0), (0, x), (0, y), (0, z)]) (st' := [(0, 1)]) (g' := g) ?_
      refine wp_n 4 (pc' := 23) (L' := [(2, 0), (0, x), (0, y), (0, z)]) (st' := [(0, x), (2, 103)]) (g' := g) rfl ?_
      refine wp_eq (L' := [(2, 0), (0, x), (0, y), (0, z)]) (st' := [(0, ((x.toNat : Nat) : Int)), (2, 103)]) (g' := g) ?_ (by rfl) (by rw [Int.toNat_of_nonneg (by omega)]) (by rfl)
      refine wp_n 1 (pc' := 24) (L' := [(2, 0), (0, x), (0, y), (0, z)]) (st' := [(0, y), (0, ((x.toNat : Nat) : Int)), (2, 103)]) (g' := g) rfl ?_
      refine wp_eq (L' := [(2, 0), (0, x), (0, y), (0, z)]) (st' := [(0, ((y.toNat : Nat) : Int)), (0, ((x.toNat : Nat) : Int)), (2, 103)]) (g' := g) ?_ (by rfl) (by rw [Int.toNat_of_nonneg (by omega)]) (by rfl)
      refine wp_n 4 (pc' := 30) (L' := [(2, 0), (0, x), (0, y), (0, z)]) (st' := [(0, z), (2, 103), (0, z), (0, ((y.toNat : Nat) : Int)), (0, ((x.toNat : Nat) : Int)), (2, 103)]) (g' := g) rfl ?_
      refine wp_eq (L' := [(2, 0), (0, x), (0, y), (0, z)]) (st' := [(0, ((z.toNat : Nat) : Int)), (2, 103), (0, z), (0, ((y.toNat : Nat) : Int)), (0, ((x.toNat : Nat) : Int)), (2, 103)]) (g' := g) ?_ (by rfl) (by rw [Int.toNat_of_nonneg (by omega)]) (by rfl)
      refine wp_cv (as := [(2, 103), (0, ((z.toNat : Nat) : Int))]) (rest := [(0, z), (0, ((y.toNat : Nat) : Int)), (0, ((x.toNat : Nat) : Int)), (2, 103)]) rfl rfl rfl (Nat.le_of_ble_eq_true rfl) rfl (e_sets (j := (z.toNat)) hP (by omega) (by omega)) (by decide) (fun r6 h7 => ?_)
      obtain rfl := h7
      refine wp_eq (L' := [(2, 0), (0, x), (0, y), (0, z)]) (st' := [(0, (cb P (z.toNat))), (0, z), (0, ((y.toNat : Nat) : Int)), (0, ((x.toNat : Nat) : Int)), (2, 103)]) (g' := g) ?_
      refine wp_cv (as := [(2, 103), (0, ((x.toNat : Nat) : Int)), (0, ((y.toNat : Nat) : Int)), (0, z), (0, (cb P (z.toNat)))]) (rest := []) rfl rfl rfl (Nat.le_of_ble_eq_true rfl) rfl (e_even (n := x.toNat) (k := y.toNat) hP (by omega) (by omega) (by omega) (by omega) (by have := cb_set (P := P) (j := z.toNat) (by omega) (by omega); omega) hL) (by decide) (fun r8 h9 => ?_)
      obtain ⟨g33, q33, rfl, hS33, hL33, hF33⟩ := h9
      refine wp_eq (L' := [(2, 0), (0, x), (0, y), (0, z)]) (st' := [(0, q33)]) (g' := g33) ?_
      exact wp_ret rfl rfl rfl ⟨_, _, rfl, Or.inl ⟨by unfold AmD; omega, hS33⟩, hL33, hF33⟩
    · refine wp_eq (L' := [(2, 0), (0, x), (0, y), (0, z)]) (st' := [(0, 0)]) (g' := g) ?_
      refine wp_n 2 (pc' := 17) (L' := [(2, 0), (0, x), (0, y), (0, z)]) (st' := [(0, (-1))]) (g' := g) rfl ?_
      exact wp_ret rfl rfl rfl ⟨_, _, rfl, Or.inr ⟨by unfold AmD; omega, rfl⟩, hL, fun _ _ _ => rfl⟩
  · refine wp_eq (L' := [(2, 0), (0, x), (0, y), (0, z)]) (st' := [(0, 0)]) (g' := g) ?_
    refine wp_n 2 (pc' := 17) (L' := [(2, 0), (0, x), (0, y), (0, z)]) (st' := [(0, (-1))]) (g' := g) rfl ?_
    exact wp_ret rfl rfl rfl ⟨_, _, rfl, Or.inr ⟨by unfold AmD; omega, rfl⟩, hL, fun _ _ _ => rfl⟩
set_option maxHeartbeats 400000 in
set_option maxRecDepth 20000 in
theorem m_among {sn : Nat} {sx : Nat → Int} {b : Nat} {g : am_G} {P : Nat} {x y z : Int} (hx : R32 x) (hy : R32 y) (hz : R32 z) (hP : g 127 0 = (P : Int)) (h5 : 5 ≤ P ∧ P ≤ 37) : Ev sn sx 5 219 [(2, 127), (0, x), (0, y), (0, z)] (SH b) g (fun r => ∃ g' v, r = (some (0, v), SH b, g') ∧ ((AmD P x y z ∧ IsInto (tl z ((P : Int) - z) x.toNat y.toNat * cb P z.toNat * 1000000) ((P : Int) ^ x.toNat) v) ∨ (¬ AmD P x y z ∧ v = -1)) ∧ FrR 0 127 g g') := by
  refine ev_of (K := 4) T219 (by decide) rfl rfl (Nat.le_of_ble_eq_true rfl) ?_
  refine wp_eq (L' := [(2, 127), (0, x), (0, y), (0, z)]) (st' := []) (g' := g) ?_
  refine wp_n 3 (pc' := 4) (L' := [(2, 127), (0, x), (0, y), (0, z)]) (st' := [(0, 60), (0, 1), (0, x)]) (g' := g) rfl ?_
  refine wp_cs (as := [(0, x), (0, 1), (0, 60)]) (rest := []) rfl (by decide) rfl (Nat.le_of_ble_eq_true rfl) (e_isIn (by omega) (by omega) (by omega)) (by decide) (fun r2 h3 => ?_)
  rcases h3 with ⟨rfl, p1⟩ | ⟨rfl, p1⟩
  · refine wp_eq (L' := [(2, 127), (0, x), (0, y), (0, z)]) (st' := [(0, 1)]) (g' := g) ?_
    refine wp_n 4 (pc' := 13) (L' := [(2, 127), (0, x), (0, y), (0, z)]) (st' := [(0, x), (0, 0), (0, y)]) (g' := g) rfl ?_
    refine wp_cs (as := [(0, y), (0, 0), (0, x)]) (rest := []) rfl (by decide) rfl (Nat.le_of_ble_eq_true rfl) (e_isIn (by omega) (by omega) (by omega)) (by decide) (fun r5 h6 => ?_)
    rcases h6 with ⟨rfl, p4⟩ | ⟨rfl, p4⟩
    · refine wp_eq (L' := [(2, 127), (0, x), (0, y), (0, z)]) (st' := [(0, 1)]) (g' := g) ?_
      refine wp_n 4 (pc' := 23) (L' := [(2, 127), (0, x), (0, y), (0, z)]) (st' := [(0, 9), (0, 1), (0, z)]) (g' := g) rfl ?_
      refine wp_cs (as := [(0, z), (0, 1), (0, 9)]) (rest := []) rfl (by decide) rfl (Nat.le_of_ble_eq_true rfl) (e_isIn (by omega) (by omega) (by omega)) (by decide) (fun r8 h9 => ?_)
      rcases h9 with ⟨rfl, p7⟩ | ⟨rfl, p7⟩
      · refine wp_eq (L' := [(2, 127), (0, x), (0, y), (0, z)]) (st' := [(0, 1)]) (g' := g) ?_
        refine wp_n 4 (pc' := 34) (L' := [(2, 127), (0, x), (0, y), (0, z)]) (st' := [(0, (g 127 0)), (0, z)]) (g' := g) rfl ?_
        refine wp_eq (L' := [(2, 127), (0, x), (0, y), (0, z)]) (st' := [(0, ((P : Nat) : Int)), (0, z)]) (g' := g) ?_ (by rfl) (by rw [hP]) (by rfl)
        refine wp_ic_lt rfl (fun c10 => ?_) (fun c10 => ?_)
        · refine wp_n 2 (pc' := 41) (L' := [(2, 127), (0, x), (0, y), (0, z)]) (st' := [(0, x), (2, 127)]) (g' := g) rfl ?_
          refine wp_eq (L' := [(2, 127), (0, x), (0, y), (0, z)]) (st' := [(0, ((x.toNat : Nat) : Int)), (2, 127)]) (g' := g) ?_ (by rfl) (by rw [Int.toNat_of_nonneg (by omega)]) (by rfl)
          refine wp_n 1 (pc' := 42) (L' := [(2, 127), (0, x), (0, y), (0, z)]) (st' := [(0, y), (0, ((x.toNat : Nat) : Int)), (2, 127)]) (g' := g) rfl ?_
          refine wp_eq (L' := [(2, 127), (0, x), (0, y), (0, z)]) (st' := [(0, ((y.toNat : Nat) : Int)), (0, ((x.toNat : Nat) : Int)), (2, 127)]) (g' := g) ?_ (by rfl) (by rw [Int.toNat_of_nonneg (by omega)]) (by rfl)
          refine wp_n 1 (pc' := 43) (L' := [(2, 127), (0, x), (0, y), (0, z)]) (st' := [(0, z), (0, ((y.toNat : Nat) : Int)), (0, ((x.toNat : Nat) : Int)), (2, 127)]) (g' := g) rfl ?_
          refine wp_cv (as := [(2, 127), (0, ((x.toNat : Nat) : Int)), (0, ((y.toNat : Nat) : Int)), (0, z)]) (rest := []) rfl rfl rfl (Nat.le_of_ble_eq_true rfl) rfl (m_tail (t := x.toNat) (k := y.toNat) hP (by omega) (by omega) (by omega) (by omega)) (by decide) (fun r11 h12 => ?_)
          obtain ⟨g43, rfl, hR43, hW43, hF43⟩ := h12
          have hP43 : g43 127 0 = (P : Int) := by rw [hF43 127 0 (fun e => absurd e (by decide))]; exact hP
          have ht0 := tl_in (p := z) (q := (P : Int) - z) (t := x.toNat) (k := y.toNat) (by omega) (by omega) (by omega)
          rw [show z + ((P : Int) - z) = (P : Int) by omega] at ht0
          have hp0 := pow_2001 (x := (P : Int)) (n := x.toNat) (by omega) (by omega) (by omega)
          have hp1 : 0 ≤ (P : Int) ^ x.toNat := Int.pow_nonneg (by omega)
          have hcb := cb_set (P := P) (j := z.toNat) (by omega) (by omega)
          have ht1 := Int.mul_le_mul_of_nonneg_left hcb.2 ht0.1
          have ht2 := Int.mul_nonneg ht0.1 hcb.1
          refine wp_eq (L' := [(2, 127), (0, x), (0, y), (0, z)]) (st' := []) (g' := g43) ?_
          refine wp_n 4 (pc' := 51) (L' := [(2, 127), (0, x), (0, y), (0, z)]) (st' := [(0, z), (2, 127), (0, 124), (2, 127)]) (g' := g43) rfl ?_
          refine wp_eq (L' := [(2, 127), (0, x), (0, y), (0, z)]) (st' := [(0, ((z.toNat : Nat) : Int)), (2, 127), (0, 124), (2, 127)]) (g' := g43) ?_ (by rfl) (by rw [Int.toNat_of_nonneg (by omega)]) (by rfl)
          refine wp_cv (as := [(2, 127), (0, ((z.toNat : Nat) : Int))]) (rest := [(0, 124), (2, 127)]) rfl rfl rfl (Nat.le_of_ble_eq_true rfl) rfl (m_setsOf (j := (z.toNat)) hP43 (by omega) (by omega)) (by decide) (fun r13 h14 => ?_)
          obtain rfl := h14
          refine wp_eq (L' := [(2, 127), (0, x), (0, y), (0, z)]) (st' := [(0, (cb P (z.toNat))), (0, 124), (2, 127)]) (g' := g43) ?_
          refine wp_cv (as := [(2, 127), (0, 124), (0, (cb P (z.toNat)))]) (rest := []) rfl rfl rfl (Nat.le_of_ble_eq_true rfl) rfl (m_times (r := 124) (by omega) hR43 (by omega) (by omega)) (by decide) (fun r15 h16 => ?_)
          obtain ⟨g54, rfl, hR54, hF54⟩ := h16
          refine wp_eq (L' := [(2, 127), (0, x), (0, y), (0, z)]) (st' := []) (g' := g54) ?_
          refine wp_n 1 (pc' := 58) (L' := [(2, 127), (0, x), (0, y), (0, z)]) (st' := [(2, 127)]) (g' := g54) rfl ?_
          refine wp_cv (as := [(2, 127)]) (rest := []) rfl rfl rfl (Nat.le_of_ble_eq_true rfl) rfl (m_millionths hR54 (hW43.fr hF54 (by omega)) (by omega) (pow_10 hp1 hp0)) (by decide) (fun r17 h18 => ?_)
          obtain ⟨g58, q58, rfl, hI58, hF58⟩ := h18
          refine wp_eq (L' := [(2, 127), (0, x), (0, y), (0, z)]) (st' := [(0, q58)]) (g' := g58) ?_
          exact wp_ret rfl rfl rfl ⟨_, _, rfl, Or.inl ⟨by unfold AmD; omega, hI58⟩, ((hF43.wide (by omega) (by omega)).m hF54 (by omega) (by omega)).trans (hF58.wide (by omega) (by omega))⟩
        · refine wp_n 1 (pc' := 38) (L' := [(2, 127), (0, x), (0, y), (0, z)]) (st' := [(0, (-1))]) (g' := g) rfl ?_
          exact wp_ret rfl rfl rfl ⟨_, _, rfl, Or.inr ⟨by unfold AmD; omega, rfl⟩, FrR.rfl⟩
      · refine wp_eq (L' := [(2, 127), (0, x), (0, y), (0, z)]) (st' := [(0, 0)]) (g' := g) ?_
        refine wp_n 2 (pc' := 38) (L' := [(2, 127), (0, x), (0, y), (0, z)]) (st' := [(0, (-1))]) (g' := g) rfl ?_
        exact wp_ret rfl rfl rfl ⟨_, _, rfl, Or.inr ⟨by unfold AmD; omega, rfl⟩, FrR.rfl⟩
    · refine wp_eq (L' := [(2, 127), (0, x), (0, y), (0, z)]) (st' := [(0, 0)]) (g' := g) ?_
      refine wp_n 2 (pc' := 38) (L' := [(2, 127), (0, x), (0, y), (0, z)]) (st' := [(0, (-1))]) (g' := g) rfl ?_
      exact wp_ret rfl rfl rfl ⟨_, _, rfl, Or.inr ⟨by unfold AmD; omega, rfl⟩, FrR.rfl⟩
  · refine wp_eq (L' := [(2, 127), (0, x), (0, y), (0, z)]) (st' := [(0, 0)]) (g' := g) ?_
    refine wp_n 2 (pc' := 38) (L' := [(2, 127), (0, x), (0, y), (0, z)]) (st' := [(0, (-1))]) (g' := g) rfl ?_
    exact wp_ret rfl rfl rfl ⟨_, _, rfl, Or.inr ⟨by unfold AmD; omega, rfl⟩, FrR.rfl⟩
