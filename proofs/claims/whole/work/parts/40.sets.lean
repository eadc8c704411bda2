/-! how many sets there are: both sides -/
theorem cb_le {n k : Nat} (h : k ≤ n) (hn : n ≤ 37) : 0 ≤ cb n k ∧ cb n k ≤ 137438953472 := by
  have e := bt_cb 1 1 n (n - k) k (by omega)
  rw [Int.one_pow, Int.one_pow, Int.mul_one, Int.mul_one] at e
  have h1 := bt_le (p := 1) (q := 1) (by decide) (by decide) n k
  have h2 := pow_up (f := 2) (by decide) hn
  rw [e] at h1
  exact ⟨cb_nn n k, Int.le_trans h1 h2⟩
theorem cb_next {n k : Nat} (h : k ≤ n) : cb n k * ((n : Int) - (k : Int)) / ((k : Int) + 1) = cb n (k + 1) := by
  rw [Int.mul_comm, ← cb_step n k, Int.mul_ediv_cancel_left _ (by omega)]
set_option maxHeartbeats 400000 in
set_option maxRecDepth 20000 in
theorem e_sets {sn : Nat} {sx : Nat → Int} {b : Nat} {g : am_G} {P j : Nat} (hP : g 103 0 = (P : Int)) (h5 : 5 ≤ P ∧ P ≤ 37) (hj : j ≤ P) : Ev sn sx 1 26 [(2, 103), (0, ((j : Nat) : Int))] (SH b) g (fun r => r = (some (0, cb P j), SH b, g)) := by
  refine ev_of (K := 0) T26 (by decide) rfl rfl (Nat.le_of_ble_eq_true rfl) ?_
  refine wp_eq (L' := [(2, 103), (0, ((j : Nat) : Int)), (9, 0), (9, 0), (9, 0)]) (st' := []) (g' := g) ?_
  refine wp_n 4 (pc' := 5) (L' := [(2, 103), (0, ((j : Nat) : Int)), (1, 1), (9, 0), (0, 0)]) (st' := []) (g' := g) rfl ?_
  have L5 : ∀ (lf : Nat) (i : Nat) (c : Int), j - i < lf → (i ≤ j) → (c = cb P i) → Wp sn sx 0 T26 5 [(2, 103), (0, ((j : Nat) : Int)), (1, c), (9, 0), (0, ((i : Nat) : Int))] [] (SH b) g (fun r => r = (some (0, cb P j), SH b, g)) := by
    intro lf
    induction lf with
    | zero => intro i c hlf; exact absurd hlf (Nat.not_lt_zero _)
    | succ lf ih5 =>
      intro i c hlf hi hc
      refine wp_n 2 (pc' := 8) (L' := [(2, 103), (0, ((j : Nat) : Int)), (1, c), (9, 0), (0, ((i : Nat) : Int))]) (st' := [(0, ((j : Nat) : Int)), (0, ((i : Nat) : Int))]) (g' := g) rfl ?_
      refine wp_ic_ge rfl (fun c1 => ?_) (fun c1 => ?_)
      · have hi2 : i = j := by omega
        refine wp_n 2 (pc' := 36) (L' := [(2, 103), (0, ((j : Nat) : Int)), (1, c), (9, 0), (0, ((i : Nat) : Int))]) (st' := [(0, c)]) (g' := g) rfl ?_
        exact wp_ret rfl rfl rfl (by rw [hc, hi2])
      · have hb := cb_le (show i ≤ P by omega) h5.2
        have hp1 : 0 ≤ c * ((P : Int) - (i : Int)) := Int.mul_nonneg (by omega) (by omega)
        have hp2 := Int.mul_le_mul_of_nonneg_left (show (P : Int) - (i : Int) ≤ 37 by omega) (show 0 ≤ c by omega)
        refine wp_n 3 (pc' := 16) (L' := [(2, 103), (0, ((j : Nat) : Int)), (1, c), (9, 0), (0, ((i : Nat) : Int))]) (st' := [(0, (g 103 0)), (1, c)]) (g' := g) rfl ?_
        refine wp_eq (L' := [(2, 103), (0, ((j : Nat) : Int)), (1, c), (9, 0), (0, ((i : Nat) : Int))]) (st' := [(0, ((P : Nat) : Int)), (1, c)]) (g' := g) ?_ (by rfl) (by rw [hP]) (by rfl)
        refine wp_n 2 (pc' := 19) (L' := [(2, 103), (0, ((j : Nat) : Int)), (1, c), (9, 0), (0, ((i : Nat) : Int))]) (st' := [(0, (((P : Nat) : Int) - ((i : Nat) : Int))), (1, c)]) (g' := g) rfl ?_
        refine wp_i2l rfl (by omega) ?_
        refine wp_n 4 (pc' := 25) (L' := [(2, 103), (0, ((j : Nat) : Int)), (1, c), (9, 0), (0, ((i : Nat) : Int))]) (st' := [(0, (((i : Nat) : Int) + 1)), (1, (c * (((P : Nat) : Int) - ((i : Nat) : Int))))]) (g' := g) rfl ?_
        refine wp_i2l rfl (by omega) ?_
        refine wp_ldiv rfl (by omega) (by omega) (by omega) ?_
        refine wp_eq (L' := [(2, 103), (0, ((j : Nat) : Int)), (1, c), (9, 0), (0, ((i : Nat) : Int))]) (st' := [(1, ((c * (((P : Nat) : Int) - ((i : Nat) : Int))) / (((i : Nat) : Int) + 1)))]) (g' := g) ?_ (by rfl) (by rw [Int.tdiv_eq_ediv_of_nonneg hp1]) (by rfl)
        refine wp_n 3 (pc' := 5) (L' := [(2, 103), (0, ((j : Nat) : Int)), (1, ((c * (((P : Nat) : Int) - ((i : Nat) : Int))) / (((i : Nat) : Int) + 1))), (9, 0), (0, (((i : Nat) : Int) + 1))]) (st' := []) (g' := g) rfl ?_
        refine wp_eq (ih5 (i + 1) (((c * (((P : Nat) : Int) - ((i : Nat) : Int))) / (((i : Nat) : Int) + 1))) ?_ ?_ ?_) (by first | rfl | (simp; done) | (simp; omega)) (by rfl) (by rfl)
        · omega
        · omega
        · rw [hc]; exact cb_next (by omega)
  refine wp_eq (L5 (_ + 1) (0) (1) (Nat.lt_succ_self _) ?_ ?_) (by first | rfl | (simp; done) | (simp; omega)) (by rfl) (by rfl)
  · exact Nat.zero_le _
  · rw [cb_0]
set_option maxHeartbeats 400000 in
set_option maxRecDepth 20000 in
theorem m_setsOf {sn : Nat} {sx : Nat → Int} {b : Nat} {g : am_G} {P j : Nat} (hP : g 127 0 = (P : Int)) (h5 : 5 ≤ P ∧ P ≤ 37) (hj : j ≤ P) : Ev sn sx 1 218 [(2, 127), (0, ((j : Nat) : Int))] (SH b) g (fun r => r = (some (0, cb P j), SH b, g)) := by
  refine ev_of (K := 0) T218 (by decide) rfl rfl (Nat.le_of_ble_eq_true rfl) ?_
  refine wp_eq (L' := [(2, 127), (0, ((j : Nat) : Int)), (9, 0), (9, 0), (9, 0)]) (st' := []) (g' := g) ?_
  refine wp_n 4 (pc' := 5) (L' := [(2, 127), (0, ((j : Nat) : Int)), (1, 1), (9, 0), (0, 0)]) (st' := []) (g' := g) rfl ?_
  have L5 : ∀ (lf : Nat) (i : Nat) (c : Int), j - i < lf → (i ≤ j) → (c = cb P i) → Wp sn sx 0 T218 5 [(2, 127), (0, ((j : Nat) : Int)), (1, c), (9, 0), (0, ((i : Nat) : Int))] [] (SH b) g (fun r => r = (some (0, cb P j), SH b, g)) := by
    intro lf
    induction lf with
    | zero => intro i c hlf; exact absurd hlf (Nat.not_lt_zero _)
    | succ lf ih5 =>
      intro i c hlf hi hc
      refine wp_n 2 (pc' := 8) (L' := [(2, 127), (0, ((j : Nat) : Int)), (1, c), (9, 0), (0, ((i : Nat) : Int))]) (st' := [(0, ((j : Nat) : Int)), (0, ((i : Nat) : Int))]) (g' := g) rfl ?_
      refine wp_ic_ge rfl (fun c1 => ?_) (fun c1 => ?_)
      · have hi2 : i = j := by omega
        refine wp_n 2 (pc' := 36) (L' := [(2, 127), (0, ((j : Nat) : Int)), (1, c), (9, 0), (0, ((i : Nat) : Int))]) (st' := [(0, c)]) (g' := g) rfl ?_
        exact wp_ret rfl rfl rfl (by rw [hc, hi2])
      · have hb := cb_le (show i ≤ P by omega) h5.2
        have hp1 : 0 ≤ c * ((P : Int) - (i : Int)) := Int.mul_nonneg (by omega) (by omega)
        have hp2 := Int.mul_le_mul_of_nonneg_left (show (P : Int) - (i : Int) ≤ 37 by omega) (show 0 ≤ c by omega)
        refine wp_n 3 (pc' := 16) (L' := [(2, 127), (0, ((j : Nat) : Int)), (1, c), (9, 0), (0, ((i : Nat) : Int))]) (st' := [(0, (g 127 0)), (1, c)]) (g' := g) rfl ?_
        refine wp_eq (L' := [(2, 127), (0, ((j : Nat) : Int)), (1, c), (9, 0), (0, ((i : Nat) : Int))]) (st' := [(0, ((P : Nat) : Int)), (1, c)]) (g' := g) ?_ (by rfl) (by rw [hP]) (by rfl)
        refine wp_n 2 (pc' := 19) (L' := [(2, 127), (0, ((j : Nat) : Int)), (1, c), (9, 0), (0, ((i : Nat) : Int))]) (st' := [(0, (((P : Nat) : Int) - ((i : Nat) : Int))), (1, c)]) (g' := g) rfl ?_
        refine wp_i2l rfl (by omega) ?_
        refine wp_n 4 (pc' := 25) (L' := [(2, 127), (0, ((j : Nat) : Int)), (1, c), (9, 0), (0, ((i : Nat) : Int))]) (st' := [(0, (((i : Nat) : Int) + 1)), (1, (c * (((P : Nat) : Int) - ((i : Nat) : Int))))]) (g' := g) rfl ?_
        refine wp_i2l rfl (by omega) ?_
        refine wp_ldiv rfl (by omega) (by omega) (by omega) ?_
        refine wp_eq (L' := [(2, 127), (0, ((j : Nat) : Int)), (1, c), (9, 0), (0, ((i : Nat) : Int))]) (st' := [(1, ((c * (((P : Nat) : Int) - ((i : Nat) : Int))) / (((i : Nat) : Int) + 1)))]) (g' := g) ?_ (by rfl) (by rw [Int.tdiv_eq_ediv_of_nonneg hp1]) (by rfl)
        refine wp_n 3 (pc' := 5) (L' := [(2, 127), (0, ((j : Nat) : Int)), (1, ((c * (((P : Nat) : Int) - ((i : Nat) : Int))) / (((i : Nat) : Int) + 1))), (9, 0), (0, (((i : Nat) : Int) + 1))]) (st' := []) (g' := g) rfl ?_
        refine wp_eq (ih5 (i + 1) (((c * (((P : Nat) : Int) - ((i : Nat) : Int))) / (((i : Nat) : Int) + 1))) ?_ ?_ ?_) (by first | rfl | (simp; done) | (simp; omega)) (by rfl) (by rfl)
        · omega
        · omega
        · rw [hc]; exact cb_next (by omega)
  refine wp_eq (L5 (_ + 1) (0) (1) (Nat.lt_succ_self _) ?_ ?_) (by first | rfl | (simp; done) | (simp; omega)) (by rfl) (by rfl)
  · exact Nat.zero_le _
  · rw [cb_0]
