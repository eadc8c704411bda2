/-! THE REFERENCE: tail -/
theorem BT.fr {f : Nat} {p q : Int} {t r : Nat} {g h : am_G} (H : BT g f p q t) (hF : FrM r g h) (hr : r < f ∨ f + t < r) : BT h f p q t := fun k hk => (H k hk).fr hF (by omega)
set_option maxHeartbeats 400000 in
set_option maxRecDepth 20000 in
theorem m_tail {sn : Nat} {sx : Nat → Int} {b : Nat} {g : am_G} {t k P : Nat} {j : Int} (hP : g 127 0 = (P : Int)) (hPb : 5 ≤ P ∧ P ≤ 37) (ht : t ≤ 60) (hk : k ≤ t) (hj : 0 ≤ j ∧ j ≤ P) : Ev sn sx 4 215 [(2, 127), (0, ((t : Nat) : Int)), (0, ((k : Nat) : Int)), (0, j)] (SH b) g (fun x => ∃ g', x = (none, SH b, g') ∧ MR g' 124 (tl j ((P : Int) - j) t k) ∧ MR g' 125 ((P : Int) ^ t) ∧ FrR 0 126 g g') := by
  refine ev_of (K := 3) T215 (by decide) rfl rfl (Nat.le_of_ble_eq_true rfl) ?_
  refine wp_eq (L' := [(2, 127), (0, ((t : Nat) : Int)), (0, ((k : Nat) : Int)), (0, j)]) (st' := []) (g' := g) ?_
  refine wp_n 5 (pc' := 7) (L' := [(2, 127), (0, ((t : Nat) : Int)), (0, ((k : Nat) : Int)), (0, j)]) (st' := [(0, (g 127 0)), (0, j), (0, ((t : Nat) : Int)), (2, 127)]) (g' := g) rfl ?_
  refine wp_eq (L' := [(2, 127), (0, ((t : Nat) : Int)), (0, ((k : Nat) : Int)), (0, j)]) (st' := [(0, ((P : Nat) : Int)), (0, j), (0, ((t : Nat) : Int)), (2, 127)]) (g' := g) ?_ (by rfl) (by rw [hP]) (by rfl)
  refine wp_cv (as := [(2, 127), (0, ((t : Nat) : Int)), (0, j), (0, ((P : Nat) : Int))]) (rest := []) rfl rfl rfl (Nat.le_of_ble_eq_true rfl) rfl (m_tryAll (t := t) (by omega) (by omega) (by omega)) (by decide) (fun r1 h2 => ?_)
  obtain ⟨g7, rfl, hR7, hF7⟩ := h2
  have hP7 : g7 127 0 = (P : Int) := by rw [hF7 127 0 (fun e => absurd e (by decide))]; exact hP
  refine wp_eq (L' := [(2, 127), (0, ((t : Nat) : Int)), (0, ((k : Nat) : Int)), (0, j)]) (st' := []) (g' := g7) ?_
  refine wp_n 5 (pc' := 16) (L' := [(2, 127), (0, ((t : Nat) : Int)), (0, ((k : Nat) : Int)), (0, j)]) (st' := [(0, ((t : Nat) : Int)), (0, ((k : Nat) : Int)), (0, 0), (0, 124), (2, 127)]) (g' := g7) rfl ?_
  refine wp_eq (L' := [(2, 127), (0, ((t : Nat) : Int)), (0, ((k : Nat) : Int)), (0, j)]) (st' := [(0, (((t + 1 : Nat) : Int) - 1)), (0, ((k : Nat) : Int)), (0, 0), (0, 124), (2, 127)]) (g' := g7) ?_ (by rfl) (by rw [show (((t + 1 : Nat) : Int) - 1) = ((t : Nat) : Int) by omega]) (by rfl)
  refine wp_cv (as := [(2, 127), (0, 124), (0, 0), (0, ((k : Nat) : Int)), (0, (((t + 1 : Nat) : Int) - 1))]) (rest := []) rfl rfl rfl (Nat.le_of_ble_eq_true rfl) rfl (m_sum (r := 124) (f := 0) (u := k) (v := t + 1) (t := t) (by omega) (by omega) (by omega) (by omega) (by omega) (by omega) (by omega) (by omega) (by omega) hR7) (by decide) (fun r3 h4 => ?_)
  obtain ⟨g16, rfl, hR16, hF16⟩ := h4
  refine wp_eq (L' := [(2, 127), (0, ((t : Nat) : Int)), (0, ((k : Nat) : Int)), (0, j)]) (st' := []) (g' := g16) ?_
  refine wp_n 4 (pc' := 26) (L' := [(2, 127), (0, ((t : Nat) : Int)), (0, ((k : Nat) : Int)), (0, j)]) (st' := [(0, (g16 127 0)), (0, 125), (2, 127)]) (g' := g16) rfl ?_
  refine wp_eq (L' := [(2, 127), (0, ((t : Nat) : Int)), (0, ((k : Nat) : Int)), (0, j)]) (st' := [(0, ((P : Nat) : Int)), (0, 125), (2, 127)]) (g' := g16) ?_ (by rfl) (by rw [show g16 127 0 = g7 127 0 from hF16 127 0 (fun e => absurd e (by decide)), hP7]) (by rfl)
  refine wp_n 1 (pc' := 27) (L' := [(2, 127), (0, ((t : Nat) : Int)), (0, ((k : Nat) : Int)), (0, j)]) (st' := [(0, ((t : Nat) : Int)), (0, ((P : Nat) : Int)), (0, 125), (2, 127)]) (g' := g16) rfl ?_
  refine wp_cv (as := [(2, 127), (0, 125), (0, ((P : Nat) : Int)), (0, ((t : Nat) : Int))]) (rest := []) rfl rfl rfl (Nat.le_of_ble_eq_true rfl) rfl (m_power (r := 125) (n := t) (by omega) (by omega) (by omega) (Int.lt_of_le_of_lt (pow_2001 (by omega) (by omega) ht) (by omega))) (by decide) (fun r5 h6 => ?_)
  obtain ⟨g27, rfl, hR27, hF27⟩ := h6
  refine wp_eq (L' := [(2, 127), (0, ((t : Nat) : Int)), (0, ((k : Nat) : Int)), (0, j)]) (st' := []) (g' := g27) ?_
  exact wp_ret rfl rfl rfl ⟨_, rfl, hR16.fr hF27 (by omega), hR27, ((hF7.wide (by omega) (by omega)).m hF16 (by omega) (by omega)).m hF27 (by omega) (by omega)⟩
