/-! the reference: likely -/
set_option maxHeartbeats 400000 in
set_option maxRecDepth 20000 in
theorem m_isLikely {sn : Nat} {sx : Nat → Int} {b : Nat} {g : am_G} {t u v : Nat} {q d : Int} (ht : t ≤ 60) (hq : 0 ≤ q ∧ q ≤ 1000) (hu : u ≤ v) (hv : v ≤ t + 1) (hd : 0 ≤ d ∧ d ≤ 1000000) : Ev sn sx 4 220 [(2, 127), (0, ((t : Nat) : Int)), (0, q), (0, ((u : Nat) : Int)), (0, ((v : Int) - 1)), (0, d)] (SH b) g (fun r => ∃ g', ((r = (some (0, 1), SH b, g') ∧ 1000 ^ t ≤ (ps (bt q (1000 - q) t) v - ps (bt q (1000 - q) t) u) * d) ∨ (r = (some (0, 0), SH b, g') ∧ ¬ 1000 ^ t ≤ (ps (bt q (1000 - q) t) v - ps (bt q (1000 - q) t) u) * d)) ∧ FrR 0 126 g g') := by
  refine ev_of (K := 3) T220 (by decide) rfl rfl (Nat.le_of_ble_eq_true rfl) ?_
  refine wp_eq (L' := [(2, 127), (0, ((t : Nat) : Int)), (0, q), (0, ((u : Nat) : Int)), (0, ((v : Int) - 1)), (0, d)]) (st' := []) (g' := g) ?_
  refine wp_n 4 (pc' := 6) (L' := [(2, 127), (0, ((t : Nat) : Int)), (0, q), (0, ((u : Nat) : Int)), (0, ((v : Int) - 1)), (0, d)]) (st' := [(0, 1000), (0, q), (0, ((t : Nat) : Int)), (2, 127)]) (g' := g) rfl ?_
  refine wp_cv (as := [(2, 127), (0, ((t : Nat) : Int)), (0, q), (0, 1000)]) (rest := []) rfl rfl rfl (Nat.le_of_ble_eq_true rfl) rfl (m_tryAll (t := t) (by omega) (by omega) (by omega)) (by decide) (fun r1 h2 => ?_)
  obtain ⟨g6, rfl, hR6, hF6⟩ := h2
  have hs0 := ps_mono (bt_nn (p := q) (q := 1000 - q) (by omega) (by omega) t) hu
  have hs1 := ps_le (p := q) (q := 1000 - q) (by omega) (by omega) t v
  have hs2 := ps_le (p := q) (q := 1000 - q) (by omega) (by omega) t u
  rw [show q + (1000 - q) = 1000 by omega] at hs1 hs2
  have hp0 := pow_2001 (x := 1000) (n := t) (by omega) (by omega) ht
  have hs3 := Int.mul_le_mul_of_nonneg_left hd.2 (show 0 ≤ ps (bt q (1000 - q) t) v - ps (bt q (1000 - q) t) u by omega)
  refine wp_eq (L' := [(2, 127), (0, ((t : Nat) : Int)), (0, q), (0, ((u : Nat) : Int)), (0, ((v : Int) - 1)), (0, d)]) (st' := []) (g' := g6) ?_
  refine wp_n 5 (pc' := 16) (L' := [(2, 127), (0, ((t : Nat) : Int)), (0, q), (0, ((u : Nat) : Int)), (0, ((v : Int) - 1)), (0, d)]) (st' := [(0, ((v : Int) - 1)), (0, ((u : Nat) : Int)), (0, 0), (0, 124), (2, 127)]) (g' := g6) rfl ?_
  refine wp_cv (as := [(2, 127), (0, 124), (0, 0), (0, ((u : Nat) : Int)), (0, ((v : Int) - 1))]) (rest := []) rfl rfl rfl (Nat.le_of_ble_eq_true rfl) rfl (m_sum (r := 124) (f := 0) (u := u) (v := v) (t := t) (by omega) (by omega) (by omega) (by omega) (by omega) (by omega) (by omega) (by omega) (by omega) hR6) (by decide) (fun r3 h4 => ?_)
  obtain ⟨g16, rfl, hR16, hF16⟩ := h4
  refine wp_eq (L' := [(2, 127), (0, ((t : Nat) : Int)), (0, q), (0, ((u : Nat) : Int)), (0, ((v : Int) - 1)), (0, d)]) (st' := []) (g' := g16) ?_
  refine wp_n 3 (pc' := 24) (L' := [(2, 127), (0, ((t : Nat) : Int)), (0, q), (0, ((u : Nat) : Int)), (0, ((v : Int) - 1)), (0, d)]) (st' := [(0, d), (0, 124), (2, 127)]) (g' := g16) rfl ?_
  refine wp_cv (as := [(2, 127), (0, 124), (0, d)]) (rest := []) rfl rfl rfl (Nat.le_of_ble_eq_true rfl) rfl (m_times (r := 124) (by omega) hR16 (by omega) (by omega)) (by decide) (fun r5 h6 => ?_)
  obtain ⟨g24, rfl, hR24, hF24⟩ := h6
  refine wp_eq (L' := [(2, 127), (0, ((t : Nat) : Int)), (0, q), (0, ((u : Nat) : Int)), (0, ((v : Int) - 1)), (0, d)]) (st' := []) (g' := g24) ?_
  refine wp_n 4 (pc' := 34) (L' := [(2, 127), (0, ((t : Nat) : Int)), (0, q), (0, ((u : Nat) : Int)), (0, ((v : Int) - 1)), (0, d)]) (st' := [(0, ((t : Nat) : Int)), (0, 1000), (0, 125), (2, 127)]) (g' := g24) rfl ?_
  refine wp_cv (as := [(2, 127), (0, 125), (0, 1000), (0, ((t : Nat) : Int))]) (rest := []) rfl rfl rfl (Nat.le_of_ble_eq_true rfl) rfl (m_power (r := 125) (n := t) (by omega) (by omega) (by omega) (Int.lt_of_le_of_lt hp0 (by omega))) (by decide) (fun r7 h8 => ?_)
  obtain ⟨g34, rfl, hR34, hF34⟩ := h8
  refine wp_eq (L' := [(2, 127), (0, ((t : Nat) : Int)), (0, q), (0, ((u : Nat) : Int)), (0, ((v : Int) - 1)), (0, d)]) (st' := []) (g' := g34) ?_
  refine wp_n 3 (pc' := 42) (L' := [(2, 127), (0, ((t : Nat) : Int)), (0, q), (0, ((u : Nat) : Int)), (0, ((v : Int) - 1)), (0, d)]) (st' := [(0, 125), (0, 124), (2, 127)]) (g' := g34) rfl ?_
  refine wp_cv (as := [(2, 127), (0, 124), (0, 125)]) (rest := []) rfl rfl rfl (Nat.le_of_ble_eq_true rfl) rfl (m_compare (r := 124) (s := 125) (by omega) (by omega) (hR24.fr hF34 (by omega)) hR34) (by decide) (fun r9 h10 => ?_)
  obtain ⟨c42, rfl, hc42⟩ := h10
  have hcc : (c42 = -1 ∧ (ps (bt q (1000 - q) t) v - ps (bt q (1000 - q) t) u) * d < 1000 ^ t) ∨ ((c42 = 0 ∨ c42 = 1) ∧ 1000 ^ t ≤ (ps (bt q (1000 - q) t) v - ps (bt q (1000 - q) t) u) * d) := by omega
  refine wp_eq (L' := [(2, 127), (0, ((t : Nat) : Int)), (0, q), (0, ((u : Nat) : Int)), (0, ((v : Int) - 1)), (0, d)]) (st' := [(0, c42)]) (g' := g34) ?_
  refine wp_if_lt rfl (fun c11 => ?_) (fun c11 => ?_)
  · refine wp_n 1 (pc' := 53) (L' := [(2, 127), (0, ((t : Nat) : Int)), (0, q), (0, ((u : Nat) : Int)), (0, ((v : Int) - 1)), (0, d)]) (st' := [(0, 0)]) (g' := g34) rfl ?_
    exact wp_ret rfl rfl rfl ⟨_, Or.inr ⟨rfl, by omega⟩, (((hF6.wide (by omega) (by omega)).m hF16 (by omega) (by omega)).m hF24 (by omega) (by omega)).m hF34 (by omega) (by omega)⟩
  · refine wp_n 2 (pc' := 53) (L' := [(2, 127), (0, ((t : Nat) : Int)), (0, q), (0, ((u : Nat) : Int)), (0, ((v : Int) - 1)), (0, d)]) (st' := [(0, 1)]) (g' := g34) rfl ?_
    exact wp_ret rfl rfl rfl ⟨_, Or.inl ⟨rfl, by omega⟩, (((hF6.wide (by omega) (by omega)).m hF16 (by omega) (by omega)).m hF24 (by omega) (by omega)).m hF34 (by omega) (by omega)⟩
