/-! the class: sure -/
set_option maxHeartbeats 400000 in
set_option maxRecDepth 20000 in
theorem e_isSure {sn : Nat} {sx : Nat → Int} {b : Nat} {g : am_G} {n k : Nat} {q s w : Int} (hn : n ≤ 60) (hk : k ≤ n) (hq : 0 ≤ q ∧ q ≤ 1000) (hs : 0 ≤ s ∧ s ≤ 1000) (hL1 : BigL g 104) (hL2 : BigL g 106) (hL3 : BigL g 112) (hW : BigR g 110 w) (hw : w ≤ 2001 ^ 60) : Ev sn sx 4 32 [(2, 103), (0, ((n : Nat) : Int)), (0, ((k : Nat) : Int)), (0, q), (0, s)] (SH b) g (fun r => ∃ g', ((r = (some (0, 1), SH b, g') ∧ w * s ≤ tl q (1000 - q) n k * 1000) ∨ (r = (some (0, 0), SH b, g') ∧ ¬ w * s ≤ tl q (1000 - q) n k * 1000)) ∧ BigL g' 104 ∧ BigL g' 106 ∧ BigL g' 112 ∧ (∀ c j, c ≠ 104 → c ≠ 105 → c ≠ 106 → c ≠ 107 → c ≠ 112 → c ≠ 113 → g' c j = g c j)) := by
  refine ev_of (K := 3) T32 (by decide) rfl rfl (Nat.le_of_ble_eq_true rfl) ?_
  refine wp_eq (L' := [(2, 103), (0, ((n : Nat) : Int)), (0, ((k : Nat) : Int)), (0, q), (0, s)]) (st' := []) (g' := g) ?_
  refine wp_n 7 (pc' := 9) (L' := [(2, 103), (0, ((n : Nat) : Int)), (0, ((k : Nat) : Int)), (0, q), (0, s)]) (st' := [(0, (1000 - q)), (0, q), (0, ((k : Nat) : Int)), (0, ((n : Nat) : Int)), (2, 103)]) (g' := g) rfl ?_
  refine wp_cv (as := [(2, 103), (0, ((n : Nat) : Int)), (0, ((k : Nat) : Int)), (0, q), (0, (1000 - q))]) (rest := []) rfl rfl rfl (Nat.le_of_ble_eq_true rfl) rfl (e_addUp (n := n) (k := k) (by omega) (by omega) (by omega) (by omega) hL1 hL2) (by decide) (fun r1 h2 => ?_)
  obtain ⟨g9, rfl, hR9, hL9, hF9⟩ := h2
  have ht0 := tl_in (p := q) (q := 1000 - q) (t := n) (k := k) (by omega) (by omega) (by omega)
  rw [show q + (1000 - q) = 1000 by omega] at ht0
  have hp0 := pow_2001 (x := 1000) (n := n) (by omega) (by omega) hn
  have hW9 := hW.frc hF9 (by omega) (by omega)
  have hws := Int.mul_le_mul_of_nonneg_left hs.2 hW.nn
  refine wp_eq (L' := [(2, 103), (0, ((n : Nat) : Int)), (0, ((k : Nat) : Int)), (0, q), (0, s)]) (st' := []) (g' := g9) ?_
  refine wp_n 3 (pc' := 19) (L' := [(2, 103), (0, ((n : Nat) : Int)), (0, ((k : Nat) : Int)), (0, q), (0, s)]) (st' := [(0, 1000), (2, 104)]) (g' := g9) rfl ?_
  refine wp_cv (as := [(2, 104), (0, 1000)]) (rest := []) rfl rfl rfl (Nat.le_of_ble_eq_true rfl) rfl (e_times (k := 104) (⟨rfl, rfl⟩ : IsBig b 104) hR9 (by omega) (by omega)) (by decide) (fun r3 h4 => ?_)
  obtain ⟨g19, rfl, hR19, hF19⟩ := h4
  have hW19 := hW9.fr' hF19 (by omega)
  have hL19 := (hL3.frc hF9 (by omega) (by omega)).fr hF19 (by omega)
  refine wp_eq (L' := [(2, 103), (0, ((n : Nat) : Int)), (0, ((k : Nat) : Int)), (0, q), (0, s)]) (st' := []) (g' := g19) ?_
  refine wp_n 4 (pc' := 30) (L' := [(2, 103), (0, ((n : Nat) : Int)), (0, ((k : Nat) : Int)), (0, q), (0, s)]) (st' := [(2, 110), (2, 112)]) (g' := g19) rfl ?_
  refine wp_cv (as := [(2, 112), (2, 110)]) (rest := []) rfl rfl rfl (Nat.le_of_ble_eq_true rfl) rfl (e_setb (k := 112) (⟨rfl, rfl⟩ : IsBig b 112) (a := 110) (⟨rfl, rfl⟩ : IsBig b 110) hL19 hW19 (by omega)) (by decide) (fun r5 h6 => ?_)
  obtain ⟨g30, rfl, hR30, hF30⟩ := h6
  refine wp_eq (L' := [(2, 103), (0, ((n : Nat) : Int)), (0, ((k : Nat) : Int)), (0, q), (0, s)]) (st' := []) (g' := g30) ?_
  refine wp_n 3 (pc' := 39) (L' := [(2, 103), (0, ((n : Nat) : Int)), (0, ((k : Nat) : Int)), (0, q), (0, s)]) (st' := [(0, s), (2, 112)]) (g' := g30) rfl ?_
  refine wp_cv (as := [(2, 112), (0, s)]) (rest := []) rfl rfl rfl (Nat.le_of_ble_eq_true rfl) rfl (e_times (k := 112) (⟨rfl, rfl⟩ : IsBig b 112) hR30 (by omega) (by omega)) (by decide) (fun r7 h8 => ?_)
  obtain ⟨g39, rfl, hR39, hF39⟩ := h8
  refine wp_eq (L' := [(2, 103), (0, ((n : Nat) : Int)), (0, ((k : Nat) : Int)), (0, q), (0, s)]) (st' := []) (g' := g39) ?_
  refine wp_n 4 (pc' := 50) (L' := [(2, 103), (0, ((n : Nat) : Int)), (0, ((k : Nat) : Int)), (0, q), (0, s)]) (st' := [(2, 112), (2, 104)]) (g' := g39) rfl ?_
  refine wp_cv (as := [(2, 104), (2, 112)]) (rest := []) rfl rfl rfl (Nat.le_of_ble_eq_true rfl) rfl (e_reaches (k := 104) (⟨rfl, rfl⟩ : IsBig b 104) (a := 112) (⟨rfl, rfl⟩ : IsBig b 112) ((hR19.fr' hF30 (by omega)).fr' hF39 (by omega)) hR39) (by decide) (fun r9 h10 => ?_)
  rcases h10 with ⟨rfl, p50⟩ | ⟨rfl, p50⟩
  · refine wp_eq (L' := [(2, 103), (0, ((n : Nat) : Int)), (0, ((k : Nat) : Int)), (0, q), (0, s)]) (st' := [(0, 1)]) (g' := g39) ?_
    exact wp_ret rfl rfl rfl ⟨_, Or.inl ⟨rfl, p50⟩, ((hR19.fr' hF30 (by omega)).fr' hF39 (by omega)).L, ((hL9.fr hF19 (by omega)).fr hF30 (by omega)).fr hF39 (by omega), hR39.L, fun c i n1 n2 n3 n4 n5 n6 => by rw [hF39 c i n5 n6, hF30 c i n5 n6, hF19 c i n1 n2, hF9 c i n1 n2 n3 n4]⟩
  · refine wp_eq (L' := [(2, 103), (0, ((n : Nat) : Int)), (0, ((k : Nat) : Int)), (0, q), (0, s)]) (st' := [(0, 0)]) (g' := g39) ?_
    exact wp_ret rfl rfl rfl ⟨_, Or.inr ⟨rfl, p50⟩, ((hR19.fr' hF30 (by omega)).fr' hF39 (by omega)).L, ((hL9.fr hF19 (by omega)).fr hF30 (by omega)).fr hF39 (by omega), hR39.L, fun c i n1 n2 n3 n4 n5 n6 => by rw [hF39 c i n5 n6, hF30 c i n5 n6, hF19 c i n1 n2, hF9 c i n1 n2 n3 n4]⟩
