/-! the class: likely, rare, sure -/
set_option maxHeartbeats 400000 in
set_option maxRecDepth 20000 in
theorem e_isLikely {sn : Nat} {sx : Nat → Int} {b : Nat} {g : am_G} {n k : Nat} {q d w : Int} (hn : n ≤ 60) (hk : k ≤ n) (hq : 0 ≤ q ∧ q ≤ 1000) (hd : 0 ≤ d ∧ d ≤ 1000000) (hL1 : BigL g 104) (hL2 : BigL g 106) (hW : BigR g 108 w) : Ev sn sx 4 29 [(2, 103), (0, ((n : Nat) : Int)), (0, ((k : Nat) : Int)), (0, q), (0, d)] (SH b) g (fun r => ∃ g', ((r = (some (0, 1), SH b, g') ∧ w ≤ tl q (1000 - q) n k * d) ∨ (r = (some (0, 0), SH b, g') ∧ ¬ w ≤ tl q (1000 - q) n k * d)) ∧ BigL g' 104 ∧ BigL g' 106 ∧ FrC 104 106 g g') := by
  refine ev_of (K := 3) T29 (by decide) rfl rfl (Nat.le_of_ble_eq_true rfl) ?_
  refine wp_eq (L' := [(2, 103), (0, ((n : Nat) : Int)), (0, ((k : Nat) : Int)), (0, q), (0, d)]) (st' := []) (g' := g) ?_
  refine wp_n 7 (pc' := 9) (L' := [(2, 103), (0, ((n : Nat) : Int)), (0, ((k : Nat) : Int)), (0, q), (0, d)]) (st' := [(0, (1000 - q)), (0, q), (0, ((k : Nat) : Int)), (0, ((n : Nat) : Int)), (2, 103)]) (g' := g) rfl ?_
  refine wp_cv (as := [(2, 103), (0, ((n : Nat) : Int)), (0, ((k : Nat) : Int)), (0, q), (0, (1000 - q))]) (rest := []) rfl rfl rfl (Nat.le_of_ble_eq_true rfl) rfl (e_addUp (n := n) (k := k) (by omega) (by omega) (by omega) (by omega) hL1 hL2) (by decide) (fun r1 h2 => ?_)
  obtain ⟨g9, rfl, hR9, hL9, hF9⟩ := h2
  have ht0 := tl_in (p := q) (q := 1000 - q) (t := n) (k := k) (by omega) (by omega) (by omega)
  rw [show q + (1000 - q) = 1000 by omega] at ht0
  have hp0 := pow_2001 (x := 1000) (n := n) (by omega) (by omega) hn
  have ht1 := Int.mul_le_mul_of_nonneg_left hd.2 ht0.1
  refine wp_eq (L' := [(2, 103), (0, ((n : Nat) : Int)), (0, ((k : Nat) : Int)), (0, q), (0, d)]) (st' := []) (g' := g9) ?_
  refine wp_n 3 (pc' := 18) (L' := [(2, 103), (0, ((n : Nat) : Int)), (0, ((k : Nat) : Int)), (0, q), (0, d)]) (st' := [(0, d), (2, 104)]) (g' := g9) rfl ?_
  refine wp_cv (as := [(2, 104), (0, d)]) (rest := []) rfl rfl rfl (Nat.le_of_ble_eq_true rfl) rfl (e_times (k := 104) (⟨rfl, rfl⟩ : IsBig b 104) hR9 (by omega) (by omega)) (by decide) (fun r3 h4 => ?_)
  obtain ⟨g18, rfl, hR18, hF18⟩ := h4
  refine wp_eq (L' := [(2, 103), (0, ((n : Nat) : Int)), (0, ((k : Nat) : Int)), (0, q), (0, d)]) (st' := []) (g' := g18) ?_
  refine wp_n 4 (pc' := 29) (L' := [(2, 103), (0, ((n : Nat) : Int)), (0, ((k : Nat) : Int)), (0, q), (0, d)]) (st' := [(2, 108), (2, 104)]) (g' := g18) rfl ?_
  refine wp_cv (as := [(2, 104), (2, 108)]) (rest := []) rfl rfl rfl (Nat.le_of_ble_eq_true rfl) rfl (e_reaches (k := 104) (⟨rfl, rfl⟩ : IsBig b 104) (a := 108) (⟨rfl, rfl⟩ : IsBig b 108) hR18 ((hW.frc hF9 (by omega) (by omega)).fr' hF18 (by omega))) (by decide) (fun r5 h6 => ?_)
  rcases h6 with ⟨rfl, p29⟩ | ⟨rfl, p29⟩
  · refine wp_eq (L' := [(2, 103), (0, ((n : Nat) : Int)), (0, ((k : Nat) : Int)), (0, q), (0, d)]) (st' := [(0, 1)]) (g' := g18) ?_
    exact wp_ret rfl rfl rfl ⟨_, Or.inl ⟨rfl, p29⟩, hR18.L, hL9.fr hF18 (by omega), fun c i n1 n2 n3 n4 => by rw [hF18 c i n1 n2, hF9 c i n1 n2 n3 n4]⟩
  · refine wp_eq (L' := [(2, 103), (0, ((n : Nat) : Int)), (0, ((k : Nat) : Int)), (0, q), (0, d)]) (st' := [(0, 0)]) (g' := g18) ?_
    exact wp_ret rfl rfl rfl ⟨_, Or.inr ⟨rfl, p29⟩, hR18.L, hL9.fr hF18 (by omega), fun c i n1 n2 n3 n4 => by rw [hF18 c i n1 n2, hF9 c i n1 n2 n3 n4]⟩
set_option maxHeartbeats 400000 in
set_option maxRecDepth 20000 in
theorem e_isRare {sn : Nat} {sx : Nat → Int} {b : Nat} {g : am_G} {n k P : Nat} {d w : Int} (hP : g 103 0 = (P : Int)) (h5 : 5 ≤ P ∧ P ≤ 37) (hn : n ≤ 60) (hk : k ≤ n) (hd : 0 ≤ d ∧ d ≤ 1000000) (hL1 : BigL g 104) (hL2 : BigL g 106) (hW : BigR g 108 w) : Ev sn sx 4 31 [(2, 103), (0, ((n : Nat) : Int)), (0, ((k : Nat) : Int)), (0, d)] (SH b) g (fun r => ∃ g', ((r = (some (0, 1), SH b, g') ∧ tl 1 ((P : Int) - 1) n k * d ≤ w) ∨ (r = (some (0, 0), SH b, g') ∧ ¬ tl 1 ((P : Int) - 1) n k * d ≤ w)) ∧ BigL g' 104 ∧ BigL g' 106 ∧ FrC 104 106 g g') := by
  refine ev_of (K := 3) T31 (by decide) rfl rfl (Nat.le_of_ble_eq_true rfl) ?_
  refine wp_eq (L' := [(2, 103), (0, ((n : Nat) : Int)), (0, ((k : Nat) : Int)), (0, d)]) (st' := []) (g' := g) ?_
  refine wp_n 6 (pc' := 8) (L' := [(2, 103), (0, ((n : Nat) : Int)), (0, ((k : Nat) : Int)), (0, d)]) (st' := [(0, (g 103 0)), (0, 1), (0, ((k : Nat) : Int)), (0, ((n : Nat) : Int)), (2, 103)]) (g' := g) rfl ?_
  refine wp_eq (L' := [(2, 103), (0, ((n : Nat) : Int)), (0, ((k : Nat) : Int)), (0, d)]) (st' := [(0, ((P : Nat) : Int)), (0, 1), (0, ((k : Nat) : Int)), (0, ((n : Nat) : Int)), (2, 103)]) (g' := g) ?_ (by rfl) (by rw [hP]) (by rfl)
  refine wp_n 2 (pc' := 10) (L' := [(2, 103), (0, ((n : Nat) : Int)), (0, ((k : Nat) : Int)), (0, d)]) (st' := [(0, (((P : Nat) : Int) - 1)), (0, 1), (0, ((k : Nat) : Int)), (0, ((n : Nat) : Int)), (2, 103)]) (g' := g) rfl ?_
  refine wp_cv (as := [(2, 103), (0, ((n : Nat) : Int)), (0, ((k : Nat) : Int)), (0, 1), (0, (((P : Nat) : Int) - 1))]) (rest := []) rfl rfl rfl (Nat.le_of_ble_eq_true rfl) rfl (e_addUp (n := n) (k := k) (by omega) (by omega) (by omega) (by omega) hL1 hL2) (by decide) (fun r1 h2 => ?_)
  obtain ⟨g10, rfl, hR10, hL10, hF10⟩ := h2
  have ht0 := tl_in (p := 1) (q := (P : Int) - 1) (t := n) (k := k) (by omega) (by omega) (by omega)
  rw [show 1 + ((P : Int) - 1) = (P : Int) by omega] at ht0
  have hp0 := pow_2001 (x := (P : Int)) (n := n) (by omega) (by omega) hn
  have ht1 := Int.mul_le_mul_of_nonneg_left hd.2 ht0.1
  refine wp_eq (L' := [(2, 103), (0, ((n : Nat) : Int)), (0, ((k : Nat) : Int)), (0, d)]) (st' := []) (g' := g10) ?_
  refine wp_n 3 (pc' := 18) (L' := [(2, 103), (0, ((n : Nat) : Int)), (0, ((k : Nat) : Int)), (0, d)]) (st' := [(0, d), (2, 104)]) (g' := g10) rfl ?_
  refine wp_cv (as := [(2, 104), (0, d)]) (rest := []) rfl rfl rfl (Nat.le_of_ble_eq_true rfl) rfl (e_times (k := 104) (⟨rfl, rfl⟩ : IsBig b 104) hR10 (by omega) (by omega)) (by decide) (fun r3 h4 => ?_)
  obtain ⟨g18, rfl, hR18, hF18⟩ := h4
  refine wp_eq (L' := [(2, 103), (0, ((n : Nat) : Int)), (0, ((k : Nat) : Int)), (0, d)]) (st' := []) (g' := g18) ?_
  refine wp_n 4 (pc' := 29) (L' := [(2, 103), (0, ((n : Nat) : Int)), (0, ((k : Nat) : Int)), (0, d)]) (st' := [(2, 104), (2, 108)]) (g' := g18) rfl ?_
  refine wp_cv (as := [(2, 108), (2, 104)]) (rest := []) rfl rfl rfl (Nat.le_of_ble_eq_true rfl) rfl (e_reaches (k := 108) (⟨rfl, rfl⟩ : IsBig b 108) (a := 104) (⟨rfl, rfl⟩ : IsBig b 104) ((hW.frc hF10 (by omega) (by omega)).fr' hF18 (by omega)) hR18) (by decide) (fun r5 h6 => ?_)
  rcases h6 with ⟨rfl, p29⟩ | ⟨rfl, p29⟩
  · refine wp_eq (L' := [(2, 103), (0, ((n : Nat) : Int)), (0, ((k : Nat) : Int)), (0, d)]) (st' := [(0, 1)]) (g' := g18) ?_
    exact wp_ret rfl rfl rfl ⟨_, Or.inl ⟨rfl, p29⟩, hR18.L, hL10.fr hF18 (by omega), fun c i n1 n2 n3 n4 => by rw [hF18 c i n1 n2, hF10 c i n1 n2 n3 n4]⟩
  · refine wp_eq (L' := [(2, 103), (0, ((n : Nat) : Int)), (0, ((k : Nat) : Int)), (0, d)]) (st' := [(0, 0)]) (g' := g18) ?_
    exact wp_ret rfl rfl rfl ⟨_, Or.inr ⟨rfl, p29⟩, hR18.L, hL10.fr hF18 (by omega), fun c i n1 n2 n3 n4 => by rw [hF18 c i n1 n2, hF10 c i n1 n2 n3 n4]⟩
