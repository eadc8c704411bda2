/-! THE CLASS: even odds -/
/-- the chances' numbers are whole -/
def CLs (g : am_G) : Prop := BigL g 104 ∧ BigL g 106 ∧ BigL g 108 ∧ BigL g 110 ∧ BigL g 112 ∧ BigL g 114 ∧ BigL g 116 ∧ BigL g 118
/-- nothing but the chances' numbers may have changed -/
def FrH (g h : am_G) : Prop := ∀ c j, (c < 104 ∨ 119 < c) → h c j = g c j
theorem BigL.frc {k r : Nat} {g g' : am_G} {a : Nat} (h : BigL g a) (hf : FrC k r g g') (h1 : Dj k a) (h2 : Dj r a) : BigL g' a := by
  intro j hj
  rw [hf (a + 1) j h1.2.2 (by omega) h2.2.2 (by omega)]
  exact h j hj
set_option maxHeartbeats 400000 in
set_option maxRecDepth 20000 in
theorem e_even {sn : Nat} {sx : Nat → Int} {b : Nat} {g : am_G} {n k P : Nat} {j m : Int} (hP : g 103 0 = (P : Int)) (h5 : 5 ≤ P ∧ P ≤ 37) (hn : n ≤ 60) (hk : k ≤ n) (hj : 0 ≤ j ∧ j ≤ P) (hm : 0 ≤ m ∧ m < 2147483648) (hL : CLs g) : Ev sn sx 5 27 [(2, 103), (0, ((n : Nat) : Int)), (0, ((k : Nat) : Int)), (0, j), (0, m)] (SH b) g (fun x => ∃ g' q, x = (some (0, q), SH b, g') ∧ IsShare (tl j ((P : Int) - j) n k * m) 1000000 ((P : Int) ^ n) q ∧ CLs g' ∧ FrH g g') := by
  refine ev_of (K := 4) T27 (by decide) rfl rfl (Nat.le_of_ble_eq_true rfl) ?_
  refine wp_eq (L' := [(2, 103), (0, ((n : Nat) : Int)), (0, ((k : Nat) : Int)), (0, j), (0, m)]) (st' := []) (g' := g) ?_
  refine wp_n 6 (pc' := 8) (L' := [(2, 103), (0, ((n : Nat) : Int)), (0, ((k : Nat) : Int)), (0, j), (0, m)]) (st' := [(0, (g 103 0)), (0, j), (0, ((k : Nat) : Int)), (0, ((n : Nat) : Int)), (2, 103)]) (g' := g) rfl ?_
  refine wp_eq (L' := [(2, 103), (0, ((n : Nat) : Int)), (0, ((k : Nat) : Int)), (0, j), (0, m)]) (st' := [(0, ((P : Nat) : Int)), (0, j), (0, ((k : Nat) : Int)), (0, ((n : Nat) : Int)), (2, 103)]) (g' := g) ?_ (by rfl) (by rw [hP]) (by rfl)
  refine wp_n 2 (pc' := 10) (L' := [(2, 103), (0, ((n : Nat) : Int)), (0, ((k : Nat) : Int)), (0, j), (0, m)]) (st' := [(0, (((P : Nat) : Int) - j)), (0, j), (0, ((k : Nat) : Int)), (0, ((n : Nat) : Int)), (2, 103)]) (g' := g) rfl ?_
  refine wp_cv (as := [(2, 103), (0, ((n : Nat) : Int)), (0, ((k : Nat) : Int)), (0, j), (0, (((P : Nat) : Int) - j))]) (rest := []) rfl rfl rfl (Nat.le_of_ble_eq_true rfl) rfl (e_addUp (n := n) (k := k) (by omega) (by omega) (by omega) (by omega) hL.1 hL.2.1) (by decide) (fun r1 h2 => ?_)
  obtain ⟨g10, rfl, hR10, hL10, hF10⟩ := h2
  have ht0 := tl_in (p := j) (q := (P : Int) - j) (t := n) (k := k) (by omega) (by omega) (by omega)
  rw [show j + ((P : Int) - j) = (P : Int) by omega] at ht0
  have hp0 := pow_2001 (x := (P : Int)) (n := n) (by omega) (by omega) hn
  have ht1 := Int.mul_le_mul_of_nonneg_left (show m ≤ 2147483647 by omega) ht0.1
  refine wp_eq (L' := [(2, 103), (0, ((n : Nat) : Int)), (0, ((k : Nat) : Int)), (0, j), (0, m)]) (st' := []) (g' := g10) ?_
  refine wp_n 3 (pc' := 19) (L' := [(2, 103), (0, ((n : Nat) : Int)), (0, ((k : Nat) : Int)), (0, j), (0, m)]) (st' := [(0, m), (2, 104)]) (g' := g10) rfl ?_
  refine wp_cv (as := [(2, 104), (0, m)]) (rest := []) rfl rfl rfl (Nat.le_of_ble_eq_true rfl) rfl (e_times (k := 104) (⟨rfl, rfl⟩ : IsBig b 104) hR10 (by omega) (by omega)) (by decide) (fun r3 h4 => ?_)
  obtain ⟨g19, rfl, hR19, hF19⟩ := h4
  have hP19 : g19 103 0 = (P : Int) := by rw [hF19 _ _ (by decide) (by decide), hF10 _ _ (by decide) (by decide) (by decide) (by decide)]; exact hP
  refine wp_eq (L' := [(2, 103), (0, ((n : Nat) : Int)), (0, ((k : Nat) : Int)), (0, j), (0, m)]) (st' := []) (g' := g19) ?_
  refine wp_n 4 (pc' := 30) (L' := [(2, 103), (0, ((n : Nat) : Int)), (0, ((k : Nat) : Int)), (0, j), (0, m)]) (st' := [(0, (g19 103 0)), (2, 108)]) (g' := g19) rfl ?_
  refine wp_eq (L' := [(2, 103), (0, ((n : Nat) : Int)), (0, ((k : Nat) : Int)), (0, j), (0, m)]) (st' := [(0, ((P : Nat) : Int)), (2, 108)]) (g' := g19) ?_ (by rfl) (by rw [hP19]) (by rfl)
  refine wp_n 1 (pc' := 31) (L' := [(2, 103), (0, ((n : Nat) : Int)), (0, ((k : Nat) : Int)), (0, j), (0, m)]) (st' := [(0, ((n : Nat) : Int)), (0, ((P : Nat) : Int)), (2, 108)]) (g' := g19) rfl ?_
  refine wp_cs (as := [(2, 108), (0, ((P : Nat) : Int)), (0, ((n : Nat) : Int))]) (rest := []) rfl (by decide) rfl (Nat.le_of_ble_eq_true rfl) (e_raise (k := 108) (⟨rfl, rfl⟩ : IsBig b 108) (n := n) ((hL.2.2.1.frc hF10 (by omega) (by omega)).fr hF19 (by omega)) (by omega) (by omega) (by omega)) (by decide) (fun r5 h6 => ?_)
  obtain ⟨g31, rfl, hR31, hF31⟩ := h6
  have hw0 := hR31.nn
  refine wp_eq (L' := [(2, 103), (0, ((n : Nat) : Int)), (0, ((k : Nat) : Int)), (0, j), (0, m)]) (st' := []) (g' := g31) ?_
  refine wp_n 7 (pc' := 48) (L' := [(2, 103), (0, ((n : Nat) : Int)), (0, ((k : Nat) : Int)), (0, j), (0, m)]) (st' := [(2, 112), (0, 1000000), (2, 108), (2, 104)]) (g' := g31) rfl ?_
  refine wp_cv (as := [(2, 104), (2, 108), (0, 1000000), (2, 112)]) (rest := []) rfl rfl rfl (Nat.le_of_ble_eq_true rfl) rfl (e_share (k := 104) (⟨rfl, rfl⟩ : IsBig b 104) (a := 108) (⟨rfl, rfl⟩ : IsBig b 108) (r := 112) (⟨rfl, rfl⟩ : IsBig b 112) (hR19.fr' hF31 (by omega)) hR31 (((hL.2.2.2.2.1.frc hF10 (by omega) (by omega)).fr hF19 (by omega)).fr hF31 (by omega)) (by omega) (by omega) (by omega) (by omega) (by omega) (by omega) (by omega)) (by decide) (fun r7 h8 => ?_)
  obtain ⟨g48, q48, rfl, hS48, hR48, hF48, hL48⟩ := h8
  refine wp_eq (L' := [(2, 103), (0, ((n : Nat) : Int)), (0, ((k : Nat) : Int)), (0, j), (0, m)]) (st' := [(0, q48)]) (g' := g48) ?_
  exact wp_ret rfl rfl rfl ⟨_, _, rfl, hS48, ⟨hR48.L, ((hL10.fr hF19 (by omega)).fr hF31 (by omega)).frc hF48 (by omega) (by omega), hR31.L.frc hF48 (by omega) (by omega), (((hL.2.2.2.1.frc hF10 (by omega) (by omega)).fr hF19 (by omega)).fr hF31 (by omega)).frc hF48 (by omega) (by omega), hL48, (((hL.2.2.2.2.2.1.frc hF10 (by omega) (by omega)).fr hF19 (by omega)).fr hF31 (by omega)).frc hF48 (by omega) (by omega), (((hL.2.2.2.2.2.2.1.frc hF10 (by omega) (by omega)).fr hF19 (by omega)).fr hF31 (by omega)).frc hF48 (by omega) (by omega), (((hL.2.2.2.2.2.2.2.frc hF10 (by omega) (by omega)).fr hF19 (by omega)).fr hF31 (by omega)).frc hF48 (by omega) (by omega)⟩, fun c i hc => by rw [hF48 c i (by omega) (by omega) (by omega) (by omega), hF31 c i (by omega) (by omega), hF19 c i (by omega) (by omega), hF10 c i (by omega) (by omega) (by omega) (by omega)]⟩
