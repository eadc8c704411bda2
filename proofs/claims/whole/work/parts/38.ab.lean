/-! above: both sides -/
def AbD (P : Nat) (x y z : Int) : Prop := 1 ≤ x ∧ x ≤ 60 ∧ 0 ≤ y ∧ y ≤ x ∧ 1 ≤ z ∧ z ≤ (P : Int) - 1
set_option maxHeartbeats 400000 in
set_option maxRecDepth 20000 in
theorem e_above {sn : Nat} {sx : Nat → Int} {b : Nat} {g : am_G} {P : Nat} {x y z : Int} (hx : R32 x) (hy : R32 y) (hz : R32 z) (h0 : g 0 0 = (P : Int)) (hP : g 103 0 = (P : Int)) (h5 : 5 ≤ P ∧ P ≤ 37) (hL : CLs g) : Ev sn sx 6 115 [(2, 0), (0, x), (0, y), (0, z)] (SH b) g (fun r => ∃ g' v, r = (some (0, v), SH b, g') ∧ ((AbD P x y z ∧ IsShare (tl z ((P : Int) - z) x.toNat y.toNat) 1000000 ((P : Int) ^ x.toNat) v) ∨ (¬ AbD P x y z ∧ v = -1)) ∧ CLs g' ∧ FrH g g') := by
  refine ev_of (K := 5) T115 (by decide) rfl rfl (Nat.le_of_ble_eq_true rfl) ?_
  refine wp_eq (L' := [(2, 0), (0, x), (0, y), (0, z)]) (st' := []) (g' := g) ?_
  refine wp_n 2 (pc' := 2) (L' := [(2, 0), (0, x), (0, y), (0, z)]) (st' := [(0, y), (0, x)]) (g' := g) rfl ?_
  refine wp_cs (as := [(0, x), (0, y)]) (rest := []) rfl (by decide) rfl (Nat.le_of_ble_eq_true rfl) (e_isCount (by omega) (by omega)) (by decide) (fun r2 h3 => ?_)
  rcases h3 with ⟨rfl, p1⟩ | ⟨rfl, p1⟩
  · refine wp_eq (L' := [(2, 0), (0, x), (0, y), (0, z)]) (st' := [(0, 1)]) (g' := g) ?_
    refine wp_n 5 (pc' := 14) (L' := [(2, 0), (0, x), (0, y), (0, z)]) (st' := [(0, (g 0 0)), (0, 1), (0, z)]) (g' := g) rfl ?_
    refine wp_eq (L' := [(2, 0), (0, x), (0, y), (0, z)]) (st' := [(0, ((P : Nat) : Int)), (0, 1), (0, z)]) (g' := g) ?_ (by rfl) (by rw [h0]) (by rfl)
    refine wp_n 2 (pc' := 16) (L' := [(2, 0), (0, x), (0, y), (0, z)]) (st' := [(0, (((P : Nat) : Int) - 1)), (0, 1), (0, z)]) (g' := g) rfl ?_
    refine wp_cs (as := [(0, z), (0, 1), (0, (((P : Nat) : Int) - 1))]) (rest := []) rfl (by decide) rfl (Nat.le_of_ble_eq_true rfl) (e_within (by omega) (by omega) (by omega)) (by decide) (fun r5 h6 => ?_)
    rcases h6 with ⟨rfl, p4⟩ | ⟨rfl, p4⟩
    · refine wp_eq (L' := [(2, 0), (0, x), (0, y), (0, z)]) (st' := [(0, 1)]) (g' := g) ?_
      refine wp_n 4 (pc' := 29) (L' := [(2, 0), (0, x), (0, y), (0, z)]) (st' := [(0, x), (2, 103)]) (g' := g) rfl ?_
      refine wp_eq (L' := [(2, 0), (0, x), (0, y), (0, z)]) (st' := [(0, ((x.toNat : Nat) : Int)), (2, 103)]) (g' := g) ?_ (by rfl) (by rw [Int.toNat_of_nonneg (by omega)]) (by rfl)
      refine wp_n 1 (pc' := 30) (L' := [(2, 0), (0, x), (0, y), (0, z)]) (st' := [(0, y), (0, ((x.toNat : Nat) : Int)), (2, 103)]) (g' := g) rfl ?_
      refine wp_eq (L' := [(2, 0), (0, x), (0, y), (0, z)]) (st' := [(0, ((y.toNat : Nat) : Int)), (0, ((x.toNat : Nat) : Int)), (2, 103)]) (g' := g) ?_ (by rfl) (by rw [Int.toNat_of_nonneg (by omega)]) (by rfl)
      refine wp_n 2 (pc' := 32) (L' := [(2, 0), (0, x), (0, y), (0, z)]) (st' := [(0, 1), (0, z), (0, ((y.toNat : Nat) : Int)), (0, ((x.toNat : Nat) : Int)), (2, 103)]) (g' := g) rfl ?_
      refine wp_cv (as := [(2, 103), (0, ((x.toNat : Nat) : Int)), (0, ((y.toNat : Nat) : Int)), (0, z), (0, 1)]) (rest := []) rfl rfl rfl (Nat.le_of_ble_eq_true rfl) rfl (e_even (n := x.toNat) (k := y.toNat) hP (by omega) (by omega) (by omega) (by omega) (by omega) hL) (by decide) (fun r7 h8 => ?_)
      obtain ⟨g32, q32, rfl, hS32, hL32, hF32⟩ := h8
      refine wp_eq (L' := [(2, 0), (0, x), (0, y), (0, z)]) (st' := [(0, q32)]) (g' := g32) ?_
      exact wp_ret rfl rfl rfl ⟨_, _, rfl, Or.inl ⟨by unfold AbD; omega, by rw [Int.mul_one] at hS32; exact hS32⟩, hL32, hF32⟩
    · refine wp_eq (L' := [(2, 0), (0, x), (0, y), (0, z)]) (st' := [(0, 0)]) (g' := g) ?_
      refine wp_n 2 (pc' := 23) (L' := [(2, 0), (0, x), (0, y), (0, z)]) (st' := [(0, (-1))]) (g' := g) rfl ?_
      exact wp_ret rfl rfl rfl ⟨_, _, rfl, Or.inr ⟨by unfold AbD; omega, rfl⟩, hL, fun _ _ _ => rfl⟩
  · refine wp_eq (L' := [(2, 0), (0, x), (0, y), (0, z)]) (st' := [(0, 0)]) (g' := g) ?_
    refine wp_n 2 (pc' := 23) (L' := [(2, 0), (0, x), (0, y), (0, z)]) (st' := [(0, (-1))]) (g' := g) rfl ?_
    exact wp_ret rfl rfl rfl ⟨_, _, rfl, Or.inr ⟨by unfold AbD; omega, rfl⟩, hL, fun _ _ _ => rfl⟩
