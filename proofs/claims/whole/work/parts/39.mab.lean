/-! above: the reference -/
theorem pow_10 {x : Int} (h0 : 0 ≤ x) (h : x ≤ 2001 ^ 60) : x * 1000000 < 10000 ^ 100 := by omega
set_option maxHeartbeats 400000 in
set_option maxRecDepth 20000 in
theorem m_above {sn : Nat} {sx : Nat → Int} {b : Nat} {g : am_G} {P : Nat} {x y z : Int} (hx : R32 x) (hy : R32 y) (hz : R32 z) (hP : g 127 0 = (P : Int)) (h5 : 5 ≤ P ∧ P ≤ 37) : Ev sn sx 5 217 [(2, 127), (0, x), (0, y), (0, z)] (SH b) g (fun r => ∃ g' v, r = (some (0, v), SH b, g') ∧ ((AbD P x y z ∧ IsInto (tl z ((P : Int) - z) x.toNat y.toNat * 1000000) ((P : Int) ^ x.toNat) v) ∨ (¬ AbD P x y z ∧ v = -1)) ∧ FrR 0 127 g g') := by
  refine ev_of (K := 4) T217 (by decide) rfl rfl (Nat.le_of_ble_eq_true rfl) ?_
  refine wp_eq (L' := [(2, 127), (0, x), (0, y), (0, z)]) (st' := []) (g' := g) ?_
  refine wp_n 3 (pc' := 4) (L' := [(2, 127), (0, x), (0, y), (0, z)]) (st' := [(0, 60), (0, 1), (0, x)]) (g' := g) rfl ?_
  refine wp_cs (as := [(0, x), (0, 1), (0, 60)]) (rest := []) rfl (by decide) rfl (Nat.le_of_ble_eq_true rfl) (e_isIn (by omega) (by omega) (by omega)) (by decide) (fun r2 h3 => ?_)
  rcases h3 with ⟨rfl, p1⟩ | ⟨rfl, p1⟩
  · refine wp_eq (L' := [(2, 127), (0, x), (0, y), (0, z)]) (st' := [(0, 1)]) (g' := g) ?_
    refine wp_n 4 (pc' := 13) (L' := [(2, 127), (0, x), (0, y), (0, z)]) (st' := [(0, x), (0, 0), (0, y)]) (g' := g) rfl ?_
    refine wp_cs (as := [(0, y), (0, 0), (0, x)]) (rest := []) rfl (by decide) rfl (Nat.le_of_ble_eq_true rfl) (e_isIn (by omega) (by omega) (by omega)) (by decide) (fun r5 h6 => ?_)
    rcases h6 with ⟨rfl, p4⟩ | ⟨rfl, p4⟩
    · refine wp_eq (L' := [(2, 127), (0, x), (0, y), (0, z)]) (st' := [(0, 1)]) (g' := g) ?_
      refine wp_n 5 (pc' := 25) (L' := [(2, 127), (0, x), (0, y), (0, z)]) (st' := [(0, (g 127 0)), (0, 1), (0, z)]) (g' := g) rfl ?_
      refine wp_eq (L' := [(2, 127), (0, x), (0, y), (0, z)]) (st' := [(0, ((P : Nat) : Int)), (0, 1), (0, z)]) (g' := g) ?_ (by rfl) (by rw [hP]) (by rfl)
      refine wp_n 2 (pc' := 27) (L' := [(2, 127), (0, x), (0, y), (0, z)]) (st' := [(0, (((P : Nat) : Int) - 1)), (0, 1), (0, z)]) (g' := g) rfl ?_
      refine wp_cs (as := [(0, z), (0, 1), (0, (((P : Nat) : Int) - 1))]) (rest := []) rfl (by decide) rfl (Nat.le_of_ble_eq_true rfl) (e_isIn (by omega) (by omega) (by omega)) (by decide) (fun r8 h9 => ?_)
      rcases h9 with ⟨rfl, p7⟩ | ⟨rfl, p7⟩
      · refine wp_eq (L' := [(2, 127), (0, x), (0, y), (0, z)]) (st' := [(0, 1)]) (g' := g) ?_
        refine wp_n 3 (pc' := 37) (L' := [(2, 127), (0, x), (0, y), (0, z)]) (st' := [(0, x), (2, 127)]) (g' := g) rfl ?_
        refine wp_eq (L' := [(2, 127), (0, x), (0, y), (0, z)]) (st' := [(0, ((x.toNat : Nat) : Int)), (2, 127)]) (g' := g) ?_ (by rfl) (by rw [Int.toNat_of_nonneg (by omega)]) (by rfl)
        refine wp_n 1 (pc' := 38) (L' := [(2, 127), (0, x), (0, y), (0, z)]) (st' := [(0, y), (0, ((x.toNat : Nat) : Int)), (2, 127)]) (g' := g) rfl ?_
        refine wp_eq (L' := [(2, 127), (0, x), (0, y), (0, z)]) (st' := [(0, ((y.toNat : Nat) : Int)), (0, ((x.toNat : Nat) : Int)), (2, 127)]) (g' := g) ?_ (by rfl) (by rw [Int.toNat_of_nonneg (by omega)]) (by rfl)
        refine wp_n 1 (pc' := 39) (L' := [(2, 127), (0, x), (0, y), (0, z)]) (st' := [(0, z), (0, ((y.toNat : Nat) : Int)), (0, ((x.toNat : Nat) : Int)), (2, 127)]) (g' := g) rfl ?_
        refine wp_cv (as := [(2, 127), (0, ((x.toNat : Nat) : Int)), (0, ((y.toNat : Nat) : Int)), (0, z)]) (rest := []) rfl rfl rfl (Nat.le_of_ble_eq_true rfl) rfl (m_tail (t := x.toNat) (k := y.toNat) hP (by omega) (by omega) (by omega) (by omega)) (by decide) (fun r10 h11 => ?_)
        obtain ⟨g39, rfl, hR39, hW39, hF39⟩ := h11
        have ht0 := tl_in (p := z) (q := (P : Int) - z) (t := x.toNat) (k := y.toNat) (by omega) (by omega) (by omega)
        rw [show z + ((P : Int) - z) = (P : Int) by omega] at ht0
        have hp0 := pow_2001 (x := (P : Int)) (n := x.toNat) (by omega) (by omega) (by omega)
        have hp1 : 0 ≤ (P : Int) ^ x.toNat := Int.pow_nonneg (by omega)
        refine wp_eq (L' := [(2, 127), (0, x), (0, y), (0, z)]) (st' := []) (g' := g39) ?_
        refine wp_n 1 (pc' := 43) (L' := [(2, 127), (0, x), (0, y), (0, z)]) (st' := [(2, 127)]) (g' := g39) rfl ?_
        refine wp_cv (as := [(2, 127)]) (rest := []) rfl rfl rfl (Nat.le_of_ble_eq_true rfl) rfl (m_millionths hR39 hW39 (pow_10 ht0.1 (by omega)) (pow_10 hp1 hp0)) (by decide) (fun r12 h13 => ?_)
        obtain ⟨g43, q43, rfl, hI43, hF43⟩ := h13
        refine wp_eq (L' := [(2, 127), (0, x), (0, y), (0, z)]) (st' := [(0, q43)]) (g' := g43) ?_
        exact wp_ret rfl rfl rfl ⟨_, _, rfl, Or.inl ⟨by unfold AbD; omega, hI43⟩, (hF39.wide (by omega) (by omega)).trans (hF43.wide (by omega) (by omega))⟩
      · refine wp_eq (L' := [(2, 127), (0, x), (0, y), (0, z)]) (st' := [(0, 0)]) (g' := g) ?_
        refine wp_n 2 (pc' := 34) (L' := [(2, 127), (0, x), (0, y), (0, z)]) (st' := [(0, (-1))]) (g' := g) rfl ?_
        exact wp_ret rfl rfl rfl ⟨_, _, rfl, Or.inr ⟨by unfold AbD; omega, rfl⟩, FrR.rfl⟩
    · refine wp_eq (L' := [(2, 127), (0, x), (0, y), (0, z)]) (st' := [(0, 0)]) (g' := g) ?_
      refine wp_n 2 (pc' := 34) (L' := [(2, 127), (0, x), (0, y), (0, z)]) (st' := [(0, (-1))]) (g' := g) rfl ?_
      exact wp_ret rfl rfl rfl ⟨_, _, rfl, Or.inr ⟨by unfold AbD; omega, rfl⟩, FrR.rfl⟩
  · refine wp_eq (L' := [(2, 127), (0, x), (0, y), (0, z)]) (st' := [(0, 0)]) (g' := g) ?_
    refine wp_n 2 (pc' := 34) (L' := [(2, 127), (0, x), (0, y), (0, z)]) (st' := [(0, (-1))]) (g' := g) rfl ?_
    exact wp_ret rfl rfl rfl ⟨_, _, rfl, Or.inr ⟨by unfold AbD; omega, rfl⟩, FrR.rfl⟩
theorem into_share {v w m m' : Int} (hw : 0 < w) (h : IsShare v 1000000 w m) (h' : IsInto (v * 1000000) w m') : m = m' := h.uniq hw ⟨h'.1, h'.2.1, h'.2.2.1, h'.2.2.2⟩
