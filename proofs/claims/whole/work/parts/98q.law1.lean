/-! THE LAW: the script's first number -/
theorem e_lawat {sn : Nat} {sx : Nat → Int} {sh : am_Sh} {g : am_G} {z : Int} (hs : sn ≤ 100000) : Ev sn sx 1 252 [(5, z), (0, 0)] sh g (fun r => r = (some (0, if 0 < sn then sx 0 else 0), sh, g)) := by
  refine ev_of (K := 0) T252 (by decide) rfl rfl (Nat.le_of_ble_eq_true rfl) ?_
  refine wp_eq (L' := [(5, z), (0, 0)]) (st' := []) (g' := g) ?_
  refine wp_n 3 (pc' := 3) (L' := [(5, z), (0, 0)]) (st' := [(0, (sn : Int)), (0, 0)]) (g' := g) rfl ?_
  refine wp_ic_ge rfl (fun c => ?_) (fun c => ?_)
  · rw [if_neg (by omega)]
    refine wp_n 1 (pc' := 13) (L' := [(5, z), (0, 0)]) (st' := [(0, 0)]) (g' := g) rfl ?_
    exact wp_ret rfl rfl rfl rfl
  · rw [if_pos (by omega)]
    refine wp_n 2 (pc' := 8) (L' := [(5, z), (0, 0)]) (st' := [(0, 0), (5, z)]) (g' := g) rfl ?_
    refine wp_sald 0 rfl rfl (by omega) hs ?_
    refine wp_n 1 (pc' := 13) (L' := [(5, z), (0, 0)]) (st' := [(0, sx 0)]) (g' := g) rfl ?_
    exact wp_ret rfl rfl rfl rfl
