/-! WHERE: weighing a spin -/
set_option maxHeartbeats 400000 in
set_option maxRecDepth 20000 in
theorem e_weighSpin {sn : Nat} {sx : Nat → Int} {b : Nat} {g : am_G} {k : Nat} (hk_k : IsBig b k) {w f : Nat} {v x s1 s2 s3 : Int} (hB : BigR g k v) (hw : w < 4) (hf : f < 37) (hx : g 3 (37 * w + f) = x) (h1 : g 62 ((w + 1) % 4) = s1) (h2 : g 62 ((w + 2) % 4) = s2) (h3 : g 62 ((w + 3) % 4) = s3) (b0 : 0 ≤ x ∧ x ≤ 999) (b1 : 0 ≤ s1 ∧ s1 ≤ 36963) (b2 : 0 ≤ s2 ∧ s2 ≤ 36963) (b3 : 0 ≤ s3 ∧ s3 ≤ 36963) (hk6 : k ≠ 62 ∧ k + 1 ≠ 62) (ho : v * (x * s1) < 2147483648 ^ 40) (ho2 : v * (x * s1) * (s2 * s3) < 2147483648 ^ 40) : Ev sn sx 3 92 [(2, 56), (2, ((k : Nat) : Int)), (0, ((w : Nat) : Int)), (0, ((f : Nat) : Int))] (SH b) g (fun r => ∃ g', r = (none, SH b, g') ∧ BigR g' k (v * (x * s1) * (s2 * s3)) ∧ FrB k g g') := by
  have m1 := Int.mul_le_mul b0.2 b1.2 b1.1 (by decide)
  have m2 := Int.mul_nonneg b0.1 b1.1
  have m3 := Int.mul_le_mul b2.2 b3.2 b3.1 (by decide)
  have m4 := Int.mul_nonneg b2.1 b3.1
  refine ev_of (K := 2) T92 (by decide) rfl rfl (Nat.le_of_ble_eq_true rfl) ?_
  refine wp_eq (L' := [(2, 56), (2, ((k : Nat) : Int)), (0, ((w : Nat) : Int)), (0, ((f : Nat) : Int)), (9, 0)]) (st' := []) (g' := g) ?_
  refine wp_n 8 (pc' := 13) (L' := [(2, 56), (2, ((k : Nat) : Int)), (0, ((w : Nat) : Int)), (0, ((f : Nat) : Int)), (9, 0)]) (st' := [(0, ((((w : Nat) : Int) * 37) + ((f : Nat) : Int))), (2, 3)]) (g' := g) rfl ?_
  refine wp_iald (k := 3) ((37 * w + f)) rfl rfl (by omega) (by omega) (by decide) ?_
  refine wp_eq (L' := [(2, 56), (2, ((k : Nat) : Int)), (0, ((w : Nat) : Int)), (0, ((f : Nat) : Int)), (9, 0)]) (st' := [(0, x)]) (g' := g) ?_ (by rfl) (by rw [hx]) (by rfl)
  refine wp_n 9 (pc' := 27) (L' := [(2, 56), (2, ((k : Nat) : Int)), (0, ((w : Nat) : Int)), (0, ((f : Nat) : Int)), (0, x)]) (st' := [(0, 4), (0, (((w : Nat) : Int) + 1)), (2, 62), (0, x), (2, ((k : Nat) : Int))]) (g' := g) rfl ?_
  refine wp_irem rfl (by omega) (by omega) (by omega) ?_
  refine wp_eq (L' := [(2, 56), (2, ((k : Nat) : Int)), (0, ((w : Nat) : Int)), (0, ((f : Nat) : Int)), (0, x)]) (st' := [(0, ((((w : Nat) : Int) + 1) % 4)), (2, 62), (0, x), (2, ((k : Nat) : Int))]) (g' := g) ?_ (by rfl) (by rw [Int.tmod_eq_emod_of_nonneg (show 0 ≤ (w : Int) + 1 by omega)]) (by rfl)
  refine wp_iald (k := 62) (((w + 1) % 4)) rfl rfl (by omega) (by omega) (by decide) ?_
  refine wp_eq (L' := [(2, 56), (2, ((k : Nat) : Int)), (0, ((w : Nat) : Int)), (0, ((f : Nat) : Int)), (0, x)]) (st' := [(0, s1), (0, x), (2, ((k : Nat) : Int))]) (g' := g) ?_ (by rfl) (by rw [h1]) (by rfl)
  refine wp_n 1 (pc' := 30) (L' := [(2, 56), (2, ((k : Nat) : Int)), (0, ((w : Nat) : Int)), (0, ((f : Nat) : Int)), (0, x)]) (st' := [(0, (x * s1)), (2, ((k : Nat) : Int))]) (g' := g) rfl ?_
  refine wp_cv (as := [(2, ((k : Nat) : Int)), (0, (x * s1))]) (rest := []) rfl rfl rfl (Nat.le_of_ble_eq_true rfl) (am_rcv_of hk_k.1 (by decide)) (e_times hk_k hB (by omega) ho) (by decide) (fun r1 h2 => ?_)
  obtain ⟨g30, rfl, hR30, hF30⟩ := h2
  refine wp_eq (L' := [(2, 56), (2, ((k : Nat) : Int)), (0, ((w : Nat) : Int)), (0, ((f : Nat) : Int)), (0, x)]) (st' := []) (g' := g30) ?_
  refine wp_n 7 (pc' := 42) (L' := [(2, 56), (2, ((k : Nat) : Int)), (0, ((w : Nat) : Int)), (0, ((f : Nat) : Int)), (0, x)]) (st' := [(0, 4), (0, (((w : Nat) : Int) + 2)), (2, 62), (2, ((k : Nat) : Int))]) (g' := g30) rfl ?_
  refine wp_irem rfl (by omega) (by omega) (by omega) ?_
  refine wp_eq (L' := [(2, 56), (2, ((k : Nat) : Int)), (0, ((w : Nat) : Int)), (0, ((f : Nat) : Int)), (0, x)]) (st' := [(0, ((((w : Nat) : Int) + 2) % 4)), (2, 62), (2, ((k : Nat) : Int))]) (g' := g30) ?_ (by rfl) (by rw [Int.tmod_eq_emod_of_nonneg (show 0 ≤ (w : Int) + 2 by omega)]) (by rfl)
  refine wp_iald (k := 62) (((w + 2) % 4)) rfl rfl (by omega) (by omega) (by decide) ?_
  refine wp_eq (L' := [(2, 56), (2, ((k : Nat) : Int)), (0, ((w : Nat) : Int)), (0, ((f : Nat) : Int)), (0, x)]) (st' := [(0, s2), (2, ((k : Nat) : Int))]) (g' := g30) ?_ (by rfl) (by rw [hF30 62 _ (by omega) (by omega), h2]) (by rfl)
  refine wp_n 6 (pc' := 52) (L' := [(2, 56), (2, ((k : Nat) : Int)), (0, ((w : Nat) : Int)), (0, ((f : Nat) : Int)), (0, x)]) (st' := [(0, 4), (0, (((w : Nat) : Int) + 3)), (2, 62), (0, s2), (2, ((k : Nat) : Int))]) (g' := g30) rfl ?_
  refine wp_irem rfl (by omega) (by omega) (by omega) ?_
  refine wp_eq (L' := [(2, 56), (2, ((k : Nat) : Int)), (0, ((w : Nat) : Int)), (0, ((f : Nat) : Int)), (0, x)]) (st' := [(0, ((((w : Nat) : Int) + 3) % 4)), (2, 62), (0, s2), (2, ((k : Nat) : Int))]) (g' := g30) ?_ (by rfl) (by rw [Int.tmod_eq_emod_of_nonneg (show 0 ≤ (w : Int) + 3 by omega)]) (by rfl)
  refine wp_iald (k := 62) (((w + 3) % 4)) rfl rfl (by omega) (by omega) (by decide) ?_
  refine wp_eq (L' := [(2, 56), (2, ((k : Nat) : Int)), (0, ((w : Nat) : Int)), (0, ((f : Nat) : Int)), (0, x)]) (st' := [(0, s3), (0, s2), (2, ((k : Nat) : Int))]) (g' := g30) ?_ (by rfl) (by rw [hF30 62 _ (by omega) (by omega), h3]) (by rfl)
  refine wp_n 1 (pc' := 55) (L' := [(2, 56), (2, ((k : Nat) : Int)), (0, ((w : Nat) : Int)), (0, ((f : Nat) : Int)), (0, x)]) (st' := [(0, (s2 * s3)), (2, ((k : Nat) : Int))]) (g' := g30) rfl ?_
  refine wp_cv (as := [(2, ((k : Nat) : Int)), (0, (s2 * s3))]) (rest := []) rfl rfl rfl (Nat.le_of_ble_eq_true rfl) (am_rcv_of hk_k.1 (by decide)) (e_times hk_k hR30 (by omega) ho2) (by decide) (fun r3 h4 => ?_)
  obtain ⟨g55, rfl, hR55, hF55⟩ := h4
  refine wp_eq (L' := [(2, 56), (2, ((k : Nat) : Int)), (0, ((w : Nat) : Int)), (0, ((f : Nat) : Int)), (0, x)]) (st' := []) (g' := g55) ?_
  exact wp_ret rfl rfl rfl ⟨_, rfl, hR55, hF30.trans hF55⟩
