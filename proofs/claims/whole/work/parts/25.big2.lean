/-! NUMBERS IN LIMBS OF 31 BITS: over, plus, minus, reaches -/
theorem ri_next {k a sz s : Nat} {g : am_G} (H : RI k a sz g s) (h : 0 < s) : RI k a sz g (s - 1 + 1) := by
  rw [Nat.sub_add_cancel h]
  exact H
theorem ri_done {k a sz s : Nat} {g : am_G} (H : RI k a sz g s) (h : s = 0) : bval (g (k + 1)) sz = bval (g (a + 1)) sz := by
  subst h
  have := H.2
  have a1 : bval (g (k + 1)) 0 = 0 := rfl
  have a2 : bval (g (a + 1)) 0 = 0 := rfl
  omega
set_option maxHeartbeats 400000 in
set_option maxRecDepth 20000 in
theorem e_over {sn : Nat} {sx : Nat → Int} {b : Nat} {g : am_G} {k : Nat} (hk_k : IsBig b k) {v d : Int} (hB : BigR g k v) (hd : 0 < d ∧ d < 2147483648) : Ev sn sx 2 9 [(2, ((k : Nat) : Int)), (0, d)] (SH b) g (fun r => ∃ g', r = (none, SH b, g') ∧ BigR g' k (v / d) ∧ FrB k g g') := by
  obtain ⟨sz, hB, -⟩ := hB
  have hs := hB.1
  have hz := hB.2.1
  refine ev_of (K := 1) T9 (by decide) rfl rfl (Nat.le_of_ble_eq_true rfl) ?_
  refine wp_eq (L' := [(2, ((k : Nat) : Int)), (0, d), (9, 0), (9, 0), (9, 0), (9, 0), (9, 0)]) (st' := []) (g' := g) ?_
  refine wp_n 1 (pc' := 1) (L' := [(2, ((k : Nat) : Int)), (0, d), (9, 0), (9, 0), (9, 0), (9, 0), (9, 0)]) (st' := [(0, d)]) (g' := g) rfl ?_
  refine wp_if_gt rfl (fun c1 => ?_) (fun c1 => ?_)
  · refine wp_n 3 (pc' := 8) (L' := [(2, ((k : Nat) : Int)), (0, d), (1, 0), (9, 0), (9, 0), (9, 0), (9, 0)]) (st' := [(2, ((k : Nat) : Int))]) (g' := g) rfl ?_
    refine wp_gfi (k := k) 1 rfl rfl hk_k.1 (Or.inl rfl) ?_
    refine wp_n 3 (pc' := 15) (L' := [(2, ((k : Nat) : Int)), (0, d), (1, 0), (9, 0), (0, ((g k 1) - 1)), (9, 0), (9, 0)]) (st' := []) (g' := g) rfl ?_
    have L15 : ∀ (lf : Nat) (s : Nat) (r : Int) (h : am_G) (w : am_V), s < lf → (OI k sz d v g h s r) → Wp sn sx 1 T9 15 [(2, ((k : Nat) : Int)), (0, d), (1, r), (9, 0), (0, ((s : Int) - 1)), w, (9, 0)] [] (SH b) h (fun r => ∃ g', r = (none, SH b, g') ∧ BigR g' k (v / d) ∧ FrB k g g') := by
      intro lf
      induction lf with
      | zero => intro s r h w hlf; exact absurd hlf (Nat.not_lt_zero _)
      | succ lf ih15 =>
        intro s r h w hlf hH
        have hr := hH.2.1
        have hi := hH.1
        have hq : h k 1 = sz := by rw [hH.2.2.1 k 1 (by omega)]; exact hs
        refine wp_n 1 (pc' := 17) (L' := [(2, ((k : Nat) : Int)), (0, d), (1, r), (9, 0), (0, ((s : Int) - 1)), w, (9, 0)]) (st' := [(0, ((s : Int) - 1))]) (g' := h) rfl ?_
        refine wp_if_lt rfl (fun c2 => ?_) (fun c2 => ?_)
        · have hs0 : s = 0 := by omega
          have hE := oi_end hB (by rw [hs0] at hH; exact hH)
          refine wp_n 1 (pc' := 61) (L' := [(2, ((k : Nat) : Int)), (0, d), (1, r), (9, 0), (0, ((s : Int) - 1)), w, (9, 0)]) (st' := [(2, ((k : Nat) : Int))]) (g' := h) rfl ?_
          refine wp_cv (as := [(2, ((k : Nat) : Int))]) (rest := []) rfl rfl rfl (Nat.le_of_ble_eq_true rfl) (am_rcv_of hk_k.1 (by decide)) (e_trim hk_k hE.1) (by decide) (fun r3 h4 => ?_)
          obtain ⟨g61, rfl, hR61, hF61⟩ := h4
          refine wp_eq (L' := [(2, ((k : Nat) : Int)), (0, d), (1, r), (9, 0), (0, ((s : Int) - 1)), w, (9, 0)]) (st' := []) (g' := g61) ?_
          exact wp_ret rfl rfl rfl ⟨_, rfl, hR61, hE.2.trans hF61⟩
        · have hl := hH.2.2.2.2.1 (s - 1) (by omega)
          have hvv := oi_v hl hr
          refine wp_n 3 (pc' := 24) (L' := [(2, ((k : Nat) : Int)), (0, d), (1, r), (9, 0), (0, ((s : Int) - 1)), w, (9, 0)]) (st' := [(1, (Int64.ofInt r <<< ((Int32.ofInt 31).toInt64 &&& 63)).toInt)]) (g' := h) rfl ?_
          refine wp_eq (L' := [(2, ((k : Nat) : Int)), (0, d), (1, r), (9, 0), (0, ((s : Int) - 1)), w, (9, 0)]) (st' := [(1, (r * 2147483648))]) (g' := h) ?_ (by rfl) (by rw [lshl31 (by omega) (by omega)]) (by rfl)
          refine wp_n 1 (pc' := 25) (L' := [(2, ((k : Nat) : Int)), (0, d), (1, r), (9, 0), (0, ((s : Int) - 1)), w, (9, 0)]) (st' := [(2, ((k : Nat) : Int)), (1, (r * 2147483648))]) (g' := h) rfl ?_
          refine wp_gfr (k := k) (r := (k + 1)) rfl hk_k.1 rfl rfl ?_
          refine wp_n 1 (pc' := 30) (L' := [(2, ((k : Nat) : Int)), (0, d), (1, r), (9, 0), (0, ((s : Int) - 1)), w, (9, 0)]) (st' := [(0, ((s : Int) - 1)), (2, (((k + 1) : Nat) : Int)), (1, (r * 2147483648))]) (g' := h) rfl ?_
          refine wp_iald (k := (k + 1)) ((s - 1)) rfl hk_k.2 (by omega) (by omega) (by decide) ?_
          refine wp_i2l rfl (by have := hH.2.2.2.2.1 (s - 1) (by omega); omega) ?_
          refine wp_n 3 (pc' := 36) (L' := [(2, ((k : Nat) : Int)), (0, d), (1, r), (9, 0), (0, ((s : Int) - 1)), (1, ((r * 2147483648) + (h (k + 1) (s - 1)))), (9, 0)]) (st' := [(2, ((k : Nat) : Int))]) (g' := h) rfl ?_
          refine wp_gfr (k := k) (r := (k + 1)) rfl hk_k.1 rfl rfl ?_
          refine wp_n 3 (pc' := 44) (L' := [(2, ((k : Nat) : Int)), (0, d), (1, r), (9, 0), (0, ((s : Int) - 1)), (1, ((r * 2147483648) + (h (k + 1) (s - 1)))), (9, 0)]) (st' := [(0, d), (1, ((r * 2147483648) + (h (k + 1) (s - 1)))), (0, ((s : Int) - 1)), (2, (((k + 1) : Nat) : Int))]) (g' := h) rfl ?_
          refine wp_i2l rfl (by omega) ?_
          refine wp_ldiv rfl (by omega) (by omega) (by omega) ?_
          refine wp_eq (L' := [(2, ((k : Nat) : Int)), (0, d), (1, r), (9, 0), (0, ((s : Int) - 1)), (1, ((r * 2147483648) + (h (k + 1) (s - 1)))), (9, 0)]) (st' := [(1, (((r * 2147483648) + (h (k + 1) (s - 1))) / d)), (0, ((s : Int) - 1)), (2, (((k + 1) : Nat) : Int))]) (g' := h) ?_ (by rfl) (by rw [Int.tdiv_eq_ediv_of_nonneg hvv.1]) (by rfl)
          refine wp_n 1 (pc' := 47) (L' := [(2, ((k : Nat) : Int)), (0, d), (1, r), (9, 0), (0, ((s : Int) - 1)), (1, ((r * 2147483648) + (h (k + 1) (s - 1)))), (9, 0)]) (st' := [(0, (((r * 2147483648) + (h (k + 1) (s - 1))) / d)), (0, ((s : Int) - 1)), (2, (((k + 1) : Nat) : Int))]) (g' := h) rfl ?_
          refine wp_iast (k := (k + 1)) ((s - 1)) rfl hk_k.2 (by omega) (by omega) (by decide) ?_
          refine wp_n 2 (pc' := 51) (L' := [(2, ((k : Nat) : Int)), (0, d), (1, r), (9, 0), (0, ((s : Int) - 1)), (1, ((r * 2147483648) + (h (k + 1) (s - 1)))), (9, 0)]) (st' := [(0, d), (1, ((r * 2147483648) + (h (k + 1) (s - 1))))]) (g' := (am_up h (k + 1) ((s - 1)) (((r * 2147483648) + (h (k + 1) (s - 1))) / d))) rfl ?_
          refine wp_i2l rfl (by omega) ?_
          refine wp_lrem rfl (by omega) (by omega) (by omega) ?_
          refine wp_eq (L' := [(2, ((k : Nat) : Int)), (0, d), (1, r), (9, 0), (0, ((s : Int) - 1)), (1, ((r * 2147483648) + (h (k + 1) (s - 1)))), (9, 0)]) (st' := [(1, (((r * 2147483648) + (h (k + 1) (s - 1))) % d))]) (g' := (am_up h (k + 1) ((s - 1)) (((r * 2147483648) + (h (k + 1) (s - 1))) / d))) ?_ (by rfl) (by rw [Int.tmod_eq_emod_of_nonneg hvv.1]) (by rfl)
          refine wp_n 3 (pc' := 15) (L' := [(2, ((k : Nat) : Int)), (0, d), (1, (((r * 2147483648) + (h (k + 1) (s - 1))) % d)), (9, 0), (0, (((s : Int) - 1) + (-1))), (1, ((r * 2147483648) + (h (k + 1) (s - 1)))), (9, 0)]) (st' := []) (g' := (am_up h (k + 1) ((s - 1)) (((r * 2147483648) + (h (k + 1) (s - 1))) / d))) rfl ?_
          refine wp_eq (ih15 (s - 1) ((((r * 2147483648) + (h (k + 1) (s - 1))) % d)) ((am_up h (k + 1) ((s - 1)) (((r * 2147483648) + (h (k + 1) (s - 1))) / d))) ((1, ((r * 2147483648) + (h (k + 1) (s - 1))))) ?_ ?_) (by rw [show ((s - 1 : Nat) : Int) = (s : Int) - 1 by omega]; rfl) (by rfl) (by rfl)
          · omega
          · exact oi_step (i := s - 1) (by rw [show s - 1 + 1 = s by omega]; exact hH) hz hd.2 rfl rfl
    refine wp_eq (L15 (_ + 1) (sz) (0) (g) ((9, 0)) (Nat.lt_succ_self _) ?_) (by rw [hs]) (by rfl) (by rfl)
    · exact oi_zero hB hd.1
  · exfalso; omega
set_option maxHeartbeats 400000 in
set_option maxRecDepth 20000 in
theorem e_plus {sn : Nat} {sx : Nat → Int} {b : Nat} {g : am_G} {k : Nat} (hk_k : IsBig b k) {a : Nat} (hk_a : IsBig b a) {v w : Int} (hB : BigR g k v) (hA : BigR g a w) (hd : Dj k a) (ho : v + w < 2147483648 ^ 40) : Ev sn sx 2 10 [(2, ((k : Nat) : Int)), (2, ((a : Nat) : Int))] (SH b) g (fun r => ∃ g', r = (none, SH b, g') ∧ BigR g' k (v + w) ∧ FrB k g g') := by
  obtain ⟨sz, hB, hk0⟩ := hB
  obtain ⟨m, hA, ha0⟩ := hA
  have hs := hB.1
  have hz := hB.2.1
  have hm := hA.1
  have hm4 := hA.2.1
  refine ev_of (K := 1) T10 (by decide) rfl rfl (Nat.le_of_ble_eq_true rfl) ?_
  refine wp_eq (L' := [(2, ((k : Nat) : Int)), (2, ((a : Nat) : Int)), (9, 0), (9, 0), (9, 0), (9, 0), (9, 0)]) (st' := []) (g' := g) ?_
  refine wp_n 2 (pc' := 2) (L' := [(2, ((k : Nat) : Int)), (2, ((a : Nat) : Int)), (9, 0), (9, 0), (9, 0), (9, 0), (9, 0)]) (st' := [(2, ((a : Nat) : Int)), (2, ((k : Nat) : Int))]) (g' := g) rfl ?_
  refine wp_gfi (k := a) 1 rfl rfl hk_a.1 (Or.inl rfl) ?_
  refine wp_cv (as := [(2, ((k : Nat) : Int)), (0, (g a 1))]) (rest := []) rfl rfl rfl (Nat.le_of_ble_eq_true rfl) (am_rcv_of hk_k.1 (by decide)) (e_grow hk_k hB (by omega)) (by decide) (fun r1 h2 => ?_)
  obtain ⟨g5, z5, rfl, hW5, hF5, hz5⟩ := h2
  have hA5 := hA.fr hF5 hd
  have hzz := hW5.2.1
  refine wp_eq (L' := [(2, ((k : Nat) : Int)), (2, ((a : Nat) : Int)), (9, 0), (9, 0), (9, 0), (9, 0), (9, 0)]) (st' := []) (g' := g5) ?_
  refine wp_n 4 (pc' := 13) (L' := [(2, ((k : Nat) : Int)), (2, ((a : Nat) : Int)), (1, 0), (9, 0), (0, 0), (9, 0), (9, 0)]) (st' := []) (g' := g5) rfl ?_
  have L13 : ∀ (lf : Nat) (i : Nat) (c : Int) (h : am_G) (w' : am_V), z5 - i < lf → (PI k a z5 m g5 h i c) → Wp sn sx 1 T10 13 [(2, ((k : Nat) : Int)), (2, ((a : Nat) : Int)), (1, c), (9, 0), (0, ((i : Nat) : Int)), w', (9, 0)] [] (SH b) h (fun r => ∃ g', r = (none, SH b, g') ∧ BigR g' k (v + w) ∧ FrB k g g') := by
    intro lf
    induction lf with
    | zero => intro i c h w' hlf; exact absurd hlf (Nat.not_lt_zero _)
    | succ lf ih13 =>
      intro i c h w' hlf hH
      have hc := hH.2.1
      have hi := hH.1
      have hq : h k 1 = z5 := by rw [hH.2.2.1 k 1 (by omega)]; exact hW5.1
      have hqa : h a 1 = m := by rw [hH.2.2.1 a 1 (by omega)]; exact hA5.1
      refine wp_n 2 (pc' := 16) (L' := [(2, ((k : Nat) : Int)), (2, ((a : Nat) : Int)), (1, c), (9, 0), (0, ((i : Nat) : Int)), w', (9, 0)]) (st' := [(2, ((k : Nat) : Int)), (0, ((i : Nat) : Int))]) (g' := h) rfl ?_
      refine wp_gfi (k := k) 1 rfl rfl hk_k.1 (Or.inl rfl) ?_
      refine wp_ic_ge rfl (fun c3 => ?_) (fun c3 => ?_)
      · obtain rfl : i = z5 := by omega
        have hE := pi_end hW5 hA5 (by omega) hH ho
        refine wp_n 3 (pc' := 85) (L' := [(2, ((k : Nat) : Int)), (2, ((a : Nat) : Int)), (1, c), (9, 0), (0, ((i : Nat) : Int)), w', (9, 0)]) (st' := [(0, c), (2, ((k : Nat) : Int))]) (g' := h) rfl ?_
        refine wp_cv (as := [(2, ((k : Nat) : Int)), (0, c)]) (rest := []) rfl rfl rfl (Nat.le_of_ble_eq_true rfl) (am_rcv_of hk_k.1 (by decide)) (e_push hk_k hE.1 (by omega) hE.2.1) (by decide) (fun r4 h5 => ?_)
        obtain ⟨g85, z85, rfl, hW85, hF85, hz85⟩ := h5
        refine wp_eq (L' := [(2, ((k : Nat) : Int)), (2, ((a : Nat) : Int)), (1, c), (9, 0), (0, ((i : Nat) : Int)), w', (9, 0)]) (st' := []) (g' := g85) ?_
        exact wp_ret rfl rfl rfl ⟨_, rfl, plus_top (BigR.mul_sub hW85) hB.in.1 hA.in.1 hk0 ha0 (by omega) hz85 (by omega) (by have := hE.1.in.1; omega), hF5.trans (hE.2.2.trans hF85)⟩
      · have hlk := hH.2.2.2.2.1 i (by omega)
        have hla : i < m → h (a + 1) i = g5 (a + 1) i ∧ 0 ≤ g5 (a + 1) i ∧ g5 (a + 1) i < 2147483648 := fun q => ⟨hH.2.2.1 _ _ (by omega), hA5.2.2.1 i (by omega)⟩
        refine wp_n 2 (pc' := 25) (L' := [(2, ((k : Nat) : Int)), (2, ((a : Nat) : Int)), (1, c), (9, 0), (0, ((i : Nat) : Int)), w', (9, 0)]) (st' := [(2, ((a : Nat) : Int)), (0, ((i : Nat) : Int))]) (g' := h) rfl ?_
        refine wp_gfi (k := a) 1 rfl rfl hk_a.1 (Or.inl rfl) ?_
        refine wp_ic_ge rfl (fun c6 => ?_) (fun c6 => ?_)
        · refine wp_n 1 (pc' := 42) (L' := [(2, ((k : Nat) : Int)), (2, ((a : Nat) : Int)), (1, c), (9, 0), (0, ((i : Nat) : Int)), w', (9, 0)]) (st' := [(0, 0)]) (g' := h) rfl ?_
          refine wp_i2l rfl (by omega) ?_
          refine wp_n 3 (pc' := 46) (L' := [(2, ((k : Nat) : Int)), (2, ((a : Nat) : Int)), (1, c), (9, 0), (0, ((i : Nat) : Int)), w', (9, 0)]) (st' := [(2, ((k : Nat) : Int)), (1, (0 + c))]) (g' := h) rfl ?_
          refine wp_gfr (k := k) (r := (k + 1)) rfl hk_k.1 rfl rfl ?_
          refine wp_n 1 (pc' := 51) (L' := [(2, ((k : Nat) : Int)), (2, ((a : Nat) : Int)), (1, c), (9, 0), (0, ((i : Nat) : Int)), w', (9, 0)]) (st' := [(0, ((i : Nat) : Int)), (2, (((k + 1) : Nat) : Int)), (1, (0 + c))]) (g' := h) rfl ?_
          refine wp_iald (k := (k + 1)) (i) rfl hk_k.2 (by omega) (by omega) (by decide) ?_
          refine wp_i2l rfl (by omega) ?_
          refine wp_n 3 (pc' := 57) (L' := [(2, ((k : Nat) : Int)), (2, ((a : Nat) : Int)), (1, c), (9, 0), (0, ((i : Nat) : Int)), (1, ((0 + c) + (h (k + 1) i))), (9, 0)]) (st' := [(2, ((k : Nat) : Int))]) (g' := h) rfl ?_
          refine wp_gfr (k := k) (r := (k + 1)) rfl hk_k.1 rfl rfl ?_
          refine wp_n 4 (pc' := 68) (L' := [(2, ((k : Nat) : Int)), (2, ((a : Nat) : Int)), (1, c), (9, 0), (0, ((i : Nat) : Int)), (1, ((0 + c) + (h (k + 1) i))), (9, 0)]) (st' := [(1, (Int64.ofInt ((0 + c) + (h (k + 1) i)) &&& Int64.ofInt 2147483647).toInt), (0, ((i : Nat) : Int)), (2, (((k + 1) : Nat) : Int))]) (g' := h) rfl ?_
          refine wp_eq (L' := [(2, ((k : Nat) : Int)), (2, ((a : Nat) : Int)), (1, c), (9, 0), (0, ((i : Nat) : Int)), (1, ((0 + c) + (h (k + 1) i))), (9, 0)]) (st' := [(1, (((0 + c) + (h (k + 1) i)) % 2147483648)), (0, ((i : Nat) : Int)), (2, (((k + 1) : Nat) : Int))]) (g' := h) ?_ (by rfl) (by rw [land31 (by omega) (by omega)]) (by rfl)
          refine wp_n 1 (pc' := 69) (L' := [(2, ((k : Nat) : Int)), (2, ((a : Nat) : Int)), (1, c), (9, 0), (0, ((i : Nat) : Int)), (1, ((0 + c) + (h (k + 1) i))), (9, 0)]) (st' := [(0, (((0 + c) + (h (k + 1) i)) % 2147483648)), (0, ((i : Nat) : Int)), (2, (((k + 1) : Nat) : Int))]) (g' := h) rfl ?_
          refine wp_iast (k := (k + 1)) (i) rfl hk_k.2 (by omega) (by omega) (by decide) ?_
          refine wp_n 3 (pc' := 75) (L' := [(2, ((k : Nat) : Int)), (2, ((a : Nat) : Int)), (1, c), (9, 0), (0, ((i : Nat) : Int)), (1, ((0 + c) + (h (k + 1) i))), (9, 0)]) (st' := [(1, (((Int64.ofInt ((0 + c) + (h (k + 1) i))).toUInt64 >>> ((Int32.ofInt 31).toInt64.toUInt64 &&& Int64.toUInt64 63)).toInt64).toInt)]) (g' := (am_up h (k + 1) i (((0 + c) + (h (k + 1) i)) % 2147483648))) rfl ?_
          refine wp_eq (L' := [(2, ((k : Nat) : Int)), (2, ((a : Nat) : Int)), (1, c), (9, 0), (0, ((i : Nat) : Int)), (1, ((0 + c) + (h (k + 1) i))), (9, 0)]) (st' := [(1, (((0 + c) + (h (k + 1) i)) / 2147483648))]) (g' := (am_up h (k + 1) i (((0 + c) + (h (k + 1) i)) % 2147483648))) ?_ (by rfl) (by rw [lshr31 (by omega) (by omega)]) (by rfl)
          refine wp_n 3 (pc' := 13) (L' := [(2, ((k : Nat) : Int)), (2, ((a : Nat) : Int)), (1, (((0 + c) + (h (k + 1) i)) / 2147483648)), (9, 0), (0, (((i : Nat) : Int) + 1)), (1, ((0 + c) + (h (k + 1) i))), (9, 0)]) (st' := []) (g' := (am_up h (k + 1) i (((0 + c) + (h (k + 1) i)) % 2147483648))) rfl ?_
          refine wp_eq (ih13 (i + 1) ((((0 + c) + (h (k + 1) i)) / 2147483648)) ((am_up h (k + 1) i (((0 + c) + (h (k + 1) i)) % 2147483648))) ((1, ((0 + c) + (h (k + 1) i)))) ?_ ?_) (by first | rfl | (simp; done) | (simp; omega)) (by rfl) (by rfl)
          · omega
          · refine pi_step hH hA5 hW5.2.1 (by omega) ?_ rfl rfl
            unfold msk
            first | (rw [if_pos (by omega)]; exact hH.2.2.1 _ _ (by omega)) | rw [if_neg (by omega)]
        · have hla := hla (by omega)
          refine wp_n 1 (pc' := 32) (L' := [(2, ((k : Nat) : Int)), (2, ((a : Nat) : Int)), (1, c), (9, 0), (0, ((i : Nat) : Int)), w', (9, 0)]) (st' := [(2, ((a : Nat) : Int))]) (g' := h) rfl ?_
          refine wp_gfr (k := a) (r := (a + 1)) rfl hk_a.1 rfl rfl ?_
          refine wp_n 1 (pc' := 37) (L' := [(2, ((k : Nat) : Int)), (2, ((a : Nat) : Int)), (1, c), (9, 0), (0, ((i : Nat) : Int)), w', (9, 0)]) (st' := [(0, ((i : Nat) : Int)), (2, (((a + 1) : Nat) : Int))]) (g' := h) rfl ?_
          refine wp_iald (k := (a + 1)) (i) rfl hk_a.2 (by omega) (by omega) (by decide) ?_
          refine wp_n 1 (pc' := 42) (L' := [(2, ((k : Nat) : Int)), (2, ((a : Nat) : Int)), (1, c), (9, 0), (0, ((i : Nat) : Int)), w', (9, 0)]) (st' := [(0, (h (a + 1) i))]) (g' := h) rfl ?_
          refine wp_i2l rfl (by omega) ?_
          refine wp_n 3 (pc' := 46) (L' := [(2, ((k : Nat) : Int)), (2, ((a : Nat) : Int)), (1, c), (9, 0), (0, ((i : Nat) : Int)), w', (9, 0)]) (st' := [(2, ((k : Nat) : Int)), (1, ((h (a + 1) i) + c))]) (g' := h) rfl ?_
          refine wp_gfr (k := k) (r := (k + 1)) rfl hk_k.1 rfl rfl ?_
          refine wp_n 1 (pc' := 51) (L' := [(2, ((k : Nat) : Int)), (2, ((a : Nat) : Int)), (1, c), (9, 0), (0, ((i : Nat) : Int)), w', (9, 0)]) (st' := [(0, ((i : Nat) : Int)), (2, (((k + 1) : Nat) : Int)), (1, ((h (a + 1) i) + c))]) (g' := h) rfl ?_
          refine wp_iald (k := (k + 1)) (i) rfl hk_k.2 (by omega) (by omega) (by decide) ?_
          refine wp_i2l rfl (by omega) ?_
          refine wp_n 3 (pc' := 57) (L' := [(2, ((k : Nat) : Int)), (2, ((a : Nat) : Int)), (1, c), (9, 0), (0, ((i : Nat) : Int)), (1, (((h (a + 1) i) + c) + (h (k + 1) i))), (9, 0)]) (st' := [(2, ((k : Nat) : Int))]) (g' := h) rfl ?_
          refine wp_gfr (k := k) (r := (k + 1)) rfl hk_k.1 rfl rfl ?_
          refine wp_n 4 (pc' := 68) (L' := [(2, ((k : Nat) : Int)), (2, ((a : Nat) : Int)), (1, c), (9, 0), (0, ((i : Nat) : Int)), (1, (((h (a + 1) i) + c) + (h (k + 1) i))), (9, 0)]) (st' := [(1, (Int64.ofInt (((h (a + 1) i) + c) + (h (k + 1) i)) &&& Int64.ofInt 2147483647).toInt), (0, ((i : Nat) : Int)), (2, (((k + 1) : Nat) : Int))]) (g' := h) rfl ?_
          refine wp_eq (L' := [(2, ((k : Nat) : Int)), (2, ((a : Nat) : Int)), (1, c), (9, 0), (0, ((i : Nat) : Int)), (1, (((h (a + 1) i) + c) + (h (k + 1) i))), (9, 0)]) (st' := [(1, ((((h (a + 1) i) + c) + (h (k + 1) i)) % 2147483648)), (0, ((i : Nat) : Int)), (2, (((k + 1) : Nat) : Int))]) (g' := h) ?_ (by rfl) (by rw [land31 (by omega) (by omega)]) (by rfl)
          refine wp_n 1 (pc' := 69) (L' := [(2, ((k : Nat) : Int)), (2, ((a : Nat) : Int)), (1, c), (9, 0), (0, ((i : Nat) : Int)), (1, (((h (a + 1) i) + c) + (h (k + 1) i))), (9, 0)]) (st' := [(0, ((((h (a + 1) i) + c) + (h (k + 1) i)) % 2147483648)), (0, ((i : Nat) : Int)), (2, (((k + 1) : Nat) : Int))]) (g' := h) rfl ?_
          refine wp_iast (k := (k + 1)) (i) rfl hk_k.2 (by omega) (by omega) (by decide) ?_
          refine wp_n 3 (pc' := 75) (L' := [(2, ((k : Nat) : Int)), (2, ((a : Nat) : Int)), (1, c), (9, 0), (0, ((i : Nat) : Int)), (1, (((h (a + 1) i) + c) + (h (k + 1) i))), (9, 0)]) (st' := [(1, (((Int64.ofInt (((h (a + 1) i) + c) + (h (k + 1) i))).toUInt64 >>> ((Int32.ofInt 31).toInt64.toUInt64 &&& Int64.toUInt64 63)).toInt64).toInt)]) (g' := (am_up h (k + 1) i ((((h (a + 1) i) + c) + (h (k + 1) i)) % 2147483648))) rfl ?_
          refine wp_eq (L' := [(2, ((k : Nat) : Int)), (2, ((a : Nat) : Int)), (1, c), (9, 0), (0, ((i : Nat) : Int)), (1, (((h (a + 1) i) + c) + (h (k + 1) i))), (9, 0)]) (st' := [(1, ((((h (a + 1) i) + c) + (h (k + 1) i)) / 2147483648))]) (g' := (am_up h (k + 1) i ((((h (a + 1) i) + c) + (h (k + 1) i)) % 2147483648))) ?_ (by rfl) (by rw [lshr31 (by omega) (by omega)]) (by rfl)
          refine wp_n 3 (pc' := 13) (L' := [(2, ((k : Nat) : Int)), (2, ((a : Nat) : Int)), (1, ((((h (a + 1) i) + c) + (h (k + 1) i)) / 2147483648)), (9, 0), (0, (((i : Nat) : Int) + 1)), (1, (((h (a + 1) i) + c) + (h (k + 1) i))), (9, 0)]) (st' := []) (g' := (am_up h (k + 1) i ((((h (a + 1) i) + c) + (h (k + 1) i)) % 2147483648))) rfl ?_
          refine wp_eq (ih13 (i + 1) (((((h (a + 1) i) + c) + (h (k + 1) i)) / 2147483648)) ((am_up h (k + 1) i ((((h (a + 1) i) + c) + (h (k + 1) i)) % 2147483648))) ((1, (((h (a + 1) i) + c) + (h (k + 1) i)))) ?_ ?_) (by first | rfl | (simp; done) | (simp; omega)) (by rfl) (by rfl)
          · omega
          · refine pi_step hH hA5 hW5.2.1 (by omega) ?_ rfl rfl
            unfold msk
            first | (rw [if_pos (by omega)]; exact hH.2.2.1 _ _ (by omega)) | rw [if_neg (by omega)]
  refine wp_eq (L13 (_ + 1) (0) (0) (g5) ((9, 0)) (Nat.lt_succ_self _) ?_) (by first | rfl | (simp; done) | (simp; omega)) (by rfl) (by rfl)
  · exact pi_zero hW5
set_option maxHeartbeats 400000 in
set_option maxRecDepth 20000 in
theorem e_minus {sn : Nat} {sx : Nat → Int} {b : Nat} {g : am_G} {k : Nat} (hk_k : IsBig b k) {a : Nat} (hk_a : IsBig b a) {v w : Int} (hB : BigR g k v) (hA : BigR g a w) (hd : Dj k a) (ho : w ≤ v) : Ev sn sx 2 11 [(2, ((k : Nat) : Int)), (2, ((a : Nat) : Int))] (SH b) g (fun r => ∃ g', r = (none, SH b, g') ∧ BigR g' k (v - w) ∧ FrB k g g') := by
  obtain ⟨sz, hB, hk0⟩ := hB
  obtain ⟨m, hA, ha0⟩ := hA
  have hs := hB.1
  have hz := hB.2.1
  have hm := hA.1
  have hm4 := hA.2.1
  have hms := size_le hB.in.2 ha0 ho
  refine ev_of (K := 1) T11 (by decide) rfl rfl (Nat.le_of_ble_eq_true rfl) ?_
  refine wp_eq (L' := [(2, ((k : Nat) : Int)), (2, ((a : Nat) : Int)), (9, 0), (9, 0), (9, 0), (9, 0), (9, 0)]) (st' := []) (g' := g) ?_
  refine wp_n 4 (pc' := 5) (L' := [(2, ((k : Nat) : Int)), (2, ((a : Nat) : Int)), (1, 0), (9, 0), (0, 0), (9, 0), (9, 0)]) (st' := []) (g' := g) rfl ?_
  have L5 : ∀ (lf : Nat) (i : Nat) (c : Int) (h : am_G) (w' : am_V), sz - i < lf → (MI k a sz m g h i c) → Wp sn sx 1 T11 5 [(2, ((k : Nat) : Int)), (2, ((a : Nat) : Int)), (1, c), (9, 0), (0, ((i : Nat) : Int)), w', (9, 0)] [] (SH b) h (fun r => ∃ g', r = (none, SH b, g') ∧ BigR g' k (v - w) ∧ FrB k g g') := by
    intro lf
    induction lf with
    | zero => intro i c h w' hlf; exact absurd hlf (Nat.not_lt_zero _)
    | succ lf ih5 =>
      intro i c h w' hlf hH
      have hc := hH.2.1
      have hi := hH.1
      have hq : h k 1 = sz := by rw [hH.2.2.1 k 1 (by omega)]; exact hs
      have hqa : h a 1 = m := by rw [hH.2.2.1 a 1 (by omega)]; exact hm
      refine wp_n 2 (pc' := 8) (L' := [(2, ((k : Nat) : Int)), (2, ((a : Nat) : Int)), (1, c), (9, 0), (0, ((i : Nat) : Int)), w', (9, 0)]) (st' := [(2, ((k : Nat) : Int)), (0, ((i : Nat) : Int))]) (g' := h) rfl ?_
      refine wp_gfi (k := k) 1 rfl rfl hk_k.1 (Or.inl rfl) ?_
      refine wp_ic_ge rfl (fun c1 => ?_) (fun c1 => ?_)
      · obtain rfl : i = sz := by omega
        have hE := mi_end hB hA hms hH ho
        refine wp_n 1 (pc' := 82) (L' := [(2, ((k : Nat) : Int)), (2, ((a : Nat) : Int)), (1, c), (9, 0), (0, ((i : Nat) : Int)), w', (9, 0)]) (st' := [(2, ((k : Nat) : Int))]) (g' := h) rfl ?_
        refine wp_cv (as := [(2, ((k : Nat) : Int))]) (rest := []) rfl rfl rfl (Nat.le_of_ble_eq_true rfl) (am_rcv_of hk_k.1 (by decide)) (e_trim hk_k hE.1) (by decide) (fun r2 h3 => ?_)
        obtain ⟨g82, rfl, hR82, hF82⟩ := h3
        refine wp_eq (L' := [(2, ((k : Nat) : Int)), (2, ((a : Nat) : Int)), (1, c), (9, 0), (0, ((i : Nat) : Int)), w', (9, 0)]) (st' := []) (g' := g82) ?_
        exact wp_ret rfl rfl rfl ⟨_, rfl, hR82, hE.2.trans hF82⟩
      · have hlk := hH.2.2.2.2.1 i (by omega)
        have hla : i < m → h (a + 1) i = g (a + 1) i ∧ 0 ≤ g (a + 1) i ∧ g (a + 1) i < 2147483648 := fun q => ⟨hH.2.2.1 _ _ (by omega), hA.2.2.1 i (by omega)⟩
        refine wp_n 1 (pc' := 15) (L' := [(2, ((k : Nat) : Int)), (2, ((a : Nat) : Int)), (1, c), (9, 0), (0, ((i : Nat) : Int)), w', (9, 0)]) (st' := [(2, ((k : Nat) : Int))]) (g' := h) rfl ?_
        refine wp_gfr (k := k) (r := (k + 1)) rfl hk_k.1 rfl rfl ?_
        refine wp_n 1 (pc' := 20) (L' := [(2, ((k : Nat) : Int)), (2, ((a : Nat) : Int)), (1, c), (9, 0), (0, ((i : Nat) : Int)), w', (9, 0)]) (st' := [(0, ((i : Nat) : Int)), (2, (((k + 1) : Nat) : Int))]) (g' := h) rfl ?_
        refine wp_iald (k := (k + 1)) (i) rfl hk_k.2 (by omega) (by omega) (by decide) ?_
        refine wp_i2l rfl (by omega) ?_
        refine wp_n 4 (pc' := 27) (L' := [(2, ((k : Nat) : Int)), (2, ((a : Nat) : Int)), (1, c), (9, 0), (0, ((i : Nat) : Int)), w', (9, 0)]) (st' := [(2, ((a : Nat) : Int)), (0, ((i : Nat) : Int)), (1, ((h (k + 1) i) - c))]) (g' := h) rfl ?_
        refine wp_gfi (k := a) 1 rfl rfl hk_a.1 (Or.inl rfl) ?_
        refine wp_ic_ge rfl (fun c4 => ?_) (fun c4 => ?_)
        · refine wp_n 1 (pc' := 44) (L' := [(2, ((k : Nat) : Int)), (2, ((a : Nat) : Int)), (1, c), (9, 0), (0, ((i : Nat) : Int)), w', (9, 0)]) (st' := [(0, 0), (1, ((h (k + 1) i) - c))]) (g' := h) rfl ?_
          refine wp_i2l rfl (by omega) ?_
          refine wp_n 4 (pc' := 51) (L' := [(2, ((k : Nat) : Int)), (2, ((a : Nat) : Int)), (1, c), (9, 0), (0, ((i : Nat) : Int)), (1, (((h (k + 1) i) - c) - 0)), (9, 0)]) (st' := [(1, 0), (1, (((h (k + 1) i) - c) - 0))]) (g' := h) rfl ?_
          refine wp_lc_ge rfl rfl (by omega) (by omega) (fun c5 => ?_) (fun c5 => ?_)
          · refine wp_n 3 (pc' := 62) (L' := [(2, ((k : Nat) : Int)), (2, ((a : Nat) : Int)), (1, 0), (9, 0), (0, ((i : Nat) : Int)), (1, (((h (k + 1) i) - c) - 0)), (9, 0)]) (st' := [(2, ((k : Nat) : Int))]) (g' := h) rfl ?_
            refine wp_gfr (k := k) (r := (k + 1)) rfl hk_k.1 rfl rfl ?_
            refine wp_n 4 (pc' := 73) (L' := [(2, ((k : Nat) : Int)), (2, ((a : Nat) : Int)), (1, 0), (9, 0), (0, ((i : Nat) : Int)), (1, (((h (k + 1) i) - c) - 0)), (9, 0)]) (st' := [(1, (Int64.ofInt (((h (k + 1) i) - c) - 0) &&& Int64.ofInt 2147483647).toInt), (0, ((i : Nat) : Int)), (2, (((k + 1) : Nat) : Int))]) (g' := h) rfl ?_
            refine wp_eq (L' := [(2, ((k : Nat) : Int)), (2, ((a : Nat) : Int)), (1, 0), (9, 0), (0, ((i : Nat) : Int)), (1, (((h (k + 1) i) - c) - 0)), (9, 0)]) (st' := [(1, ((((h (k + 1) i) - c) - 0) % 2147483648)), (0, ((i : Nat) : Int)), (2, (((k + 1) : Nat) : Int))]) (g' := h) ?_ (by rfl) (by rw [land31' (by omega) (by omega)]) (by rfl)
            refine wp_n 1 (pc' := 74) (L' := [(2, ((k : Nat) : Int)), (2, ((a : Nat) : Int)), (1, 0), (9, 0), (0, ((i : Nat) : Int)), (1, (((h (k + 1) i) - c) - 0)), (9, 0)]) (st' := [(0, ((((h (k + 1) i) - c) - 0) % 2147483648)), (0, ((i : Nat) : Int)), (2, (((k + 1) : Nat) : Int))]) (g' := h) rfl ?_
            refine wp_iast (k := (k + 1)) (i) rfl hk_k.2 (by omega) (by omega) (by decide) ?_
            refine wp_n 2 (pc' := 5) (L' := [(2, ((k : Nat) : Int)), (2, ((a : Nat) : Int)), (1, 0), (9, 0), (0, (((i : Nat) : Int) + 1)), (1, (((h (k + 1) i) - c) - 0)), (9, 0)]) (st' := []) (g' := (am_up h (k + 1) i ((((h (k + 1) i) - c) - 0) % 2147483648))) rfl ?_
            refine wp_eq (ih5 (i + 1) (0) ((am_up h (k + 1) i ((((h (k + 1) i) - c) - 0) % 2147483648))) ((1, (((h (k + 1) i) - c) - 0))) ?_ ?_) (by first | rfl | (simp; done) | (simp; omega)) (by rfl) (by rfl)
            · omega
            · refine mi_step hH hA hz (by omega) ?_ rfl (by first | exact Or.inl ⟨by omega, rfl⟩ | exact Or.inr ⟨by omega, rfl⟩)
              unfold msk
              first | (rw [if_pos (by omega)]; exact hH.2.2.1 _ _ (by omega)) | rw [if_neg (by omega)]
          · refine wp_n 4 (pc' := 62) (L' := [(2, ((k : Nat) : Int)), (2, ((a : Nat) : Int)), (1, 1), (9, 0), (0, ((i : Nat) : Int)), (1, (((h (k + 1) i) - c) - 0)), (9, 0)]) (st' := [(2, ((k : Nat) : Int))]) (g' := h) rfl ?_
            refine wp_gfr (k := k) (r := (k + 1)) rfl hk_k.1 rfl rfl ?_
            refine wp_n 4 (pc' := 73) (L' := [(2, ((k : Nat) : Int)), (2, ((a : Nat) : Int)), (1, 1), (9, 0), (0, ((i : Nat) : Int)), (1, (((h (k + 1) i) - c) - 0)), (9, 0)]) (st' := [(1, (Int64.ofInt (((h (k + 1) i) - c) - 0) &&& Int64.ofInt 2147483647).toInt), (0, ((i : Nat) : Int)), (2, (((k + 1) : Nat) : Int))]) (g' := h) rfl ?_
            refine wp_eq (L' := [(2, ((k : Nat) : Int)), (2, ((a : Nat) : Int)), (1, 1), (9, 0), (0, ((i : Nat) : Int)), (1, (((h (k + 1) i) - c) - 0)), (9, 0)]) (st' := [(1, ((((h (k + 1) i) - c) - 0) % 2147483648)), (0, ((i : Nat) : Int)), (2, (((k + 1) : Nat) : Int))]) (g' := h) ?_ (by rfl) (by rw [land31' (by omega) (by omega)]) (by rfl)
            refine wp_n 1 (pc' := 74) (L' := [(2, ((k : Nat) : Int)), (2, ((a : Nat) : Int)), (1, 1), (9, 0), (0, ((i : Nat) : Int)), (1, (((h (k + 1) i) - c) - 0)), (9, 0)]) (st' := [(0, ((((h (k + 1) i) - c) - 0) % 2147483648)), (0, ((i : Nat) : Int)), (2, (((k + 1) : Nat) : Int))]) (g' := h) rfl ?_
            refine wp_iast (k := (k + 1)) (i) rfl hk_k.2 (by omega) (by omega) (by decide) ?_
            refine wp_n 2 (pc' := 5) (L' := [(2, ((k : Nat) : Int)), (2, ((a : Nat) : Int)), (1, 1), (9, 0), (0, (((i : Nat) : Int) + 1)), (1, (((h (k + 1) i) - c) - 0)), (9, 0)]) (st' := []) (g' := (am_up h (k + 1) i ((((h (k + 1) i) - c) - 0) % 2147483648))) rfl ?_
            refine wp_eq (ih5 (i + 1) (1) ((am_up h (k + 1) i ((((h (k + 1) i) - c) - 0) % 2147483648))) ((1, (((h (k + 1) i) - c) - 0))) ?_ ?_) (by first | rfl | (simp; done) | (simp; omega)) (by rfl) (by rfl)
            · omega
            · refine mi_step hH hA hz (by omega) ?_ rfl (by first | exact Or.inl ⟨by omega, rfl⟩ | exact Or.inr ⟨by omega, rfl⟩)
              unfold msk
              first | (rw [if_pos (by omega)]; exact hH.2.2.1 _ _ (by omega)) | rw [if_neg (by omega)]
        · have hla := hla (by omega)
          refine wp_n 1 (pc' := 34) (L' := [(2, ((k : Nat) : Int)), (2, ((a : Nat) : Int)), (1, c), (9, 0), (0, ((i : Nat) : Int)), w', (9, 0)]) (st' := [(2, ((a : Nat) : Int)), (1, ((h (k + 1) i) - c))]) (g' := h) rfl ?_
          refine wp_gfr (k := a) (r := (a + 1)) rfl hk_a.1 rfl rfl ?_
          refine wp_n 1 (pc' := 39) (L' := [(2, ((k : Nat) : Int)), (2, ((a : Nat) : Int)), (1, c), (9, 0), (0, ((i : Nat) : Int)), w', (9, 0)]) (st' := [(0, ((i : Nat) : Int)), (2, (((a + 1) : Nat) : Int)), (1, ((h (k + 1) i) - c))]) (g' := h) rfl ?_
          refine wp_iald (k := (a + 1)) (i) rfl hk_a.2 (by omega) (by omega) (by decide) ?_
          refine wp_n 1 (pc' := 44) (L' := [(2, ((k : Nat) : Int)), (2, ((a : Nat) : Int)), (1, c), (9, 0), (0, ((i : Nat) : Int)), w', (9, 0)]) (st' := [(0, (h (a + 1) i)), (1, ((h (k + 1) i) - c))]) (g' := h) rfl ?_
          refine wp_i2l rfl (by omega) ?_
          refine wp_n 4 (pc' := 51) (L' := [(2, ((k : Nat) : Int)), (2, ((a : Nat) : Int)), (1, c), (9, 0), (0, ((i : Nat) : Int)), (1, (((h (k + 1) i) - c) - (h (a + 1) i))), (9, 0)]) (st' := [(1, 0), (1, (((h (k + 1) i) - c) - (h (a + 1) i)))]) (g' := h) rfl ?_
          refine wp_lc_ge rfl rfl (by omega) (by omega) (fun c6 => ?_) (fun c6 => ?_)
          · refine wp_n 3 (pc' := 62) (L' := [(2, ((k : Nat) : Int)), (2, ((a : Nat) : Int)), (1, 0), (9, 0), (0, ((i : Nat) : Int)), (1, (((h (k + 1) i) - c) - (h (a + 1) i))), (9, 0)]) (st' := [(2, ((k : Nat) : Int))]) (g' := h) rfl ?_
            refine wp_gfr (k := k) (r := (k + 1)) rfl hk_k.1 rfl rfl ?_
            refine wp_n 4 (pc' := 73) (L' := [(2, ((k : Nat) : Int)), (2, ((a : Nat) : Int)), (1, 0), (9, 0), (0, ((i : Nat) : Int)), (1, (((h (k + 1) i) - c) - (h (a + 1) i))), (9, 0)]) (st' := [(1, (Int64.ofInt (((h (k + 1) i) - c) - (h (a + 1) i)) &&& Int64.ofInt 2147483647).toInt), (0, ((i : Nat) : Int)), (2, (((k + 1) : Nat) : Int))]) (g' := h) rfl ?_
            refine wp_eq (L' := [(2, ((k : Nat) : Int)), (2, ((a : Nat) : Int)), (1, 0), (9, 0), (0, ((i : Nat) : Int)), (1, (((h (k + 1) i) - c) - (h (a + 1) i))), (9, 0)]) (st' := [(1, ((((h (k + 1) i) - c) - (h (a + 1) i)) % 2147483648)), (0, ((i : Nat) : Int)), (2, (((k + 1) : Nat) : Int))]) (g' := h) ?_ (by rfl) (by rw [land31' (by omega) (by omega)]) (by rfl)
            refine wp_n 1 (pc' := 74) (L' := [(2, ((k : Nat) : Int)), (2, ((a : Nat) : Int)), (1, 0), (9, 0), (0, ((i : Nat) : Int)), (1, (((h (k + 1) i) - c) - (h (a + 1) i))), (9, 0)]) (st' := [(0, ((((h (k + 1) i) - c) - (h (a + 1) i)) % 2147483648)), (0, ((i : Nat) : Int)), (2, (((k + 1) : Nat) : Int))]) (g' := h) rfl ?_
            refine wp_iast (k := (k + 1)) (i) rfl hk_k.2 (by omega) (by omega) (by decide) ?_
            refine wp_n 2 (pc' := 5) (L' := [(2, ((k : Nat) : Int)), (2, ((a : Nat) : Int)), (1, 0), (9, 0), (0, (((i : Nat) : Int) + 1)), (1, (((h (k + 1) i) - c) - (h (a + 1) i))), (9, 0)]) (st' := []) (g' := (am_up h (k + 1) i ((((h (k + 1) i) - c) - (h (a + 1) i)) % 2147483648))) rfl ?_
            refine wp_eq (ih5 (i + 1) (0) ((am_up h (k + 1) i ((((h (k + 1) i) - c) - (h (a + 1) i)) % 2147483648))) ((1, (((h (k + 1) i) - c) - (h (a + 1) i)))) ?_ ?_) (by first | rfl | (simp; done) | (simp; omega)) (by rfl) (by rfl)
            · omega
            · refine mi_step hH hA hz (by omega) ?_ rfl (by first | exact Or.inl ⟨by omega, rfl⟩ | exact Or.inr ⟨by omega, rfl⟩)
              unfold msk
              first | (rw [if_pos (by omega)]; exact hH.2.2.1 _ _ (by omega)) | rw [if_neg (by omega)]
          · refine wp_n 4 (pc' := 62) (L' := [(2, ((k : Nat) : Int)), (2, ((a : Nat) : Int)), (1, 1), (9, 0), (0, ((i : Nat) : Int)), (1, (((h (k + 1) i) - c) - (h (a + 1) i))), (9, 0)]) (st' := [(2, ((k : Nat) : Int))]) (g' := h) rfl ?_
            refine wp_gfr (k := k) (r := (k + 1)) rfl hk_k.1 rfl rfl ?_
            refine wp_n 4 (pc' := 73) (L' := [(2, ((k : Nat) : Int)), (2, ((a : Nat) : Int)), (1, 1), (9, 0), (0, ((i : Nat) : Int)), (1, (((h (k + 1) i) - c) - (h (a + 1) i))), (9, 0)]) (st' := [(1, (Int64.ofInt (((h (k + 1) i) - c) - (h (a + 1) i)) &&& Int64.ofInt 2147483647).toInt), (0, ((i : Nat) : Int)), (2, (((k + 1) : Nat) : Int))]) (g' := h) rfl ?_
            refine wp_eq (L' := [(2, ((k : Nat) : Int)), (2, ((a : Nat) : Int)), (1, 1), (9, 0), (0, ((i : Nat) : Int)), (1, (((h (k + 1) i) - c) - (h (a + 1) i))), (9, 0)]) (st' := [(1, ((((h (k + 1) i) - c) - (h (a + 1) i)) % 2147483648)), (0, ((i : Nat) : Int)), (2, (((k + 1) : Nat) : Int))]) (g' := h) ?_ (by rfl) (by rw [land31' (by omega) (by omega)]) (by rfl)
            refine wp_n 1 (pc' := 74) (L' := [(2, ((k : Nat) : Int)), (2, ((a : Nat) : Int)), (1, 1), (9, 0), (0, ((i : Nat) : Int)), (1, (((h (k + 1) i) - c) - (h (a + 1) i))), (9, 0)]) (st' := [(0, ((((h (k + 1) i) - c) - (h (a + 1) i)) % 2147483648)), (0, ((i : Nat) : Int)), (2, (((k + 1) : Nat) : Int))]) (g' := h) rfl ?_
            refine wp_iast (k := (k + 1)) (i) rfl hk_k.2 (by omega) (by omega) (by decide) ?_
            refine wp_n 2 (pc' := 5) (L' := [(2, ((k : Nat) : Int)), (2, ((a : Nat) : Int)), (1, 1), (9, 0), (0, (((i : Nat) : Int) + 1)), (1, (((h (k + 1) i) - c) - (h (a + 1) i))), (9, 0)]) (st' := []) (g' := (am_up h (k + 1) i ((((h (k + 1) i) - c) - (h (a + 1) i)) % 2147483648))) rfl ?_
            refine wp_eq (ih5 (i + 1) (1) ((am_up h (k + 1) i ((((h (k + 1) i) - c) - (h (a + 1) i)) % 2147483648))) ((1, (((h (k + 1) i) - c) - (h (a + 1) i)))) ?_ ?_) (by first | rfl | (simp; done) | (simp; omega)) (by rfl) (by rfl)
            · omega
            · refine mi_step hH hA hz (by omega) ?_ rfl (by first | exact Or.inl ⟨by omega, rfl⟩ | exact Or.inr ⟨by omega, rfl⟩)
              unfold msk
              first | (rw [if_pos (by omega)]; exact hH.2.2.1 _ _ (by omega)) | rw [if_neg (by omega)]
  refine wp_eq (L5 (_ + 1) (0) (0) (g) ((9, 0)) (Nat.lt_succ_self _) ?_) (by first | rfl | (simp; done) | (simp; omega)) (by rfl) (by rfl)
  · exact mi_zero hB
set_option maxHeartbeats 400000 in
set_option maxRecDepth 20000 in
theorem e_reaches {sn : Nat} {sx : Nat → Int} {b : Nat} {g : am_G} {k : Nat} (hk_k : IsBig b k) {a : Nat} (hk_a : IsBig b a) {v w : Int} (hB : BigR g k v) (hA : BigR g a w) : Ev sn sx 1 12 [(2, ((k : Nat) : Int)), (2, ((a : Nat) : Int))] (SH b) g (fun r => Is1 r (SH b) g (w ≤ v)) := by
  obtain ⟨sz, hB, hk0⟩ := hB
  obtain ⟨m, hA, ha0⟩ := hA
  have hs := hB.1
  have hz := hB.2.1
  have hm := hA.1
  have hm4 := hA.2.1
  refine ev_of (K := 0) T12 (by decide) rfl rfl (Nat.le_of_ble_eq_true rfl) ?_
  refine wp_eq (L' := [(2, ((k : Nat) : Int)), (2, ((a : Nat) : Int)), (9, 0)]) (st' := []) (g' := g) ?_
  refine wp_n 1 (pc' := 1) (L' := [(2, ((k : Nat) : Int)), (2, ((a : Nat) : Int)), (9, 0)]) (st' := [(2, ((k : Nat) : Int))]) (g' := g) rfl ?_
  refine wp_gfi (k := k) 1 rfl rfl hk_k.1 (Or.inl rfl) ?_
  refine wp_n 1 (pc' := 5) (L' := [(2, ((k : Nat) : Int)), (2, ((a : Nat) : Int)), (9, 0)]) (st' := [(2, ((a : Nat) : Int)), (0, (g k 1))]) (g' := g) rfl ?_
  refine wp_gfi (k := a) 1 rfl rfl hk_a.1 (Or.inl rfl) ?_
  refine wp_ic_eq rfl (fun c1 => ?_) (fun c1 => ?_)
  · obtain rfl : sz = m := by omega
    refine wp_n 1 (pc' := 29) (L' := [(2, ((k : Nat) : Int)), (2, ((a : Nat) : Int)), (9, 0)]) (st' := [(2, ((k : Nat) : Int))]) (g' := g) rfl ?_
    refine wp_gfi (k := k) 1 rfl rfl hk_k.1 (Or.inl rfl) ?_
    refine wp_n 3 (pc' := 35) (L' := [(2, ((k : Nat) : Int)), (2, ((a : Nat) : Int)), (0, ((g k 1) - 1))]) (st' := []) (g' := g) rfl ?_
    have L35 : ∀ (lf : Nat) (s : Nat), s < lf → (RI k a sz g s) → Wp sn sx 0 T12 35 [(2, ((k : Nat) : Int)), (2, ((a : Nat) : Int)), (0, ((s : Int) - 1))] [] (SH b) g (fun r => Is1 r (SH b) g (w ≤ v)) := by
      intro lf
      induction lf with
      | zero => intro s hlf; exact absurd hlf (Nat.not_lt_zero _)
      | succ lf ih35 =>
        intro s hlf hH
        have hi := hH.1
        refine wp_n 1 (pc' := 36) (L' := [(2, ((k : Nat) : Int)), (2, ((a : Nat) : Int)), (0, ((s : Int) - 1))]) (st' := [(0, ((s : Int) - 1))]) (g' := g) rfl ?_
        refine wp_if_lt rfl (fun c2 => ?_) (fun c2 => ?_)
        · have hH2 : bval (g (k + 1)) sz = bval (g (a + 1)) sz := ri_done hH (by omega)
          have hv1 := hB.2.2.2
          have hv2 := hA.2.2.2
          refine wp_n 1 (pc' := 82) (L' := [(2, ((k : Nat) : Int)), (2, ((a : Nat) : Int)), (0, ((s : Int) - 1))]) (st' := [(0, 1)]) (g' := g) rfl ?_
          exact wp_ret rfl rfl rfl (Or.inl ⟨rfl, by omega⟩)
        · have hlk := hB.2.2.1 (s - 1) (by omega)
          have hla := hA.2.2.1 (s - 1) (by omega)
          refine wp_n 1 (pc' := 40) (L' := [(2, ((k : Nat) : Int)), (2, ((a : Nat) : Int)), (0, ((s : Int) - 1))]) (st' := [(2, ((k : Nat) : Int))]) (g' := g) rfl ?_
          refine wp_gfr (k := k) (r := (k + 1)) rfl hk_k.1 rfl rfl ?_
          refine wp_n 1 (pc' := 44) (L' := [(2, ((k : Nat) : Int)), (2, ((a : Nat) : Int)), (0, ((s : Int) - 1))]) (st' := [(0, ((s : Int) - 1)), (2, (((k + 1) : Nat) : Int))]) (g' := g) rfl ?_
          refine wp_iald (k := (k + 1)) ((s - 1)) rfl hk_k.2 (by omega) (by omega) (by decide) ?_
          refine wp_n 1 (pc' := 46) (L' := [(2, ((k : Nat) : Int)), (2, ((a : Nat) : Int)), (0, ((s : Int) - 1))]) (st' := [(2, ((a : Nat) : Int)), (0, (g (k + 1) (s - 1)))]) (g' := g) rfl ?_
          refine wp_gfr (k := a) (r := (a + 1)) rfl hk_a.1 rfl rfl ?_
          refine wp_n 1 (pc' := 50) (L' := [(2, ((k : Nat) : Int)), (2, ((a : Nat) : Int)), (0, ((s : Int) - 1))]) (st' := [(0, ((s : Int) - 1)), (2, (((a + 1) : Nat) : Int)), (0, (g (k + 1) (s - 1)))]) (g' := g) rfl ?_
          refine wp_iald (k := (a + 1)) ((s - 1)) rfl hk_a.2 (by omega) (by omega) (by decide) ?_
          refine wp_ic_eq rfl (fun c3 => ?_) (fun c3 => ?_)
          · refine wp_n 2 (pc' := 35) (L' := [(2, ((k : Nat) : Int)), (2, ((a : Nat) : Int)), (0, (((s : Int) - 1) + (-1)))]) (st' := []) (g' := g) rfl ?_
            refine wp_eq (ih35 (s - 1) ?_ ?_) (by rw [show ((s - 1 : Nat) : Int) = (s : Int) - 1 by omega]; rfl) (by rfl) (by rfl)
            · omega
            · exact ri_step (ri_next hH (by omega)) (by omega)
          · refine wp_n 1 (pc' := 55) (L' := [(2, ((k : Nat) : Int)), (2, ((a : Nat) : Int)), (0, ((s : Int) - 1))]) (st' := [(2, ((k : Nat) : Int))]) (g' := g) rfl ?_
            refine wp_gfr (k := k) (r := (k + 1)) rfl hk_k.1 rfl rfl ?_
            refine wp_n 1 (pc' := 59) (L' := [(2, ((k : Nat) : Int)), (2, ((a : Nat) : Int)), (0, ((s : Int) - 1))]) (st' := [(0, ((s : Int) - 1)), (2, (((k + 1) : Nat) : Int))]) (g' := g) rfl ?_
            refine wp_iald (k := (k + 1)) ((s - 1)) rfl hk_k.2 (by omega) (by omega) (by decide) ?_
            refine wp_n 1 (pc' := 61) (L' := [(2, ((k : Nat) : Int)), (2, ((a : Nat) : Int)), (0, ((s : Int) - 1))]) (st' := [(2, ((a : Nat) : Int)), (0, (g (k + 1) (s - 1)))]) (g' := g) rfl ?_
            refine wp_gfr (k := a) (r := (a + 1)) rfl hk_a.1 rfl rfl ?_
            refine wp_n 1 (pc' := 65) (L' := [(2, ((k : Nat) : Int)), (2, ((a : Nat) : Int)), (0, ((s : Int) - 1))]) (st' := [(0, ((s : Int) - 1)), (2, (((a + 1) : Nat) : Int)), (0, (g (k + 1) (s - 1)))]) (g' := g) rfl ?_
            refine wp_iald (k := (a + 1)) ((s - 1)) rfl hk_a.2 (by omega) (by omega) (by decide) ?_
            refine wp_ic_le rfl (fun c4 => ?_) (fun c4 => ?_)
            · refine wp_n 1 (pc' := 74) (L' := [(2, ((k : Nat) : Int)), (2, ((a : Nat) : Int)), (0, ((s : Int) - 1))]) (st' := [(0, 0)]) (g' := g) rfl ?_
              exact wp_ret rfl rfl rfl (Or.inr ⟨rfl, by have := ri_lt hB hA (ri_next hH (by omega)) (by omega); omega⟩)
            · refine wp_n 2 (pc' := 74) (L' := [(2, ((k : Nat) : Int)), (2, ((a : Nat) : Int)), (0, ((s : Int) - 1))]) (st' := [(0, 1)]) (g' := g) rfl ?_
              exact wp_ret rfl rfl rfl (Or.inl ⟨rfl, by have := ri_lt hA hB (RI.symm (ri_next hH (by omega))) (by omega); omega⟩)
    refine wp_eq (L35 (_ + 1) (sz) (Nat.lt_succ_self _) ?_) (by rw [hs]) (by rfl) (by rfl)
    · exact ⟨Nat.le_refl _, by omega⟩
  · refine wp_n 1 (pc' := 12) (L' := [(2, ((k : Nat) : Int)), (2, ((a : Nat) : Int)), (9, 0)]) (st' := [(2, ((k : Nat) : Int))]) (g' := g) rfl ?_
    refine wp_gfi (k := k) 1 rfl rfl hk_k.1 (Or.inl rfl) ?_
    refine wp_n 1 (pc' := 16) (L' := [(2, ((k : Nat) : Int)), (2, ((a : Nat) : Int)), (9, 0)]) (st' := [(2, ((a : Nat) : Int)), (0, (g k 1))]) (g' := g) rfl ?_
    refine wp_gfi (k := a) 1 rfl rfl hk_a.1 (Or.inl rfl) ?_
    refine wp_ic_le rfl (fun c5 => ?_) (fun c5 => ?_)
    · refine wp_n 1 (pc' := 27) (L' := [(2, ((k : Nat) : Int)), (2, ((a : Nat) : Int)), (9, 0)]) (st' := [(0, 0)]) (g' := g) rfl ?_
      exact wp_ret rfl rfl rfl (Or.inr ⟨rfl, by have := size_lt hB.in.2 ha0 (by omega); omega⟩)
    · refine wp_n 2 (pc' := 27) (L' := [(2, ((k : Nat) : Int)), (2, ((a : Nat) : Int)), (9, 0)]) (st' := [(0, 1)]) (g' := g) rfl ?_
      exact wp_ret rfl rfl rfl (Or.inl ⟨rfl, by have := size_lt hA.in.2 hk0 (by omega); omega⟩)
