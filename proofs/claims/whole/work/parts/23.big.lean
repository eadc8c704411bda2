/-! NUMBERS IN LIMBS OF 31 BITS: the class's own methods -/
def IsBig (b k : Nat) : Prop := (SH b)[k]? = some (5, 2, [k + 2, 0]) ∧ (SH b)[k + 1]? = some (0, 40, [])
set_option maxHeartbeats 400000 in
set_option maxRecDepth 20000 in
theorem e_max {sn : Nat} {sx : Nat → Int} {g : am_G} {sh : am_Sh} {x y : Int} (hx : R32 x) (hy : R32 y) : Ev sn sx 1 255 [(0, x), (0, y)] sh g (fun r => r = (some (0, if x < y then y else x), sh, g)) := by
  refine ev_of (K := 0) T255 (by decide) rfl rfl (Nat.le_of_ble_eq_true rfl) ?_
  refine wp_eq (L' := [(0, x), (0, y)]) (st' := []) (g' := g) ?_
  refine wp_n 2 (pc' := 2) (L' := [(0, x), (0, y)]) (st' := [(0, y), (0, x)]) (g' := g) rfl ?_
  refine wp_ic_lt rfl (fun c1 => ?_) (fun c1 => ?_)
  · refine wp_n 1 (pc' := 10) (L' := [(0, x), (0, y)]) (st' := [(0, y)]) (g' := g) rfl ?_
    exact wp_ret rfl rfl (v := some (0, y)) rfl (by show _ = _; first | rw [if_pos (by omega)] | rw [if_neg (by omega)] | (split <;> (have : x = y := by omega) <;> subst this <;> rfl))
  · refine wp_n 2 (pc' := 10) (L' := [(0, x), (0, y)]) (st' := [(0, x)]) (g' := g) rfl ?_
    exact wp_ret rfl rfl (v := some (0, x)) rfl (by show _ = _; first | rw [if_pos (by omega)] | rw [if_neg (by omega)] | (split <;> (have : x = y := by omega) <;> subst this <;> rfl))
set_option maxHeartbeats 400000 in
set_option maxRecDepth 20000 in
theorem e_min {sn : Nat} {sx : Nat → Int} {g : am_G} {sh : am_Sh} {x y : Int} (hx : R32 x) (hy : R32 y) : Ev sn sx 1 257 [(0, x), (0, y)] sh g (fun r => r = (some (0, if y < x then y else x), sh, g)) := by
  refine ev_of (K := 0) T257 (by decide) rfl rfl (Nat.le_of_ble_eq_true rfl) ?_
  refine wp_eq (L' := [(0, x), (0, y)]) (st' := []) (g' := g) ?_
  refine wp_n 2 (pc' := 2) (L' := [(0, x), (0, y)]) (st' := [(0, y), (0, x)]) (g' := g) rfl ?_
  refine wp_ic_gt rfl (fun c1 => ?_) (fun c1 => ?_)
  · refine wp_n 1 (pc' := 10) (L' := [(0, x), (0, y)]) (st' := [(0, y)]) (g' := g) rfl ?_
    exact wp_ret rfl rfl (v := some (0, y)) rfl (by show _ = _; first | rw [if_pos (by omega)] | rw [if_neg (by omega)] | (split <;> (have : x = y := by omega) <;> subst this <;> rfl))
  · refine wp_n 2 (pc' := 10) (L' := [(0, x), (0, y)]) (st' := [(0, x)]) (g' := g) rfl ?_
    exact wp_ret rfl rfl (v := some (0, x)) rfl (by show _ = _; first | rw [if_pos (by omega)] | rw [if_neg (by omega)] | (split <;> (have : x = y := by omega) <;> subst this <;> rfl))
set_option maxHeartbeats 400000 in
set_option maxRecDepth 20000 in
theorem e_trim {sn : Nat} {sx : Nat → Int} {b : Nat} {g : am_G} {k : Nat} (hk_k : IsBig b k) {sz : Nat} {v : Int} (hB : BigW g k sz v) : Ev sn sx 1 16 [(2, ((k : Nat) : Int))] (SH b) g (fun r => ∃ g', r = (none, SH b, g') ∧ BigR g' k v ∧ FrB k g g') := by
  refine ev_of (K := 0) T16 (by decide) rfl rfl (Nat.le_of_ble_eq_true rfl) ?_
  refine wp_eq (L' := [(2, ((k : Nat) : Int))]) (st' := []) (g' := g) ?_
  have L0 : ∀ (lf : Nat) (z : Nat) (h : am_G), z < lf → (BigW h k z v) → (FrB k g h) → Wp sn sx 0 T16 0 [(2, ((k : Nat) : Int))] [] (SH b) h (fun r => ∃ g', r = (none, SH b, g') ∧ BigR g' k v ∧ FrB k g g') := by
    intro lf
    induction lf with
    | zero => intro z h hlf; exact absurd hlf (Nat.not_lt_zero _)
    | succ lf ih0 =>
      intro z h hlf hH hF
      have hs := hH.1
      have hl := hH.2.1
      refine wp_n 1 (pc' := 1) (L' := [(2, ((k : Nat) : Int))]) (st' := [(2, ((k : Nat) : Int))]) (g' := h) rfl ?_
      refine wp_gfi (k := k) 1 rfl rfl hk_k.1 (Or.inl rfl) ?_
      refine wp_if_le rfl (fun c1 => ?_) (fun c1 => ?_)
      · exact wp_ret rfl rfl rfl ⟨_, rfl, big_trim0 hH (Or.inl (by omega)), hF⟩
      · refine wp_n 1 (pc' := 8) (L' := [(2, ((k : Nat) : Int))]) (st' := [(2, ((k : Nat) : Int))]) (g' := h) rfl ?_
        refine wp_gfr (k := k) (r := (k + 1)) rfl hk_k.1 rfl rfl ?_
        refine wp_n 1 (pc' := 12) (L' := [(2, ((k : Nat) : Int))]) (st' := [(2, ((k : Nat) : Int)), (2, (((k + 1) : Nat) : Int))]) (g' := h) rfl ?_
        refine wp_gfi (k := k) 1 rfl rfl hk_k.1 (Or.inl rfl) ?_
        refine wp_n 2 (pc' := 17) (L' := [(2, ((k : Nat) : Int))]) (st' := [(0, ((h k 1) - 1)), (2, (((k + 1) : Nat) : Int))]) (g' := h) rfl ?_
        refine wp_iald (k := (k + 1)) ((z - 1)) rfl hk_k.2 (by omega) (by omega) (by decide) ?_
        refine wp_if_ne rfl (fun c2 => ?_) (fun c2 => ?_)
        · exact wp_ret rfl rfl rfl ⟨_, rfl, big_trim0 hH (Or.inr (by omega)), hF⟩
        · have hb := hH.2.2.1 (z - 1) (by omega)
          refine wp_n 2 (pc' := 23) (L' := [(2, ((k : Nat) : Int))]) (st' := [(2, ((k : Nat) : Int)), (2, ((k : Nat) : Int))]) (g' := h) rfl ?_
          refine wp_gfi (k := k) 1 rfl rfl hk_k.1 (Or.inl rfl) ?_
          refine wp_n 2 (pc' := 28) (L' := [(2, ((k : Nat) : Int))]) (st' := [(0, ((h k 1) - 1)), (2, ((k : Nat) : Int))]) (g' := h) rfl ?_
          refine wp_pfi (k := k) 1 rfl rfl hk_k.1 rfl ?_
          refine wp_n 1 (pc' := 0) (L' := [(2, ((k : Nat) : Int))]) (st' := []) (g' := (am_up h k 1 ((h k 1) - 1))) rfl ?_
          refine wp_eq (ih0 (z - 1) ((am_up h k 1 ((h k 1) - 1))) ?_ ?_ ?_) (by first | rfl | (simp; done) | (simp; omega)) (by rfl) (by rfl)
          · omega
          · exact big_trim hH (by omega) (by omega) (by omega)
          · exact hF.up0
  refine wp_eq (L0 (_ + 1) (sz) (g) (Nat.lt_succ_self _) ?_ ?_) (by first | rfl | (simp; done) | (simp; omega)) (by rfl) (by rfl)
  · exact hB
  · exact FrB.rfl
set_option maxHeartbeats 400000 in
set_option maxRecDepth 20000 in
theorem e_push {sn : Nat} {sx : Nat → Int} {b : Nat} {g : am_G} {k : Nat} (hk_k : IsBig b k) {sz : Nat} {v l : Int} (hB : BigW g k sz v) (hl : 0 ≤ l ∧ l < 2147483648) (h0 : l ≠ 0 → sz < 40) : Ev sn sx 1 15 [(2, ((k : Nat) : Int)), (0, l)] (SH b) g (fun r => ∃ g' z, r = (none, SH b, g') ∧ BigW g' k z (v + l * 2147483648 ^ sz) ∧ FrB k g g' ∧ (z = sz ∨ z = sz + 1 ∧ l ≠ 0)) := by
  have hs := hB.1
  have hz := hB.2.1
  refine ev_of (K := 0) T15 (by decide) rfl rfl (Nat.le_of_ble_eq_true rfl) ?_
  refine wp_eq (L' := [(2, ((k : Nat) : Int)), (0, l)]) (st' := []) (g' := g) ?_
  refine wp_n 1 (pc' := 1) (L' := [(2, ((k : Nat) : Int)), (0, l)]) (st' := [(0, l)]) (g' := g) rfl ?_
  refine wp_if_eq rfl (fun c1 => ?_) (fun c1 => ?_)
  · exact wp_ret rfl rfl rfl ⟨_, sz, rfl, big_push0 hB (by omega), FrB.rfl, Or.inl rfl⟩
  · refine wp_n 1 (pc' := 5) (L' := [(2, ((k : Nat) : Int)), (0, l)]) (st' := [(2, ((k : Nat) : Int))]) (g' := g) rfl ?_
    refine wp_gfi (k := k) 1 rfl rfl hk_k.1 (Or.inl rfl) ?_
    refine wp_n 1 (pc' := 10) (L' := [(2, ((k : Nat) : Int)), (0, l)]) (st' := [(0, 40), (0, (g k 1))]) (g' := g) rfl ?_
    refine wp_ic_ge rfl (fun c2 => ?_) (fun c2 => ?_)
    · exact wp_ret rfl rfl rfl ⟨_, sz, rfl, (by exact absurd (h0 (by omega)) (by omega)), FrB.rfl, Or.inl rfl⟩
    · refine wp_n 1 (pc' := 14) (L' := [(2, ((k : Nat) : Int)), (0, l)]) (st' := [(2, ((k : Nat) : Int))]) (g' := g) rfl ?_
      refine wp_gfr (k := k) (r := (k + 1)) rfl hk_k.1 rfl rfl ?_
      refine wp_n 1 (pc' := 18) (L' := [(2, ((k : Nat) : Int)), (0, l)]) (st' := [(2, ((k : Nat) : Int)), (2, (((k + 1) : Nat) : Int))]) (g' := g) rfl ?_
      refine wp_gfi (k := k) 1 rfl rfl hk_k.1 (Or.inl rfl) ?_
      refine wp_n 1 (pc' := 22) (L' := [(2, ((k : Nat) : Int)), (0, l)]) (st' := [(0, l), (0, (g k 1)), (2, (((k + 1) : Nat) : Int))]) (g' := g) rfl ?_
      refine wp_iast (k := (k + 1)) (sz) rfl hk_k.2 (by omega) (by omega) (by decide) ?_
      refine wp_n 2 (pc' := 25) (L' := [(2, ((k : Nat) : Int)), (0, l)]) (st' := [(2, ((k : Nat) : Int)), (2, ((k : Nat) : Int))]) (g' := (am_up g (k + 1) sz l)) rfl ?_
      refine wp_gfi (k := k) 1 rfl rfl hk_k.1 (Or.inl rfl) ?_
      refine wp_n 2 (pc' := 30) (L' := [(2, ((k : Nat) : Int)), (0, l)]) (st' := [(0, (((am_up g (k + 1) sz l) k 1) + 1)), (2, ((k : Nat) : Int))]) (g' := (am_up g (k + 1) sz l)) rfl ?_
      refine wp_pfi (k := k) 1 rfl rfl hk_k.1 rfl ?_
      exact wp_ret rfl rfl rfl ⟨_, sz + 1, rfl, big_push hB (by omega) hl (by have := hB.1; rw [up_ne (by omega)]; omega), FrB.rfl.up1.up0, Or.inr ⟨rfl, by omega⟩⟩
set_option maxHeartbeats 400000 in
set_option maxRecDepth 20000 in
theorem e_times {sn : Nat} {sx : Nat → Int} {b : Nat} {g : am_G} {k : Nat} (hk_k : IsBig b k) {v f : Int} (hB : BigR g k v) (hf : 0 ≤ f ∧ f < 2147483648) (ho : v * f < 2147483648 ^ 40) : Ev sn sx 2 7 [(2, ((k : Nat) : Int)), (0, f)] (SH b) g (fun r => ∃ g', r = (none, SH b, g') ∧ BigR g' k (v * f) ∧ FrB k g g') := by
  obtain ⟨sz, hB, -⟩ := hB
  have hs := hB.1
  have hz := hB.2.1
  refine ev_of (K := 1) T7 (by decide) rfl rfl (Nat.le_of_ble_eq_true rfl) ?_
  refine wp_eq (L' := [(2, ((k : Nat) : Int)), (0, f), (9, 0), (9, 0), (9, 0), (9, 0), (9, 0)]) (st' := []) (g' := g) ?_
  refine wp_n 4 (pc' := 5) (L' := [(2, ((k : Nat) : Int)), (0, f), (1, 0), (9, 0), (0, 0), (9, 0), (9, 0)]) (st' := []) (g' := g) rfl ?_
  have L5 : ∀ (lf : Nat) (i : Nat) (c : Int) (h : am_G) (w : am_V), sz - i < lf → (TI k sz f g h i c) → Wp sn sx 1 T7 5 [(2, ((k : Nat) : Int)), (0, f), (1, c), (9, 0), (0, ((i : Nat) : Int)), w, (9, 0)] [] (SH b) h (fun r => ∃ g', r = (none, SH b, g') ∧ BigR g' k (v * f) ∧ FrB k g g') := by
    intro lf
    induction lf with
    | zero => intro i c h w hlf; exact absurd hlf (Nat.not_lt_zero _)
    | succ lf ih5 =>
      intro i c h w hlf hH
      have hc := hH.2.1
      have hi := hH.1
      have hq : h k 1 = sz := by rw [hH.2.2.1 k 1 (by omega)]; exact hs
      refine wp_n 2 (pc' := 8) (L' := [(2, ((k : Nat) : Int)), (0, f), (1, c), (9, 0), (0, ((i : Nat) : Int)), w, (9, 0)]) (st' := [(2, ((k : Nat) : Int)), (0, ((i : Nat) : Int))]) (g' := h) rfl ?_
      refine wp_gfi (k := k) 1 rfl rfl hk_k.1 (Or.inl rfl) ?_
      refine wp_ic_ge rfl (fun c1 => ?_) (fun c1 => ?_)
      · obtain rfl : i = sz := by omega
        have hE := ti_end hB hH ho
        refine wp_n 3 (pc' := 58) (L' := [(2, ((k : Nat) : Int)), (0, f), (1, c), (9, 0), (0, ((i : Nat) : Int)), w, (9, 0)]) (st' := [(0, c), (2, ((k : Nat) : Int))]) (g' := h) rfl ?_
        refine wp_cv (as := [(2, ((k : Nat) : Int)), (0, c)]) (rest := []) rfl rfl rfl (Nat.le_of_ble_eq_true rfl) (am_rcv_of hk_k.1 (by decide)) (e_push hk_k hE.1 hc hE.2.1) (by decide) (fun r2 h3 => ?_)
        obtain ⟨g58, z58, rfl, hW58, hF58, hz58⟩ := h3
        refine wp_eq (L' := [(2, ((k : Nat) : Int)), (0, f), (1, c), (9, 0), (0, ((i : Nat) : Int)), w, (9, 0)]) (st' := []) (g' := g58) ?_
        refine wp_n 1 (pc' := 62) (L' := [(2, ((k : Nat) : Int)), (0, f), (1, c), (9, 0), (0, ((i : Nat) : Int)), w, (9, 0)]) (st' := [(2, ((k : Nat) : Int))]) (g' := g58) rfl ?_
        refine wp_cv (as := [(2, ((k : Nat) : Int))]) (rest := []) rfl rfl rfl (Nat.le_of_ble_eq_true rfl) (am_rcv_of hk_k.1 (by decide)) (e_trim hk_k (BigR.mul_sub hW58)) (by decide) (fun r4 h5 => ?_)
        obtain ⟨g62, rfl, hR62, hF62⟩ := h5
        refine wp_eq (L' := [(2, ((k : Nat) : Int)), (0, f), (1, c), (9, 0), (0, ((i : Nat) : Int)), w, (9, 0)]) (st' := []) (g' := g62) ?_
        exact wp_ret rfl rfl rfl ⟨_, rfl, hR62, hE.2.2.trans (hF58.trans hF62)⟩
      · have hv := ti_v (hH.2.2.2.2.1 i (by omega)) hf hc
        refine wp_n 1 (pc' := 15) (L' := [(2, ((k : Nat) : Int)), (0, f), (1, c), (9, 0), (0, ((i : Nat) : Int)), w, (9, 0)]) (st' := [(2, ((k : Nat) : Int))]) (g' := h) rfl ?_
        refine wp_gfr (k := k) (r := (k + 1)) rfl hk_k.1 rfl rfl ?_
        refine wp_n 1 (pc' := 20) (L' := [(2, ((k : Nat) : Int)), (0, f), (1, c), (9, 0), (0, ((i : Nat) : Int)), w, (9, 0)]) (st' := [(0, ((i : Nat) : Int)), (2, (((k + 1) : Nat) : Int))]) (g' := h) rfl ?_
        refine wp_iald (k := (k + 1)) (i) rfl hk_k.2 (by omega) (by omega) (by decide) ?_
        refine wp_i2l rfl (by have := hH.2.2.2.2.1 i (by omega); omega) ?_
        refine wp_n 1 (pc' := 23) (L' := [(2, ((k : Nat) : Int)), (0, f), (1, c), (9, 0), (0, ((i : Nat) : Int)), w, (9, 0)]) (st' := [(0, f), (1, (h (k + 1) i))]) (g' := h) rfl ?_
        refine wp_i2l rfl (by omega) ?_
        refine wp_n 5 (pc' := 30) (L' := [(2, ((k : Nat) : Int)), (0, f), (1, c), (9, 0), (0, ((i : Nat) : Int)), (1, (((h (k + 1) i) * f) + c)), (9, 0)]) (st' := [(2, ((k : Nat) : Int))]) (g' := h) rfl ?_
        refine wp_gfr (k := k) (r := (k + 1)) rfl hk_k.1 rfl rfl ?_
        refine wp_n 4 (pc' := 41) (L' := [(2, ((k : Nat) : Int)), (0, f), (1, c), (9, 0), (0, ((i : Nat) : Int)), (1, (((h (k + 1) i) * f) + c)), (9, 0)]) (st' := [(1, (Int64.ofInt (((h (k + 1) i) * f) + c) &&& Int64.ofInt 2147483647).toInt), (0, ((i : Nat) : Int)), (2, (((k + 1) : Nat) : Int))]) (g' := h) rfl ?_
        refine wp_eq (L' := [(2, ((k : Nat) : Int)), (0, f), (1, c), (9, 0), (0, ((i : Nat) : Int)), (1, (((h (k + 1) i) * f) + c)), (9, 0)]) (st' := [(1, ((((h (k + 1) i) * f) + c) % 2147483648)), (0, ((i : Nat) : Int)), (2, (((k + 1) : Nat) : Int))]) (g' := h) ?_ (by rfl) (by rw [land31 (by omega) (by omega)]) (by rfl)
        refine wp_n 1 (pc' := 42) (L' := [(2, ((k : Nat) : Int)), (0, f), (1, c), (9, 0), (0, ((i : Nat) : Int)), (1, (((h (k + 1) i) * f) + c)), (9, 0)]) (st' := [(0, ((((h (k + 1) i) * f) + c) % 2147483648)), (0, ((i : Nat) : Int)), (2, (((k + 1) : Nat) : Int))]) (g' := h) rfl ?_
        refine wp_iast (k := (k + 1)) (i) rfl hk_k.2 (by omega) (by omega) (by decide) ?_
        refine wp_n 3 (pc' := 48) (L' := [(2, ((k : Nat) : Int)), (0, f), (1, c), (9, 0), (0, ((i : Nat) : Int)), (1, (((h (k + 1) i) * f) + c)), (9, 0)]) (st' := [(1, (((Int64.ofInt (((h (k + 1) i) * f) + c)).toUInt64 >>> ((Int32.ofInt 31).toInt64.toUInt64 &&& Int64.toUInt64 63)).toInt64).toInt)]) (g' := (am_up h (k + 1) i ((((h (k + 1) i) * f) + c) % 2147483648))) rfl ?_
        refine wp_eq (L' := [(2, ((k : Nat) : Int)), (0, f), (1, c), (9, 0), (0, ((i : Nat) : Int)), (1, (((h (k + 1) i) * f) + c)), (9, 0)]) (st' := [(1, ((((h (k + 1) i) * f) + c) / 2147483648))]) (g' := (am_up h (k + 1) i ((((h (k + 1) i) * f) + c) % 2147483648))) ?_ (by rfl) (by rw [lshr31 (by omega) (by omega)]) (by rfl)
        refine wp_n 3 (pc' := 5) (L' := [(2, ((k : Nat) : Int)), (0, f), (1, ((((h (k + 1) i) * f) + c) / 2147483648)), (9, 0), (0, (((i : Nat) : Int) + 1)), (1, (((h (k + 1) i) * f) + c)), (9, 0)]) (st' := []) (g' := (am_up h (k + 1) i ((((h (k + 1) i) * f) + c) % 2147483648))) rfl ?_
        refine wp_eq (ih5 (i + 1) (((((h (k + 1) i) * f) + c) / 2147483648)) ((am_up h (k + 1) i ((((h (k + 1) i) * f) + c) % 2147483648))) ((1, (((h (k + 1) i) * f) + c))) ?_ ?_) (by first | rfl | (simp; done) | (simp; omega)) (by rfl) (by rfl)
        · omega
        · exact ti_step hH hz (by omega) hf
  refine wp_eq (L5 (_ + 1) (0) (0) (g) ((9, 0)) (Nat.lt_succ_self _) ?_) (by first | rfl | (simp; done) | (simp; omega)) (by rfl) (by rfl)
  · exact ti_zero hB
set_option maxHeartbeats 400000 in
set_option maxRecDepth 20000 in
theorem e_set {sn : Nat} {sx : Nat → Int} {b : Nat} {g : am_G} {k : Nat} (hk_k : IsBig b k) {v : Int} (hB : BigL g k) (hv : 0 ≤ v ∧ v < 2147483648) : Ev sn sx 2 5 [(2, ((k : Nat) : Int)), (0, v)] (SH b) g (fun r => ∃ g', r = (none, SH b, g') ∧ BigR g' k v ∧ FrB k g g') := by
  refine ev_of (K := 1) T5 (by decide) rfl rfl (Nat.le_of_ble_eq_true rfl) ?_
  refine wp_eq (L' := [(2, ((k : Nat) : Int)), (0, v)]) (st' := []) (g' := g) ?_
  refine wp_n 2 (pc' := 2) (L' := [(2, ((k : Nat) : Int)), (0, v)]) (st' := [(0, v), (2, ((k : Nat) : Int))]) (g' := g) rfl ?_
  refine wp_if_le rfl (fun c1 => ?_) (fun c1 => ?_)
  · refine wp_n 1 (pc' := 10) (L' := [(2, ((k : Nat) : Int)), (0, v)]) (st' := [(0, 0), (2, ((k : Nat) : Int))]) (g' := g) rfl ?_
    refine wp_pfi (k := k) 1 rfl rfl hk_k.1 rfl ?_
    refine wp_n 1 (pc' := 14) (L' := [(2, ((k : Nat) : Int)), (0, v)]) (st' := [(2, ((k : Nat) : Int))]) (g' := (am_up g k 1 0)) rfl ?_
    refine wp_gfr (k := k) (r := (k + 1)) rfl hk_k.1 rfl rfl ?_
    refine wp_n 3 (pc' := 20) (L' := [(2, ((k : Nat) : Int)), (0, v)]) (st' := [(0, v), (0, 0), (0, 0), (2, (((k + 1) : Nat) : Int))]) (g' := (am_up g k 1 0)) rfl ?_
    refine wp_cs (as := [(0, 0), (0, v)]) (rest := [(0, 0), (2, (((k + 1) : Nat) : Int))]) rfl (by decide) rfl (Nat.le_of_ble_eq_true rfl) (e_max (by omega) (by omega)) (by decide) (fun r2 h3 => ?_)
    obtain rfl := h3
    refine wp_eq (L' := [(2, ((k : Nat) : Int)), (0, v)]) (st' := [(0, (if 0 < v then v else 0)), (0, 0), (2, (((k + 1) : Nat) : Int))]) (g' := (am_up g k 1 0)) ?_
    refine wp_iast (k := (k + 1)) (0) rfl hk_k.2 (by omega) (by omega) (by decide) ?_
    exact wp_ret rfl rfl rfl ⟨_, rfl, big_set hB hv (by rw [if_neg (by omega)]) (by split <;> omega), FrB.rfl.up0.up1⟩
  · refine wp_n 2 (pc' := 10) (L' := [(2, ((k : Nat) : Int)), (0, v)]) (st' := [(0, 1), (2, ((k : Nat) : Int))]) (g' := g) rfl ?_
    refine wp_pfi (k := k) 1 rfl rfl hk_k.1 rfl ?_
    refine wp_n 1 (pc' := 14) (L' := [(2, ((k : Nat) : Int)), (0, v)]) (st' := [(2, ((k : Nat) : Int))]) (g' := (am_up g k 1 1)) rfl ?_
    refine wp_gfr (k := k) (r := (k + 1)) rfl hk_k.1 rfl rfl ?_
    refine wp_n 3 (pc' := 20) (L' := [(2, ((k : Nat) : Int)), (0, v)]) (st' := [(0, v), (0, 0), (0, 0), (2, (((k + 1) : Nat) : Int))]) (g' := (am_up g k 1 1)) rfl ?_
    refine wp_cs (as := [(0, 0), (0, v)]) (rest := [(0, 0), (2, (((k + 1) : Nat) : Int))]) rfl (by decide) rfl (Nat.le_of_ble_eq_true rfl) (e_max (by omega) (by omega)) (by decide) (fun r4 h5 => ?_)
    obtain rfl := h5
    refine wp_eq (L' := [(2, ((k : Nat) : Int)), (0, v)]) (st' := [(0, (if 0 < v then v else 0)), (0, 0), (2, (((k + 1) : Nat) : Int))]) (g' := (am_up g k 1 1)) ?_
    refine wp_iast (k := (k + 1)) (0) rfl hk_k.2 (by omega) (by omega) (by decide) ?_
    exact wp_ret rfl rfl rfl ⟨_, rfl, big_set hB hv (by rw [if_pos (by omega)]) (by split <;> omega), FrB.rfl.up0.up1⟩
set_option maxHeartbeats 400000 in
set_option maxRecDepth 20000 in
theorem e_grow {sn : Nat} {sx : Nat → Int} {b : Nat} {g : am_G} {k : Nat} (hk_k : IsBig b k) {sz : Nat} {v t : Int} (hB : BigW g k sz v) (ht : 0 ≤ t ∧ t ≤ 40) : Ev sn sx 1 14 [(2, ((k : Nat) : Int)), (0, t)] (SH b) g (fun r => ∃ g' z, r = (none, SH b, g') ∧ BigW g' k z v ∧ FrB k g g' ∧ ((z = sz ∧ t ≤ (sz : Int)) ∨ ((z : Int) = t ∧ (sz : Int) < t))) := by
  refine ev_of (K := 0) T14 (by decide) rfl rfl (Nat.le_of_ble_eq_true rfl) ?_
  refine wp_eq (L' := [(2, ((k : Nat) : Int)), (0, t)]) (st' := []) (g' := g) ?_
  have L0 : ∀ (lf : Nat) (z : Nat) (h : am_G), 40 - z < lf → (BigW h k z v) → (FrB k g h) → (sz ≤ z) → (z = sz ∨ (z : Int) ≤ t) → Wp sn sx 0 T14 0 [(2, ((k : Nat) : Int)), (0, t)] [] (SH b) h (fun r => ∃ g' z, r = (none, SH b, g') ∧ BigW g' k z v ∧ FrB k g g' ∧ ((z = sz ∧ t ≤ (sz : Int)) ∨ ((z : Int) = t ∧ (sz : Int) < t))) := by
    intro lf
    induction lf with
    | zero => intro z h hlf; exact absurd hlf (Nat.not_lt_zero _)
    | succ lf ih0 =>
      intro z h hlf hH hF hz0 hm2
      have hs := hH.1
      have hl := hH.2.1
      refine wp_n 1 (pc' := 1) (L' := [(2, ((k : Nat) : Int)), (0, t)]) (st' := [(2, ((k : Nat) : Int))]) (g' := h) rfl ?_
      refine wp_gfi (k := k) 1 rfl rfl hk_k.1 (Or.inl rfl) ?_
      refine wp_n 1 (pc' := 5) (L' := [(2, ((k : Nat) : Int)), (0, t)]) (st' := [(0, t), (0, (h k 1))]) (g' := h) rfl ?_
      refine wp_ic_ge rfl (fun c1 => ?_) (fun c1 => ?_)
      · exact wp_ret rfl rfl rfl ⟨_, z, rfl, hH, hF, by omega⟩
      · refine wp_n 1 (pc' := 9) (L' := [(2, ((k : Nat) : Int)), (0, t)]) (st' := [(2, ((k : Nat) : Int))]) (g' := h) rfl ?_
        refine wp_gfi (k := k) 1 rfl rfl hk_k.1 (Or.inl rfl) ?_
        refine wp_n 1 (pc' := 14) (L' := [(2, ((k : Nat) : Int)), (0, t)]) (st' := [(0, 40), (0, (h k 1))]) (g' := h) rfl ?_
        refine wp_ic_ge rfl (fun c2 => ?_) (fun c2 => ?_)
        · exfalso; omega
        · refine wp_n 1 (pc' := 18) (L' := [(2, ((k : Nat) : Int)), (0, t)]) (st' := [(2, ((k : Nat) : Int))]) (g' := h) rfl ?_
          refine wp_gfr (k := k) (r := (k + 1)) rfl hk_k.1 rfl rfl ?_
          refine wp_n 1 (pc' := 22) (L' := [(2, ((k : Nat) : Int)), (0, t)]) (st' := [(2, ((k : Nat) : Int)), (2, (((k + 1) : Nat) : Int))]) (g' := h) rfl ?_
          refine wp_gfi (k := k) 1 rfl rfl hk_k.1 (Or.inl rfl) ?_
          refine wp_n 1 (pc' := 26) (L' := [(2, ((k : Nat) : Int)), (0, t)]) (st' := [(0, 0), (0, (h k 1)), (2, (((k + 1) : Nat) : Int))]) (g' := h) rfl ?_
          refine wp_iast (k := (k + 1)) (z) rfl hk_k.2 (by omega) (by omega) (by decide) ?_
          refine wp_n 2 (pc' := 29) (L' := [(2, ((k : Nat) : Int)), (0, t)]) (st' := [(2, ((k : Nat) : Int)), (2, ((k : Nat) : Int))]) (g' := (am_up h (k + 1) z 0)) rfl ?_
          refine wp_gfi (k := k) 1 rfl rfl hk_k.1 (Or.inl rfl) ?_
          refine wp_n 2 (pc' := 34) (L' := [(2, ((k : Nat) : Int)), (0, t)]) (st' := [(0, (((am_up h (k + 1) z 0) k 1) + 1)), (2, ((k : Nat) : Int))]) (g' := (am_up h (k + 1) z 0)) rfl ?_
          refine wp_pfi (k := k) 1 rfl rfl hk_k.1 rfl ?_
          refine wp_n 1 (pc' := 0) (L' := [(2, ((k : Nat) : Int)), (0, t)]) (st' := []) (g' := (am_up (am_up h (k + 1) z 0) k 1 (((am_up h (k + 1) z 0) k 1) + 1))) rfl ?_
          refine wp_eq (ih0 (z + 1) ((am_up (am_up h (k + 1) z 0) k 1 (((am_up h (k + 1) z 0) k 1) + 1))) ?_ ?_ ?_ ?_ ?_) (by first | rfl | (simp; done) | (simp; omega)) (by rfl) (by rfl)
          · omega
          · exact big_grow hH (by omega) (by rw [up_ne (by omega)]; omega)
          · exact hF.up1.up0
          · first | assumption | omega
          · first | assumption | omega
  refine wp_eq (L0 (_ + 1) (sz) (g) (Nat.lt_succ_self _) ?_ ?_ ?_ ?_) (by first | rfl | (simp; done) | (simp; omega)) (by rfl) (by rfl)
  · exact hB
  · exact FrB.rfl
  · exact Nat.le_refl _
  · exact Or.inl rfl
