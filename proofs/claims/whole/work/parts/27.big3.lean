/-! NUMBERS IN LIMBS OF 31 BITS: a copy, a product, a share: the methods -/
set_option maxHeartbeats 400000 in
set_option maxRecDepth 20000 in
theorem e_setb {sn : Nat} {sx : Nat → Int} {b : Nat} {g : am_G} {k : Nat} (hk_k : IsBig b k) {a : Nat} (hk_a : IsBig b a) {w : Int} (hL : BigL g k) (hA : BigR g a w) (hd : Dj k a) : Ev sn sx 2 6 [(2, ((k : Nat) : Int)), (2, ((a : Nat) : Int))] (SH b) g (fun r => ∃ g', r = (none, SH b, g') ∧ BigR g' k w ∧ FrB k g g') := by
  obtain ⟨m, hA, ha0⟩ := hA
  have hm := hA.1
  have hm4 := hA.2.1
  refine ev_of (K := 1) T6 (by decide) rfl rfl (Nat.le_of_ble_eq_true rfl) ?_
  refine wp_eq (L' := [(2, ((k : Nat) : Int)), (2, ((a : Nat) : Int))]) (st' := []) (g' := g) ?_
  refine wp_n 2 (pc' := 2) (L' := [(2, ((k : Nat) : Int)), (2, ((a : Nat) : Int))]) (st' := [(2, ((a : Nat) : Int)), (2, ((k : Nat) : Int))]) (g' := g) rfl ?_
  refine wp_gfi (k := a) 1 rfl rfl hk_a.1 (Or.inl rfl) ?_
  refine wp_n 1 (pc' := 7) (L' := [(2, ((k : Nat) : Int)), (2, ((a : Nat) : Int))]) (st' := [(0, 40), (0, (g a 1)), (2, ((k : Nat) : Int))]) (g' := g) rfl ?_
  refine wp_cs (as := [(0, (g a 1)), (0, 40)]) (rest := [(2, ((k : Nat) : Int))]) rfl (by decide) rfl (Nat.le_of_ble_eq_true rfl) (e_min (by omega) (by omega)) (by decide) (fun r1 h2 => ?_)
  obtain rfl := h2
  refine wp_eq (L' := [(2, ((k : Nat) : Int)), (2, ((a : Nat) : Int))]) (st' := [(0, (if 40 < (g a 1) then 40 else (g a 1))), (2, ((k : Nat) : Int))]) (g' := g) ?_
  refine wp_eq (L' := [(2, ((k : Nat) : Int)), (2, ((a : Nat) : Int))]) (st' := [(0, ((m : Nat) : Int)), (2, ((k : Nat) : Int))]) (g' := g) ?_ (by rfl) (by rw [if_neg (by omega), hm]) (by rfl)
  refine wp_pfi (k := k) 1 rfl rfl hk_k.1 rfl ?_
  refine wp_n 1 (pc' := 14) (L' := [(2, ((k : Nat) : Int)), (2, ((a : Nat) : Int))]) (st' := [(2, ((a : Nat) : Int))]) (g' := (am_up g k 1 ((m : Nat) : Int))) rfl ?_
  refine wp_gfr (k := a) (r := (a + 1)) rfl hk_a.1 rfl rfl ?_
  refine wp_n 2 (pc' := 19) (L' := [(2, ((k : Nat) : Int)), (2, ((a : Nat) : Int))]) (st' := [(2, ((k : Nat) : Int)), (0, 0), (2, (((a + 1) : Nat) : Int))]) (g' := (am_up g k 1 ((m : Nat) : Int))) rfl ?_
  refine wp_gfr (k := k) (r := (k + 1)) rfl hk_k.1 rfl rfl ?_
  refine wp_n 2 (pc' := 24) (L' := [(2, ((k : Nat) : Int)), (2, ((a : Nat) : Int))]) (st' := [(2, ((k : Nat) : Int)), (0, 0), (2, (((k + 1) : Nat) : Int)), (0, 0), (2, (((a + 1) : Nat) : Int))]) (g' := (am_up g k 1 ((m : Nat) : Int))) rfl ?_
  refine wp_gfi (k := k) 1 rfl rfl hk_k.1 (Or.inl rfl) ?_
  refine wp_eq (L' := [(2, ((k : Nat) : Int)), (2, ((a : Nat) : Int))]) (st' := [(0, ((m : Nat) : Int)), (0, 0), (2, (((k + 1) : Nat) : Int)), (0, 0), (2, (((a + 1) : Nat) : Int))]) (g' := (am_up g k 1 ((m : Nat) : Int))) ?_ (by rfl) (by rw [up_eq]) (by rfl)
  refine wp_cpy (a := 0) (b := 0) (c := m) (src := (a + 1)) (dst := (k + 1)) rfl hk_a.2 hk_k.2 (by decide) rfl rfl rfl (by omega) (by omega) (by decide) (by decide) (by decide) ?_
  exact wp_ret rfl rfl rfl ⟨_, rfl, ⟨m, (big_cp hA hL hd).1, ha0⟩, (big_cp hA hL hd).2⟩
theorem two_le20 {t : Nat} (h : t ≤ 20) : (2 : Int) ^ t ≤ 1048576 := by
  obtain ⟨d, hd⟩ := Nat.le.dest h
  have e : (2 : Int) ^ t * 2 ^ d = 1048576 := by rw [← Int.pow_add, hd]; rfl
  have h1 : (0 : Int) < 2 ^ t := Int.pow_pos (by decide)
  have h2 : (0 : Int) < 2 ^ d := Int.pow_pos (by decide)
  have := Int.mul_le_mul_of_nonneg_left (show (1 : Int) ≤ 2 ^ d by omega) (Int.le_of_lt h1)
  omega
theorem big_none {g : am_G} {k : Nat} (hL : BigL g k) : BigW (am_up g k 1 0) k 0 0 := ⟨up_eq, by omega, hL.up0, rfl⟩
theorem two_half (t : Nat) : (2 : Int) ^ (t + 1) / 2 = 2 ^ t := by
  rw [Int.pow_succ]
  omega
theorem two_pos (t : Nat) : (0 : Int) < 2 ^ t := Int.pow_pos (by decide)
def FrC (k r : Nat) (g h : am_G) : Prop := ∀ c j, c ≠ k → c ≠ k + 1 → c ≠ r → c ≠ r + 1 → h c j = g c j
theorem BigR.frc {k r : Nat} {g g' : am_G} {a : Nat} {v : Int} (h : BigR g a v) (hf : FrC k r g g') (h1 : Dj k a) (h2 : Dj r a) : BigR g' a v := by
  obtain ⟨sz, ⟨e1, e2, e3, e4⟩, h⟩ := h
  refine ⟨sz, ⟨?_, e2, ?_, ?_⟩, h⟩
  · rw [hf a 1 h1.1 h1.2.1 h2.1 h2.2.1]; exact e1
  · intro j hj; rw [hf (a + 1) j h1.2.2 (by omega) h2.2.2 (by omega)]; exact e3 j hj
  · rw [← e4]; exact bval_eq fun j _ => hf (a + 1) j h1.2.2 (by omega) h2.2.2 (by omega)
theorem BigL.fr {k : Nat} {g g' : am_G} {a : Nat} (h : BigL g a) (hf : FrB k g g') (hd : Dj k a) : BigL g' a := by
  intro j hj; rw [hf (a + 1) j hd.2.2 (by omega)]; exact h j hj
theorem mul_sizes {rs m : Nat} {v w : Int} (hr : rs = 0 ∨ 2147483648 ^ (rs - 1) ≤ v) (hm : m = 0 ∨ 2147483648 ^ (m - 1) ≤ w) (hrs : rs ≤ 40) (hms : m ≤ 40) (h : v * w < 2147483648 ^ 39) : rs + m ≤ 40 := by
  rcases hr with rfl | hr
  · omega
  rcases hm with rfl | hm
  · omega
  by_cases hc : rs + m ≤ 40
  · exact hc
  have a1 := Int.mul_le_mul hr hm (Int.le_of_lt (b_pos _)) (Int.le_trans (Int.le_of_lt (b_pos _)) hr)
  rw [← Int.pow_add] at a1
  have a2 := b_le (show 39 ≤ rs - 1 + (m - 1) by omega)
  omega
set_option maxHeartbeats 400000 in
set_option maxRecDepth 20000 in
theorem e_timesb {sn : Nat} {sx : Nat → Int} {b : Nat} {g : am_G} {k : Nat} (hk_k : IsBig b k) {a : Nat} (hk_a : IsBig b a) {r : Nat} (hk_r : IsBig b r) {v w : Int} (hB : BigR g k v) (hA : BigR g a w) (hL : BigL g r) (d1 : Dj k a) (d2 : Dj k r) (d3 : Dj r k) (d4 : Dj r a) (ho : v * w < 2147483648 ^ 39) : Ev sn sx 3 8 [(2, ((k : Nat) : Int)), (2, ((a : Nat) : Int)), (2, ((r : Nat) : Int))] (SH b) g (fun x => ∃ g', x = (none, SH b, g') ∧ BigR g' k (v * w) ∧ FrC k r g g' ∧ BigL g' r) := by
  obtain ⟨m, hA, ha0⟩ := hA
  refine ev_of (K := 2) T8 (by decide) rfl rfl (Nat.le_of_ble_eq_true rfl) ?_
  refine wp_eq (L' := [(2, ((k : Nat) : Int)), (2, ((a : Nat) : Int)), (2, ((r : Nat) : Int)), (9, 0), (9, 0), (9, 0), (9, 0), (9, 0), (9, 0), (9, 0), (9, 0), (9, 0)]) (st' := []) (g' := g) ?_
  refine wp_n 2 (pc' := 2) (L' := [(2, ((k : Nat) : Int)), (2, ((a : Nat) : Int)), (2, ((r : Nat) : Int)), (9, 0), (9, 0), (9, 0), (9, 0), (9, 0), (9, 0), (9, 0), (9, 0), (9, 0)]) (st' := [(2, ((k : Nat) : Int)), (2, ((r : Nat) : Int))]) (g' := g) rfl ?_
  refine wp_cv (as := [(2, ((r : Nat) : Int)), (2, ((k : Nat) : Int))]) (rest := []) rfl rfl rfl (Nat.le_of_ble_eq_true rfl) (am_rcv_of hk_r.1 (by decide)) (e_setb hk_r hk_k hL hB d3) (by decide) (fun r1 h2 => ?_)
  obtain ⟨g2, rfl, hR2, hF2⟩ := h2
  obtain ⟨rs, hR2, hr0⟩ := hR2
  have hA2 := hA.fr hF2 d4
  have hL2 := (hB.L).fr hF2 d3
  have hr4 := mul_sizes hr0 ha0 hR2.2.1 hA2.2.1 ho
  have hq1 := hR2.1
  have hq2 := hA2.1
  refine wp_eq (L' := [(2, ((k : Nat) : Int)), (2, ((a : Nat) : Int)), (2, ((r : Nat) : Int)), (9, 0), (9, 0), (9, 0), (9, 0), (9, 0), (9, 0), (9, 0), (9, 0), (9, 0)]) (st' := []) (g' := g2) ?_
  refine wp_n 2 (pc' := 8) (L' := [(2, ((k : Nat) : Int)), (2, ((a : Nat) : Int)), (2, ((r : Nat) : Int)), (9, 0), (9, 0), (9, 0), (9, 0), (9, 0), (9, 0), (9, 0), (9, 0), (9, 0)]) (st' := [(2, ((r : Nat) : Int)), (0, 40)]) (g' := g2) rfl ?_
  refine wp_gfi (k := r) 1 rfl rfl hk_r.1 (Or.inl rfl) ?_
  refine wp_n 1 (pc' := 12) (L' := [(2, ((k : Nat) : Int)), (2, ((a : Nat) : Int)), (2, ((r : Nat) : Int)), (9, 0), (9, 0), (9, 0), (9, 0), (9, 0), (9, 0), (9, 0), (9, 0), (9, 0)]) (st' := [(2, ((a : Nat) : Int)), (0, (g2 r 1)), (0, 40)]) (g' := g2) rfl ?_
  refine wp_gfi (k := a) 1 rfl rfl hk_a.1 (Or.inl rfl) ?_
  refine wp_n 1 (pc' := 16) (L' := [(2, ((k : Nat) : Int)), (2, ((a : Nat) : Int)), (2, ((r : Nat) : Int)), (9, 0), (9, 0), (9, 0), (9, 0), (9, 0), (9, 0), (9, 0), (9, 0), (9, 0)]) (st' := [(0, ((g2 r 1) + (g2 a 1))), (0, 40)]) (g' := g2) rfl ?_
  refine wp_cs (as := [(0, 40), (0, ((g2 r 1) + (g2 a 1)))]) (rest := []) rfl (by decide) rfl (Nat.le_of_ble_eq_true rfl) (e_min (by omega) (by omega)) (by decide) (fun r3 h4 => ?_)
  obtain rfl := h4
  refine wp_eq (L' := [(2, ((k : Nat) : Int)), (2, ((a : Nat) : Int)), (2, ((r : Nat) : Int)), (9, 0), (9, 0), (9, 0), (9, 0), (9, 0), (9, 0), (9, 0), (9, 0), (9, 0)]) (st' := [(0, (if ((g2 r 1) + (g2 a 1)) < 40 then ((g2 r 1) + (g2 a 1)) else 40))]) (g' := g2) ?_
  refine wp_eq (L' := [(2, ((k : Nat) : Int)), (2, ((a : Nat) : Int)), (2, ((r : Nat) : Int)), (9, 0), (9, 0), (9, 0), (9, 0), (9, 0), (9, 0), (9, 0), (9, 0), (9, 0)]) (st' := [(0, (((rs + m) : Nat) : Int))]) (g' := g2) ?_ (by rfl) (by rw [show (if (g2 r 1) + (g2 a 1) < 40 then (g2 r 1) + (g2 a 1) else 40) = (((rs + m) : Nat) : Int) by split <;> omega]) (by rfl)
  refine wp_n 3 (pc' := 22) (L' := [(2, ((k : Nat) : Int)), (2, ((a : Nat) : Int)), (2, ((r : Nat) : Int)), (0, (((rs + m) : Nat) : Int)), (9, 0), (9, 0), (9, 0), (9, 0), (9, 0), (9, 0), (9, 0), (9, 0)]) (st' := [(0, 0), (2, ((k : Nat) : Int))]) (g' := g2) rfl ?_
  refine wp_pfi (k := k) 1 rfl rfl hk_k.1 rfl ?_
  refine wp_n 2 (pc' := 27) (L' := [(2, ((k : Nat) : Int)), (2, ((a : Nat) : Int)), (2, ((r : Nat) : Int)), (0, (((rs + m) : Nat) : Int)), (9, 0), (9, 0), (9, 0), (9, 0), (9, 0), (9, 0), (9, 0), (9, 0)]) (st' := [(0, (((rs + m) : Nat) : Int)), (2, ((k : Nat) : Int))]) (g' := (am_up g2 k 1 0)) rfl ?_
  refine wp_cv (as := [(2, ((k : Nat) : Int)), (0, (((rs + m) : Nat) : Int))]) (rest := []) rfl rfl rfl (Nat.le_of_ble_eq_true rfl) (am_rcv_of hk_k.1 (by decide)) (e_grow hk_k (big_none hL2) (by omega)) (by decide) (fun r5 h6 => ?_)
  obtain ⟨g27, z27, rfl, hW27, hF27, hz27⟩ := h6
  obtain rfl : z27 = rs + m := by omega
  have hR27 := (hR2.fr (FrB.rfl.up0 (k := k) (j := 1) (x := 0)) d2).fr hF27 d2
  have hA27 := (hA2.fr (FrB.rfl.up0 (k := k) (j := 1) (x := 0)) d1).fr hF27 d1
  have hR27r : ∀ j, j < rs → 0 ≤ g27 (r + 1) j ∧ g27 (r + 1) j < 2147483648 := fun j hj => hR27.2.2.1 j (by have := hR27.2.1; omega)
  refine wp_eq (L' := [(2, ((k : Nat) : Int)), (2, ((a : Nat) : Int)), (2, ((r : Nat) : Int)), (0, (((rs + m) : Nat) : Int)), (9, 0), (9, 0), (9, 0), (9, 0), (9, 0), (9, 0), (9, 0), (9, 0)]) (st' := []) (g' := g27) ?_
  refine wp_n 2 (pc' := 33) (L' := [(2, ((k : Nat) : Int)), (2, ((a : Nat) : Int)), (2, ((r : Nat) : Int)), (0, (((rs + m) : Nat) : Int)), (0, 0), (9, 0), (9, 0), (9, 0), (9, 0), (9, 0), (9, 0), (9, 0)]) (st' := []) (g' := g27) rfl ?_
  have L33 : ∀ (lf : Nat) (i : Nat) (h : am_G) (w5 w7 w8 w10 : am_V), rs - i < lf → (YI k (rs + m) rs (g27 (r + 1)) w g27 h i) → Wp sn sx 2 T8 33 [(2, ((k : Nat) : Int)), (2, ((a : Nat) : Int)), (2, ((r : Nat) : Int)), (0, (((rs + m) : Nat) : Int)), (0, ((i : Nat) : Int)), w5, (9, 0), w7, w8, (9, 0), w10, (9, 0)] [] (SH b) h (fun x => ∃ g', x = (none, SH b, g') ∧ BigR g' k (v * w) ∧ FrC k r g g' ∧ BigL g' r) := by
    intro lf
    induction lf with
    | zero => intro i h w5 w7 w8 w10 hlf; exact absurd hlf (Nat.not_lt_zero _)
    | succ lf ih33 =>
      intro i h w5 w7 w8 w10 hlf hH
      have hi := hH.1
      have hqr : h r 1 = rs := by rw [hH.2.1 r 1 (by omega)]; exact hR27.1
      have hRa : BigW (am_up h k 1 (((rs + m) : Nat) : Int)) r rs v := by
        refine ⟨?_, hR27.2.1, ?_, ?_⟩
        · rw [up_ne (by omega)]; exact hqr
        · intro j hj; rw [up_ne (by omega), hH.2.1 (r + 1) j (by omega)]; exact hR27.2.2.1 j hj
        · rw [← hR27.2.2.2]; exact bval_eq fun j _ => by rw [up_ne (by omega), hH.2.1 (r + 1) j (by omega)]
      refine wp_n 2 (pc' := 36) (L' := [(2, ((k : Nat) : Int)), (2, ((a : Nat) : Int)), (2, ((r : Nat) : Int)), (0, (((rs + m) : Nat) : Int)), (0, ((i : Nat) : Int)), w5, (9, 0), w7, w8, (9, 0), w10, (9, 0)]) (st' := [(2, ((r : Nat) : Int)), (0, ((i : Nat) : Int))]) (g' := h) rfl ?_
      refine wp_gfi (k := r) 1 rfl rfl hk_r.1 (Or.inl rfl) ?_
      refine wp_ic_ge rfl (fun c7 => ?_) (fun c7 => ?_)
      · have hi2 : i = rs := by omega
        have hBW : BigW (am_up h k 1 (((rs + m) : Nat) : Int)) k (rs + m) (v * w) := ⟨up_eq, hr4, hH.2.2.1.up0, by rw [bval_eq (f' := h (k + 1)) fun j _ => up_ne (by omega), hH.2.2.2, hi2, hR27.2.2.2]⟩
        refine wp_n 2 (pc' := 146) (L' := [(2, ((k : Nat) : Int)), (2, ((a : Nat) : Int)), (2, ((r : Nat) : Int)), (0, (((rs + m) : Nat) : Int)), (0, ((i : Nat) : Int)), w5, (9, 0), w7, w8, (9, 0), w10, (9, 0)]) (st' := [(0, (((rs + m) : Nat) : Int)), (2, ((k : Nat) : Int))]) (g' := h) rfl ?_
        refine wp_pfi (k := k) 1 rfl rfl hk_k.1 rfl ?_
        refine wp_n 1 (pc' := 150) (L' := [(2, ((k : Nat) : Int)), (2, ((a : Nat) : Int)), (2, ((r : Nat) : Int)), (0, (((rs + m) : Nat) : Int)), (0, ((i : Nat) : Int)), w5, (9, 0), w7, w8, (9, 0), w10, (9, 0)]) (st' := [(2, ((k : Nat) : Int))]) (g' := (am_up h k 1 (((rs + m) : Nat) : Int))) rfl ?_
        refine wp_cv (as := [(2, ((k : Nat) : Int))]) (rest := []) rfl rfl rfl (Nat.le_of_ble_eq_true rfl) (am_rcv_of hk_k.1 (by decide)) (e_trim hk_k hBW) (by decide) (fun r8 h9 => ?_)
        obtain ⟨g150, rfl, hR150, hF150⟩ := h9
        refine wp_eq (L' := [(2, ((k : Nat) : Int)), (2, ((a : Nat) : Int)), (2, ((r : Nat) : Int)), (0, (((rs + m) : Nat) : Int)), (0, ((i : Nat) : Int)), w5, (9, 0), w7, w8, (9, 0), w10, (9, 0)]) (st' := []) (g' := g150) ?_
        exact wp_ret rfl rfl rfl ⟨_, rfl, hR150, (fun c j n1 n2 n3 n4 => by rw [hF150 c j n1 n2, up_ne n1, hH.2.1 c j n2, hF27 c j n1 n2, up_ne n1, hF2 c j n3 n4]), (hRa.2.2.1).fr hF150 d2⟩
      · refine wp_n 4 (pc' := 48) (L' := [(2, ((k : Nat) : Int)), (2, ((a : Nat) : Int)), (2, ((r : Nat) : Int)), (0, (((rs + m) : Nat) : Int)), (0, ((i : Nat) : Int)), (1, 0), (9, 0), (0, 0), w8, (9, 0), w10, (9, 0)]) (st' := []) (g' := h) rfl ?_
        have L48 : ∀ (lf : Nat) (j : Nat) (c : Int) (q : am_G) (w8' w10' : am_V), rs + m - j < lf → (XI k (msk (g27 (a + 1)) m) (g27 (r + 1) i) i (rs + m) h q j c) → Wp sn sx 2 T8 48 [(2, ((k : Nat) : Int)), (2, ((a : Nat) : Int)), (2, ((r : Nat) : Int)), (0, (((rs + m) : Nat) : Int)), (0, ((i : Nat) : Int)), (1, c), (9, 0), (0, ((j : Nat) : Int)), w8', (9, 0), w10', (9, 0)] [] (SH b) q (fun x => ∃ g', x = (none, SH b, g') ∧ BigR g' k (v * w) ∧ FrC k r g g' ∧ BigL g' r) := by
          intro lf
          induction lf with
          | zero => intro j c q w8' w10' hlf; exact absurd hlf (Nat.not_lt_zero _)
          | succ lf ih48 =>
            intro j c q w8' w10' hlf hX
            have hj := hX.1
            have hc := hX.2.1
            have hqa : q a 1 = m := by rw [hX.2.2.1 a 1 (by omega), hH.2.1 a 1 (by omega)]; exact hA27.1
            have hri : q (r + 1) i = g27 (r + 1) i := by rw [hX.2.2.1 _ _ (by omega), hH.2.1 _ _ (by omega)]
            have hrb := hR27.2.2.1 i (by omega)
            refine wp_n 4 (pc' := 54) (L' := [(2, ((k : Nat) : Int)), (2, ((a : Nat) : Int)), (2, ((r : Nat) : Int)), (0, (((rs + m) : Nat) : Int)), (0, ((i : Nat) : Int)), (1, c), (9, 0), (0, ((j : Nat) : Int)), w8', (9, 0), w10', (9, 0)]) (st' := [(0, (((rs + m) : Nat) : Int)), (0, (((i : Nat) : Int) + ((j : Nat) : Int)))]) (g' := q) rfl ?_
            refine wp_ic_ge rfl (fun c10 => ?_) (fun c10 => ?_)
            · have hj2 : j = rs + m - i := by omega
              have hY := yi_step hH (by rw [hj2] at hX; exact hX) (by omega) rfl ((msk_val (by omega)).trans hA27.2.2.2) hA27.in hR27r hr4
              refine wp_n 2 (pc' := 33) (L' := [(2, ((k : Nat) : Int)), (2, ((a : Nat) : Int)), (2, ((r : Nat) : Int)), (0, (((rs + m) : Nat) : Int)), (0, (((i : Nat) : Int) + 1)), (1, c), (9, 0), (0, ((j : Nat) : Int)), w8', (9, 0), w10', (9, 0)]) (st' := []) (g' := q) rfl ?_
              refine wp_eq (ih33 (i + 1) (q) ((1, c)) ((0, ((j : Nat) : Int))) (w8') (w10') ?_ ?_) (by first | rfl | (simp; done) | (simp; omega)) (by rfl) (by rfl)
              · omega
              · exact hY
            · have hT := hX.2.2.2.2.1 (i + j) (by omega)
              refine wp_n 2 (pc' := 60) (L' := [(2, ((k : Nat) : Int)), (2, ((a : Nat) : Int)), (2, ((r : Nat) : Int)), (0, (((rs + m) : Nat) : Int)), (0, ((i : Nat) : Int)), (1, c), (9, 0), (0, ((j : Nat) : Int)), w8', (9, 0), w10', (9, 0)]) (st' := [(2, ((a : Nat) : Int)), (0, ((j : Nat) : Int))]) (g' := q) rfl ?_
              refine wp_gfi (k := a) 1 rfl rfl hk_a.1 (Or.inl rfl) ?_
              refine wp_ic_ge rfl (fun c11 => ?_) (fun c11 => ?_)
              · have hvv := xi_v (x := q (r + 1) i) (f := 0) (l := q (k + 1) (i + j)) (c := c) (by omega) (by decide) hT hc
                refine wp_n 3 (pc' := 81) (L' := [(2, ((k : Nat) : Int)), (2, ((a : Nat) : Int)), (2, ((r : Nat) : Int)), (0, (((rs + m) : Nat) : Int)), (0, ((i : Nat) : Int)), (1, c), (9, 0), (0, ((j : Nat) : Int)), (1, 0), (9, 0), w10', (9, 0)]) (st' := [(2, ((r : Nat) : Int))]) (g' := q) rfl ?_
                refine wp_gfr (k := r) (r := (r + 1)) rfl hk_r.1 rfl rfl ?_
                refine wp_n 1 (pc' := 86) (L' := [(2, ((k : Nat) : Int)), (2, ((a : Nat) : Int)), (2, ((r : Nat) : Int)), (0, (((rs + m) : Nat) : Int)), (0, ((i : Nat) : Int)), (1, c), (9, 0), (0, ((j : Nat) : Int)), (1, 0), (9, 0), w10', (9, 0)]) (st' := [(0, ((i : Nat) : Int)), (2, (((r + 1) : Nat) : Int))]) (g' := q) rfl ?_
                refine wp_iald (k := (r + 1)) (i) rfl hk_r.2 (by omega) (by omega) (by decide) ?_
                refine wp_i2l rfl (by omega) ?_
                refine wp_n 3 (pc' := 92) (L' := [(2, ((k : Nat) : Int)), (2, ((a : Nat) : Int)), (2, ((r : Nat) : Int)), (0, (((rs + m) : Nat) : Int)), (0, ((i : Nat) : Int)), (1, c), (9, 0), (0, ((j : Nat) : Int)), (1, 0), (9, 0), w10', (9, 0)]) (st' := [(2, ((k : Nat) : Int)), (1, ((q (r + 1) i) * 0))]) (g' := q) rfl ?_
                refine wp_gfr (k := k) (r := (k + 1)) rfl hk_k.1 rfl rfl ?_
                refine wp_n 3 (pc' := 100) (L' := [(2, ((k : Nat) : Int)), (2, ((a : Nat) : Int)), (2, ((r : Nat) : Int)), (0, (((rs + m) : Nat) : Int)), (0, ((i : Nat) : Int)), (1, c), (9, 0), (0, ((j : Nat) : Int)), (1, 0), (9, 0), w10', (9, 0)]) (st' := [(0, (((i : Nat) : Int) + ((j : Nat) : Int))), (2, (((k + 1) : Nat) : Int)), (1, ((q (r + 1) i) * 0))]) (g' := q) rfl ?_
                refine wp_iald (k := (k + 1)) ((i + j)) rfl hk_k.2 (by omega) (by omega) (by decide) ?_
                refine wp_i2l rfl (by omega) ?_
                refine wp_n 5 (pc' := 109) (L' := [(2, ((k : Nat) : Int)), (2, ((a : Nat) : Int)), (2, ((r : Nat) : Int)), (0, (((rs + m) : Nat) : Int)), (0, ((i : Nat) : Int)), (1, c), (9, 0), (0, ((j : Nat) : Int)), (1, 0), (9, 0), (1, ((((q (r + 1) i) * 0) + (q (k + 1) (i + j))) + c)), (9, 0)]) (st' := [(2, ((k : Nat) : Int))]) (g' := q) rfl ?_
                refine wp_gfr (k := k) (r := (k + 1)) rfl hk_k.1 rfl rfl ?_
                refine wp_n 6 (pc' := 123) (L' := [(2, ((k : Nat) : Int)), (2, ((a : Nat) : Int)), (2, ((r : Nat) : Int)), (0, (((rs + m) : Nat) : Int)), (0, ((i : Nat) : Int)), (1, c), (9, 0), (0, ((j : Nat) : Int)), (1, 0), (9, 0), (1, ((((q (r + 1) i) * 0) + (q (k + 1) (i + j))) + c)), (9, 0)]) (st' := [(1, (Int64.ofInt ((((q (r + 1) i) * 0) + (q (k + 1) (i + j))) + c) &&& Int64.ofInt 2147483647).toInt), (0, (((i : Nat) : Int) + ((j : Nat) : Int))), (2, (((k + 1) : Nat) : Int))]) (g' := q) rfl ?_
                refine wp_eq (L' := [(2, ((k : Nat) : Int)), (2, ((a : Nat) : Int)), (2, ((r : Nat) : Int)), (0, (((rs + m) : Nat) : Int)), (0, ((i : Nat) : Int)), (1, c), (9, 0), (0, ((j : Nat) : Int)), (1, 0), (9, 0), (1, ((((q (r + 1) i) * 0) + (q (k + 1) (i + j))) + c)), (9, 0)]) (st' := [(1, (((((q (r + 1) i) * 0) + (q (k + 1) (i + j))) + c) % 2147483648)), (0, (((i : Nat) : Int) + ((j : Nat) : Int))), (2, (((k + 1) : Nat) : Int))]) (g' := q) ?_ (by rfl) (by rw [land31 (by omega) (by omega)]) (by rfl)
                refine wp_n 1 (pc' := 124) (L' := [(2, ((k : Nat) : Int)), (2, ((a : Nat) : Int)), (2, ((r : Nat) : Int)), (0, (((rs + m) : Nat) : Int)), (0, ((i : Nat) : Int)), (1, c), (9, 0), (0, ((j : Nat) : Int)), (1, 0), (9, 0), (1, ((((q (r + 1) i) * 0) + (q (k + 1) (i + j))) + c)), (9, 0)]) (st' := [(0, (((((q (r + 1) i) * 0) + (q (k + 1) (i + j))) + c) % 2147483648)), (0, (((i : Nat) : Int) + ((j : Nat) : Int))), (2, (((k + 1) : Nat) : Int))]) (g' := q) rfl ?_
                refine wp_iast (k := (k + 1)) ((i + j)) rfl hk_k.2 (by omega) (by omega) (by decide) ?_
                refine wp_n 3 (pc' := 130) (L' := [(2, ((k : Nat) : Int)), (2, ((a : Nat) : Int)), (2, ((r : Nat) : Int)), (0, (((rs + m) : Nat) : Int)), (0, ((i : Nat) : Int)), (1, c), (9, 0), (0, ((j : Nat) : Int)), (1, 0), (9, 0), (1, ((((q (r + 1) i) * 0) + (q (k + 1) (i + j))) + c)), (9, 0)]) (st' := [(1, (((Int64.ofInt ((((q (r + 1) i) * 0) + (q (k + 1) (i + j))) + c)).toUInt64 >>> ((Int32.ofInt 31).toInt64.toUInt64 &&& Int64.toUInt64 63)).toInt64).toInt)]) (g' := (am_up q (k + 1) ((i + j)) (((((q (r + 1) i) * 0) + (q (k + 1) (i + j))) + c) % 2147483648))) rfl ?_
                refine wp_eq (L' := [(2, ((k : Nat) : Int)), (2, ((a : Nat) : Int)), (2, ((r : Nat) : Int)), (0, (((rs + m) : Nat) : Int)), (0, ((i : Nat) : Int)), (1, c), (9, 0), (0, ((j : Nat) : Int)), (1, 0), (9, 0), (1, ((((q (r + 1) i) * 0) + (q (k + 1) (i + j))) + c)), (9, 0)]) (st' := [(1, (((((q (r + 1) i) * 0) + (q (k + 1) (i + j))) + c) / 2147483648))]) (g' := (am_up q (k + 1) ((i + j)) (((((q (r + 1) i) * 0) + (q (k + 1) (i + j))) + c) % 2147483648))) ?_ (by rfl) (by rw [lshr31 (by omega) (by omega)]) (by rfl)
                refine wp_n 3 (pc' := 48) (L' := [(2, ((k : Nat) : Int)), (2, ((a : Nat) : Int)), (2, ((r : Nat) : Int)), (0, (((rs + m) : Nat) : Int)), (0, ((i : Nat) : Int)), (1, (((((q (r + 1) i) * 0) + (q (k + 1) (i + j))) + c) / 2147483648)), (9, 0), (0, (((j : Nat) : Int) + 1)), (1, 0), (9, 0), (1, ((((q (r + 1) i) * 0) + (q (k + 1) (i + j))) + c)), (9, 0)]) (st' := []) (g' := (am_up q (k + 1) ((i + j)) (((((q (r + 1) i) * 0) + (q (k + 1) (i + j))) + c) % 2147483648))) rfl ?_
                refine wp_eq (ih48 (j + 1) ((((((q (r + 1) i) * 0) + (q (k + 1) (i + j))) + c) / 2147483648)) ((am_up q (k + 1) ((i + j)) (((((q (r + 1) i) * 0) + (q (k + 1) (i + j))) + c) % 2147483648))) ((1, 0)) ((1, ((((q (r + 1) i) * 0) + (q (k + 1) (i + j))) + c))) ?_ ?_) (by first | rfl | (simp; done) | (simp; omega)) (by rfl) (by rfl)
                · omega
                · refine xi_step hX hr4 (by omega) hrb (msk_in (fun j hj => hA27.2.2.1 j (by omega)) j) ?_
                  rw [hri]
                  unfold msk
                  first | (rw [if_pos (by omega), hfa]) | (rw [if_neg (by omega)])
              · have hfa : q (a + 1) j = g27 (a + 1) j := by rw [hX.2.2.1 _ _ (by omega), hH.2.1 _ _ (by omega)]
                have hfb := hA27.2.2.1 j (by omega)
                have hvv := xi_v (x := q (r + 1) i) (f := q (a + 1) j) (l := q (k + 1) (i + j)) (c := c) (by omega) (by omega) hT hc
                refine wp_n 1 (pc' := 67) (L' := [(2, ((k : Nat) : Int)), (2, ((a : Nat) : Int)), (2, ((r : Nat) : Int)), (0, (((rs + m) : Nat) : Int)), (0, ((i : Nat) : Int)), (1, c), (9, 0), (0, ((j : Nat) : Int)), w8', (9, 0), w10', (9, 0)]) (st' := [(2, ((a : Nat) : Int))]) (g' := q) rfl ?_
                refine wp_gfr (k := a) (r := (a + 1)) rfl hk_a.1 rfl rfl ?_
                refine wp_n 1 (pc' := 72) (L' := [(2, ((k : Nat) : Int)), (2, ((a : Nat) : Int)), (2, ((r : Nat) : Int)), (0, (((rs + m) : Nat) : Int)), (0, ((i : Nat) : Int)), (1, c), (9, 0), (0, ((j : Nat) : Int)), w8', (9, 0), w10', (9, 0)]) (st' := [(0, ((j : Nat) : Int)), (2, (((a + 1) : Nat) : Int))]) (g' := q) rfl ?_
                refine wp_iald (k := (a + 1)) (j) rfl hk_a.2 (by omega) (by omega) (by decide) ?_
                refine wp_i2l rfl (by omega) ?_
                refine wp_n 3 (pc' := 81) (L' := [(2, ((k : Nat) : Int)), (2, ((a : Nat) : Int)), (2, ((r : Nat) : Int)), (0, (((rs + m) : Nat) : Int)), (0, ((i : Nat) : Int)), (1, c), (9, 0), (0, ((j : Nat) : Int)), (1, (q (a + 1) j)), (9, 0), w10', (9, 0)]) (st' := [(2, ((r : Nat) : Int))]) (g' := q) rfl ?_
                refine wp_gfr (k := r) (r := (r + 1)) rfl hk_r.1 rfl rfl ?_
                refine wp_n 1 (pc' := 86) (L' := [(2, ((k : Nat) : Int)), (2, ((a : Nat) : Int)), (2, ((r : Nat) : Int)), (0, (((rs + m) : Nat) : Int)), (0, ((i : Nat) : Int)), (1, c), (9, 0), (0, ((j : Nat) : Int)), (1, (q (a + 1) j)), (9, 0), w10', (9, 0)]) (st' := [(0, ((i : Nat) : Int)), (2, (((r + 1) : Nat) : Int))]) (g' := q) rfl ?_
                refine wp_iald (k := (r + 1)) (i) rfl hk_r.2 (by omega) (by omega) (by decide) ?_
                refine wp_i2l rfl (by omega) ?_
                refine wp_n 3 (pc' := 92) (L' := [(2, ((k : Nat) : Int)), (2, ((a : Nat) : Int)), (2, ((r : Nat) : Int)), (0, (((rs + m) : Nat) : Int)), (0, ((i : Nat) : Int)), (1, c), (9, 0), (0, ((j : Nat) : Int)), (1, (q (a + 1) j)), (9, 0), w10', (9, 0)]) (st' := [(2, ((k : Nat) : Int)), (1, ((q (r + 1) i) * (q (a + 1) j)))]) (g' := q) rfl ?_
                refine wp_gfr (k := k) (r := (k + 1)) rfl hk_k.1 rfl rfl ?_
                refine wp_n 3 (pc' := 100) (L' := [(2, ((k : Nat) : Int)), (2, ((a : Nat) : Int)), (2, ((r : Nat) : Int)), (0, (((rs + m) : Nat) : Int)), (0, ((i : Nat) : Int)), (1, c), (9, 0), (0, ((j : Nat) : Int)), (1, (q (a + 1) j)), (9, 0), w10', (9, 0)]) (st' := [(0, (((i : Nat) : Int) + ((j : Nat) : Int))), (2, (((k + 1) : Nat) : Int)), (1, ((q (r + 1) i) * (q (a + 1) j)))]) (g' := q) rfl ?_
                refine wp_iald (k := (k + 1)) ((i + j)) rfl hk_k.2 (by omega) (by omega) (by decide) ?_
                refine wp_i2l rfl (by omega) ?_
                refine wp_n 5 (pc' := 109) (L' := [(2, ((k : Nat) : Int)), (2, ((a : Nat) : Int)), (2, ((r : Nat) : Int)), (0, (((rs + m) : Nat) : Int)), (0, ((i : Nat) : Int)), (1, c), (9, 0), (0, ((j : Nat) : Int)), (1, (q (a + 1) j)), (9, 0), (1, ((((q (r + 1) i) * (q (a + 1) j)) + (q (k + 1) (i + j))) + c)), (9, 0)]) (st' := [(2, ((k : Nat) : Int))]) (g' := q) rfl ?_
                refine wp_gfr (k := k) (r := (k + 1)) rfl hk_k.1 rfl rfl ?_
                refine wp_n 6 (pc' := 123) (L' := [(2, ((k : Nat) : Int)), (2, ((a : Nat) : Int)), (2, ((r : Nat) : Int)), (0, (((rs + m) : Nat) : Int)), (0, ((i : Nat) : Int)), (1, c), (9, 0), (0, ((j : Nat) : Int)), (1, (q (a + 1) j)), (9, 0), (1, ((((q (r + 1) i) * (q (a + 1) j)) + (q (k + 1) (i + j))) + c)), (9, 0)]) (st' := [(1, (Int64.ofInt ((((q (r + 1) i) * (q (a + 1) j)) + (q (k + 1) (i + j))) + c) &&& Int64.ofInt 2147483647).toInt), (0, (((i : Nat) : Int) + ((j : Nat) : Int))), (2, (((k + 1) : Nat) : Int))]) (g' := q) rfl ?_
                refine wp_eq (L' := [(2, ((k : Nat) : Int)), (2, ((a : Nat) : Int)), (2, ((r : Nat) : Int)), (0, (((rs + m) : Nat) : Int)), (0, ((i : Nat) : Int)), (1, c), (9, 0), (0, ((j : Nat) : Int)), (1, (q (a + 1) j)), (9, 0), (1, ((((q (r + 1) i) * (q (a + 1) j)) + (q (k + 1) (i + j))) + c)), (9, 0)]) (st' := [(1, (((((q (r + 1) i) * (q (a + 1) j)) + (q (k + 1) (i + j))) + c) % 2147483648)), (0, (((i : Nat) : Int) + ((j : Nat) : Int))), (2, (((k + 1) : Nat) : Int))]) (g' := q) ?_ (by rfl) (by rw [land31 (by omega) (by omega)]) (by rfl)
                refine wp_n 1 (pc' := 124) (L' := [(2, ((k : Nat) : Int)), (2, ((a : Nat) : Int)), (2, ((r : Nat) : Int)), (0, (((rs + m) : Nat) : Int)), (0, ((i : Nat) : Int)), (1, c), (9, 0), (0, ((j : Nat) : Int)), (1, (q (a + 1) j)), (9, 0), (1, ((((q (r + 1) i) * (q (a + 1) j)) + (q (k + 1) (i + j))) + c)), (9, 0)]) (st' := [(0, (((((q (r + 1) i) * (q (a + 1) j)) + (q (k + 1) (i + j))) + c) % 2147483648)), (0, (((i : Nat) : Int) + ((j : Nat) : Int))), (2, (((k + 1) : Nat) : Int))]) (g' := q) rfl ?_
                refine wp_iast (k := (k + 1)) ((i + j)) rfl hk_k.2 (by omega) (by omega) (by decide) ?_
                refine wp_n 3 (pc' := 130) (L' := [(2, ((k : Nat) : Int)), (2, ((a : Nat) : Int)), (2, ((r : Nat) : Int)), (0, (((rs + m) : Nat) : Int)), (0, ((i : Nat) : Int)), (1, c), (9, 0), (0, ((j : Nat) : Int)), (1, (q (a + 1) j)), (9, 0), (1, ((((q (r + 1) i) * (q (a + 1) j)) + (q (k + 1) (i + j))) + c)), (9, 0)]) (st' := [(1, (((Int64.ofInt ((((q (r + 1) i) * (q (a + 1) j)) + (q (k + 1) (i + j))) + c)).toUInt64 >>> ((Int32.ofInt 31).toInt64.toUInt64 &&& Int64.toUInt64 63)).toInt64).toInt)]) (g' := (am_up q (k + 1) ((i + j)) (((((q (r + 1) i) * (q (a + 1) j)) + (q (k + 1) (i + j))) + c) % 2147483648))) rfl ?_
                refine wp_eq (L' := [(2, ((k : Nat) : Int)), (2, ((a : Nat) : Int)), (2, ((r : Nat) : Int)), (0, (((rs + m) : Nat) : Int)), (0, ((i : Nat) : Int)), (1, c), (9, 0), (0, ((j : Nat) : Int)), (1, (q (a + 1) j)), (9, 0), (1, ((((q (r + 1) i) * (q (a + 1) j)) + (q (k + 1) (i + j))) + c)), (9, 0)]) (st' := [(1, (((((q (r + 1) i) * (q (a + 1) j)) + (q (k + 1) (i + j))) + c) / 2147483648))]) (g' := (am_up q (k + 1) ((i + j)) (((((q (r + 1) i) * (q (a + 1) j)) + (q (k + 1) (i + j))) + c) % 2147483648))) ?_ (by rfl) (by rw [lshr31 (by omega) (by omega)]) (by rfl)
                refine wp_n 3 (pc' := 48) (L' := [(2, ((k : Nat) : Int)), (2, ((a : Nat) : Int)), (2, ((r : Nat) : Int)), (0, (((rs + m) : Nat) : Int)), (0, ((i : Nat) : Int)), (1, (((((q (r + 1) i) * (q (a + 1) j)) + (q (k + 1) (i + j))) + c) / 2147483648)), (9, 0), (0, (((j : Nat) : Int) + 1)), (1, (q (a + 1) j)), (9, 0), (1, ((((q (r + 1) i) * (q (a + 1) j)) + (q (k + 1) (i + j))) + c)), (9, 0)]) (st' := []) (g' := (am_up q (k + 1) ((i + j)) (((((q (r + 1) i) * (q (a + 1) j)) + (q (k + 1) (i + j))) + c) % 2147483648))) rfl ?_
                refine wp_eq (ih48 (j + 1) ((((((q (r + 1) i) * (q (a + 1) j)) + (q (k + 1) (i + j))) + c) / 2147483648)) ((am_up q (k + 1) ((i + j)) (((((q (r + 1) i) * (q (a + 1) j)) + (q (k + 1) (i + j))) + c) % 2147483648))) ((1, (q (a + 1) j))) ((1, ((((q (r + 1) i) * (q (a + 1) j)) + (q (k + 1) (i + j))) + c))) ?_ ?_) (by first | rfl | (simp; done) | (simp; omega)) (by rfl) (by rfl)
                · omega
                · refine xi_step hX hr4 (by omega) hrb (msk_in (fun j hj => hA27.2.2.1 j (by omega)) j) ?_
                  rw [hri]
                  unfold msk
                  first | (rw [if_pos (by omega), hfa]) | (rw [if_neg (by omega)])
        refine wp_eq (L48 (_ + 1) (0) (0) (h) (w8) (w10) (Nat.lt_succ_self _) ?_) (by first | rfl | (simp; done) | (simp; omega)) (by rfl) (by rfl)
        · exact xi_zero hH.2.2.1 (by omega)
  refine wp_eq (L33 (_ + 1) (0) (g27) ((9, 0)) ((9, 0)) ((9, 0)) ((9, 0)) (Nat.lt_succ_self _) ?_) (by first | rfl | (simp; done) | (simp; omega)) (by rfl) (by rfl)
  · exact ⟨Nat.zero_le _, fun _ _ _ => rfl, hW27.2.2.1, by rw [hW27.2.2.2]; show (0 : Int) = 0 * w; rw [Int.zero_mul]⟩
theorem mul_le40 {x w p : Int} (hw : 0 ≤ w) (hx : x ≤ p) (h : w * p < 2147483648 ^ 40) : w * x < 2147483648 ^ 40 := by
  have := Int.mul_le_mul_of_nonneg_left hx hw
  omega
set_option maxHeartbeats 400000 in
set_option maxRecDepth 20000 in
theorem e_share {sn : Nat} {sx : Nat → Int} {b : Nat} {g : am_G} {k : Nat} (hk_k : IsBig b k) {a : Nat} (hk_a : IsBig b a) {r : Nat} (hk_r : IsBig b r) {v w p : Int} (hB : BigR g k v) (hA : BigR g a w) (hL : BigL g r) (hp : 0 ≤ p ∧ p ≤ 1000000) (d1 : Dj k a) (d2 : Dj k r) (d3 : Dj r k) (d4 : Dj r a) (ho : v * p < 2147483648 ^ 40) (ho2 : w * p < 2147483648 ^ 40) : Ev sn sx 4 13 [(2, ((k : Nat) : Int)), (2, ((a : Nat) : Int)), (0, p), (2, ((r : Nat) : Int))] (SH b) g (fun x => ∃ g' q, x = (some (0, q), SH b, g') ∧ IsShare v p w q ∧ BigR g' k (v * p) ∧ FrC k r g g' ∧ BigL g' r) := by
  refine ev_of (K := 3) T13 (by decide) rfl rfl (Nat.le_of_ble_eq_true rfl) ?_
  refine wp_eq (L' := [(2, ((k : Nat) : Int)), (2, ((a : Nat) : Int)), (0, p), (2, ((r : Nat) : Int)), (9, 0), (9, 0)]) (st' := []) (g' := g) ?_
  refine wp_n 2 (pc' := 2) (L' := [(2, ((k : Nat) : Int)), (2, ((a : Nat) : Int)), (0, p), (2, ((r : Nat) : Int)), (9, 0), (9, 0)]) (st' := [(0, p), (2, ((k : Nat) : Int))]) (g' := g) rfl ?_
  refine wp_cv (as := [(2, ((k : Nat) : Int)), (0, p)]) (rest := []) rfl rfl rfl (Nat.le_of_ble_eq_true rfl) (am_rcv_of hk_k.1 (by decide)) (e_times hk_k hB (by omega) ho) (by decide) (fun r1 h2 => ?_)
  obtain ⟨g2, rfl, hR2, hF2⟩ := h2
  refine wp_eq (L' := [(2, ((k : Nat) : Int)), (2, ((a : Nat) : Int)), (0, p), (2, ((r : Nat) : Int)), (9, 0), (9, 0)]) (st' := []) (g' := g2) ?_
  refine wp_n 4 (pc' := 12) (L' := [(2, ((k : Nat) : Int)), (2, ((a : Nat) : Int)), (0, p), (2, ((r : Nat) : Int)), (0, 0), (0, 524288)]) (st' := []) (g' := g2) rfl ?_
  have L12 : ∀ (lf : Nat) (t : Nat) (h : am_G) (q s : Int), t < lf → (SI v p w q t) → (s = 2 ^ t / 2) → (BigR h k (v * p)) → (BigR h a w) → (BigL h r) → (FrC k r g h) → (t ≤ 20) → Wp sn sx 3 T13 12 [(2, ((k : Nat) : Int)), (2, ((a : Nat) : Int)), (0, p), (2, ((r : Nat) : Int)), (0, q), (0, s)] [] (SH b) h (fun x => ∃ g' q, x = (some (0, q), SH b, g') ∧ IsShare v p w q ∧ BigR g' k (v * p) ∧ FrC k r g g' ∧ BigL g' r) := by
    intro lf
    induction lf with
    | zero => intro t h q s hlf; exact absurd hlf (Nat.not_lt_zero _)
    | succ lf ih12 =>
      intro t h q s hlf hS hs hK hA2 hR hF ht
      refine wp_n 1 (pc' := 14) (L' := [(2, ((k : Nat) : Int)), (2, ((a : Nat) : Int)), (0, p), (2, ((r : Nat) : Int)), (0, q), (0, s)]) (st' := [(0, s)]) (g' := h) rfl ?_
      refine wp_if_le rfl (fun c3 => ?_) (fun c3 => ?_)
      · have ht0 : t = 0 := by
          rcases Nat.eq_zero_or_pos t with h | h
          · exact h
          · exfalso
            obtain ⟨u, rfl⟩ : ∃ u, t = u + 1 := ⟨t - 1, by omega⟩
            have := two_half u
            have := two_pos u
            have := hs
            have hb := two_le20 (show u ≤ 20 by omega)
            omega
        refine wp_n 1 (pc' := 70) (L' := [(2, ((k : Nat) : Int)), (2, ((a : Nat) : Int)), (0, p), (2, ((r : Nat) : Int)), (0, q), (0, s)]) (st' := [(0, q)]) (g' := h) rfl ?_
        exact wp_ret rfl rfl rfl ⟨_, _, rfl, si_end (by rw [ht0] at hS; exact hS), hK, hF, hR⟩
      · obtain ⟨u, rfl⟩ : ∃ u, t = u + 1 := by
          rcases Nat.eq_zero_or_pos t with h | h
          · exfalso
            subst h
            have : s = 0 := hs
            omega
          · exact ⟨t - 1, by omega⟩
        have hsu : s = 2 ^ u := hs.trans (two_half u)
        have hsb := two_le20 (show u ≤ 20 by omega)
        have hsp := two_pos u
        have hsn : s / 2 = 2 ^ u / 2 := by rw [hsu]
        have hq := hS.1
        have hq2 := hS.2.1
        refine wp_n 4 (pc' := 23) (L' := [(2, ((k : Nat) : Int)), (2, ((a : Nat) : Int)), (0, p), (2, ((r : Nat) : Int)), (0, q), (0, s)]) (st' := [(0, (p - q)), (0, s)]) (g' := h) rfl ?_
        refine wp_ic_gt rfl (fun c4 => ?_) (fun c4 => ?_)
        · refine wp_n 2 (pc' := 62) (L' := [(2, ((k : Nat) : Int)), (2, ((a : Nat) : Int)), (0, p), (2, ((r : Nat) : Int)), (0, q), (0, s)]) (st' := [(0, 2), (0, s)]) (g' := h) rfl ?_
          refine wp_idiv rfl (by omega) (by omega) (by omega) ?_
          refine wp_eq (L' := [(2, ((k : Nat) : Int)), (2, ((a : Nat) : Int)), (0, p), (2, ((r : Nat) : Int)), (0, q), (0, s)]) (st' := [(0, (s / 2))]) (g' := h) ?_ (by rfl) (by rw [Int.tdiv_eq_ediv_of_nonneg (show 0 ≤ s by omega)]) (by rfl)
          refine wp_n 2 (pc' := 12) (L' := [(2, ((k : Nat) : Int)), (2, ((a : Nat) : Int)), (0, p), (2, ((r : Nat) : Int)), (0, q), (0, (s / 2))]) (st' := []) (g' := h) rfl ?_
          refine wp_eq (ih12 (u) (h) (q) ((s / 2)) ?_ ?_ ?_ ?_ ?_ ?_ ?_ ?_) (by first | rfl | (simp; done) | (simp; omega)) (by rfl) (by rfl)
          · omega
          · first | exact si_step hS hA2.nn _ (Or.inl ⟨rfl, Or.inl (by rw [← hsu]; omega)⟩) | exact si_step hS hA2.nn _ (Or.inr ⟨by rw [hsu], by rw [← hsu]; omega, by rw [← hsu, Int.mul_comm (q + s) w]; exact p44⟩) | exact si_step hS hA2.nn _ (Or.inl ⟨Int.add_zero _, Or.inr (by rw [← hsu, Int.mul_comm (q + s) w]; exact Int.not_le.mp p44)⟩)
          · exact hsn
          · first | exact hK | exact hK37
          · first | exact hA2 | exact hA37
          · first | exact hR | exact hR37.L
          · first | exact hF | exact fun c j n1 n2 n3 n4 => by rw [hF37 c j n3 n4, hF28 c j n3 n4, hF c j n1 n2 n3 n4]
          · omega
        · refine wp_n 2 (pc' := 28) (L' := [(2, ((k : Nat) : Int)), (2, ((a : Nat) : Int)), (0, p), (2, ((r : Nat) : Int)), (0, q), (0, s)]) (st' := [(2, ((a : Nat) : Int)), (2, ((r : Nat) : Int))]) (g' := h) rfl ?_
          refine wp_cv (as := [(2, ((r : Nat) : Int)), (2, ((a : Nat) : Int))]) (rest := []) rfl rfl rfl (Nat.le_of_ble_eq_true rfl) (am_rcv_of hk_r.1 (by decide)) (e_setb hk_r hk_a hR hA2 d4) (by decide) (fun r5 h6 => ?_)
          obtain ⟨g28, rfl, hR28, hF28⟩ := h6
          have hK28 := hK.fr' hF28 d3
          have hA28 := hA2.fr' hF28 d4
          refine wp_eq (L' := [(2, ((k : Nat) : Int)), (2, ((a : Nat) : Int)), (0, p), (2, ((r : Nat) : Int)), (0, q), (0, s)]) (st' := []) (g' := g28) ?_
          refine wp_n 4 (pc' := 37) (L' := [(2, ((k : Nat) : Int)), (2, ((a : Nat) : Int)), (0, p), (2, ((r : Nat) : Int)), (0, q), (0, s)]) (st' := [(0, (q + s)), (2, ((r : Nat) : Int))]) (g' := g28) rfl ?_
          refine wp_cv (as := [(2, ((r : Nat) : Int)), (0, (q + s))]) (rest := []) rfl rfl rfl (Nat.le_of_ble_eq_true rfl) (am_rcv_of hk_r.1 (by decide)) (e_times hk_r hR28 (by omega) (mul_le40 hA2.nn (by omega) ho2)) (by decide) (fun r7 h8 => ?_)
          obtain ⟨g37, rfl, hR37, hF37⟩ := h8
          have hK37 := hK28.fr' hF37 d3
          have hA37 := hA28.fr' hF37 d4
          refine wp_eq (L' := [(2, ((k : Nat) : Int)), (2, ((a : Nat) : Int)), (0, p), (2, ((r : Nat) : Int)), (0, q), (0, s)]) (st' := []) (g' := g37) ?_
          refine wp_n 3 (pc' := 44) (L' := [(2, ((k : Nat) : Int)), (2, ((a : Nat) : Int)), (0, p), (2, ((r : Nat) : Int)), (0, q), (0, s)]) (st' := [(2, ((r : Nat) : Int)), (2, ((k : Nat) : Int)), (0, q)]) (g' := g37) rfl ?_
          refine wp_cv (as := [(2, ((k : Nat) : Int)), (2, ((r : Nat) : Int))]) (rest := [(0, q)]) rfl rfl rfl (Nat.le_of_ble_eq_true rfl) (am_rcv_of hk_k.1 (by decide)) (e_reaches hk_k hk_r hK37 hR37) (by decide) (fun r9 h10 => ?_)
          rcases h10 with ⟨rfl, p44⟩ | ⟨rfl, p44⟩
          · refine wp_eq (L' := [(2, ((k : Nat) : Int)), (2, ((a : Nat) : Int)), (0, p), (2, ((r : Nat) : Int)), (0, q), (0, s)]) (st' := [(0, 1), (0, q)]) (g' := g37) ?_
            refine wp_n 7 (pc' := 62) (L' := [(2, ((k : Nat) : Int)), (2, ((a : Nat) : Int)), (0, p), (2, ((r : Nat) : Int)), (0, (q + s)), (0, s)]) (st' := [(0, 2), (0, s)]) (g' := g37) rfl ?_
            refine wp_idiv rfl (by omega) (by omega) (by omega) ?_
            refine wp_eq (L' := [(2, ((k : Nat) : Int)), (2, ((a : Nat) : Int)), (0, p), (2, ((r : Nat) : Int)), (0, (q + s)), (0, s)]) (st' := [(0, (s / 2))]) (g' := g37) ?_ (by rfl) (by rw [Int.tdiv_eq_ediv_of_nonneg (show 0 ≤ s by omega)]) (by rfl)
            refine wp_n 2 (pc' := 12) (L' := [(2, ((k : Nat) : Int)), (2, ((a : Nat) : Int)), (0, p), (2, ((r : Nat) : Int)), (0, (q + s)), (0, (s / 2))]) (st' := []) (g' := g37) rfl ?_
            refine wp_eq (ih12 (u) (g37) ((q + s)) ((s / 2)) ?_ ?_ ?_ ?_ ?_ ?_ ?_ ?_) (by first | rfl | (simp; done) | (simp; omega)) (by rfl) (by rfl)
            · omega
            · first | exact si_step hS hA2.nn _ (Or.inl ⟨rfl, Or.inl (by rw [← hsu]; omega)⟩) | exact si_step hS hA2.nn _ (Or.inr ⟨by rw [hsu], by rw [← hsu]; omega, by rw [← hsu, Int.mul_comm (q + s) w]; exact p44⟩) | exact si_step hS hA2.nn _ (Or.inl ⟨Int.add_zero _, Or.inr (by rw [← hsu, Int.mul_comm (q + s) w]; exact Int.not_le.mp p44)⟩)
            · exact hsn
            · first | exact hK | exact hK37
            · first | exact hA2 | exact hA37
            · first | exact hR | exact hR37.L
            · first | exact hF | exact fun c j n1 n2 n3 n4 => by rw [hF37 c j n3 n4, hF28 c j n3 n4, hF c j n1 n2 n3 n4]
            · omega
          · refine wp_eq (L' := [(2, ((k : Nat) : Int)), (2, ((a : Nat) : Int)), (0, p), (2, ((r : Nat) : Int)), (0, q), (0, s)]) (st' := [(0, 0), (0, q)]) (g' := g37) ?_
            refine wp_n 6 (pc' := 62) (L' := [(2, ((k : Nat) : Int)), (2, ((a : Nat) : Int)), (0, p), (2, ((r : Nat) : Int)), (0, (q + 0)), (0, s)]) (st' := [(0, 2), (0, s)]) (g' := g37) rfl ?_
            refine wp_idiv rfl (by omega) (by omega) (by omega) ?_
            refine wp_eq (L' := [(2, ((k : Nat) : Int)), (2, ((a : Nat) : Int)), (0, p), (2, ((r : Nat) : Int)), (0, (q + 0)), (0, s)]) (st' := [(0, (s / 2))]) (g' := g37) ?_ (by rfl) (by rw [Int.tdiv_eq_ediv_of_nonneg (show 0 ≤ s by omega)]) (by rfl)
            refine wp_n 2 (pc' := 12) (L' := [(2, ((k : Nat) : Int)), (2, ((a : Nat) : Int)), (0, p), (2, ((r : Nat) : Int)), (0, (q + 0)), (0, (s / 2))]) (st' := []) (g' := g37) rfl ?_
            refine wp_eq (ih12 (u) (g37) ((q + 0)) ((s / 2)) ?_ ?_ ?_ ?_ ?_ ?_ ?_ ?_) (by first | rfl | (simp; done) | (simp; omega)) (by rfl) (by rfl)
            · omega
            · first | exact si_step hS hA2.nn _ (Or.inl ⟨rfl, Or.inl (by rw [← hsu]; omega)⟩) | exact si_step hS hA2.nn _ (Or.inr ⟨by rw [hsu], by rw [← hsu]; omega, by rw [← hsu, Int.mul_comm (q + s) w]; exact p44⟩) | exact si_step hS hA2.nn _ (Or.inl ⟨Int.add_zero _, Or.inr (by rw [← hsu, Int.mul_comm (q + s) w]; exact Int.not_le.mp p44)⟩)
            · exact hsn
            · first | exact hK | exact hK37
            · first | exact hA2 | exact hA37
            · first | exact hR | exact hR37.L
            · first | exact hF | exact fun c j n1 n2 n3 n4 => by rw [hF37 c j n3 n4, hF28 c j n3 n4, hF c j n1 n2 n3 n4]
            · omega
  refine wp_eq (L12 (_ + 1) (20) (g2) (0) (524288) (Nat.lt_succ_self _) ?_ ?_ ?_ ?_ ?_ ?_ ?_) (by first | rfl | (simp; done) | (simp; omega)) (by rfl) (by rfl)
  · exact ⟨Int.le_refl _, hp.1, by rw [Int.zero_mul]; exact hR2.nn, Or.inl (by show p < 0 + 2 ^ 20; omega)⟩
  · rfl
  · exact hR2
  · exact hA.fr' hF2 d1
  · exact hL.fr hF2 d2
  · exact fun c j n1 n2 _ _ => hF2 c j n1 n2
  · exact Nat.le_refl _
