/-! THE CLASS'S READER: words and tokens -/
theorem rcv_s {i : Nat} (h : i < 17) {as : List am_V} {sh : am_Sh} : am_rcv 99 ((4, (i : Int)) :: as) sh = some 0 := by
  show (if (4 : Nat) = 2 then (none : Option Nat) else if (4 : Nat) = 4 ∧ ((i : Int)).toNat < 17 ∧ (99 : Nat) = 99 then some 0 else none) = some 0
  rw [if_neg (by decide), if_pos ⟨rfl, by omega, rfl⟩]
theorem pr_len {i : Nat} (h : i < 17) {sh : am_Sh} {g : am_G} : am_prim 1002 [(4, (i : Int))] sh g = some (some (0, ((am_slen.getD i 0 : Nat) : Int)), sh, g) := by
  unfold am_prim
  rw [if_pos rfl]
  show (if (4 : Nat) = 4 ∧ ((i : Int)).toNat < 17 then _ else none) = _
  rw [if_pos ⟨rfl, by omega⟩]
  rfl
theorem e_slen {sn : Nat} {sx : Nat → Int} {sh : am_Sh} {g : am_G} {i : Nat} (hi : i < 17) : Ev sn sx 7 1002 [(4, (i : Int))] sh g (fun r => r = (some (0, ((am_slen.getD i 0 : Nat) : Int)), sh, g)) := ev_prim (by decide) (by decide) (pr_len hi) rfl
theorem pr_chr {i j : Nat} (h : i < 17) (hj : j < am_slen.getD i 0) {sh : am_Sh} {g : am_G} : am_prim 1003 [(4, (i : Int)), (0, (j : Int))] sh g = some (some (0, (((am_sbyt.getD i []).getD j 0 : Nat) : Int)), sh, g) := by
  have hl := (sb_all i h).1
  unfold am_prim
  rw [if_neg (by decide), if_pos rfl]
  show (if (4 : Nat) = 4 ∧ ((i : Int)).toNat < 17 ∧ (0 : Nat) = 0 then _ else none) = _
  rw [if_pos ⟨rfl, by omega, rfl⟩]
  show ((am_xs (am_slen.getD i 0) (j : Int)).bind fun j => some (some (0, (((am_sbyt.getD i []).getD j 0 : Nat) : Int)), sh, g)) = _
  rw [am_xs_of hj (by omega)]
  rfl
theorem e_schr {sn : Nat} {sx : Nat → Int} {sh : am_Sh} {g : am_G} {i j : Nat} (hi : i < 17) (hj : j < am_slen.getD i 0) : Ev sn sx 7 1003 [(4, (i : Int)), (0, (j : Int))] sh g (fun r => r = (some (0, (((am_sbyt.getD i []).getD j 0 : Nat) : Int)), sh, g)) := ev_prim (by decide) (by decide) (pr_chr hi hj) rfl
set_option maxHeartbeats 400000 in
set_option maxRecDepth 20000 in
theorem e_word {sn : Nat} {sx : Nat → Int} {g : am_G} {i : Nat} (hi : i < 17) : Ev sn sx 1 76 [(0, ((i : Nat) : Int))] (SH 7) g (fun r => r = (some (4, ((i : Nat) : Int)), SH 7, g)) := by
  refine ev_of (K := 0) T76 (by decide) rfl rfl (Nat.le_of_ble_eq_true rfl) ?_
  refine wp_eq (L' := [(0, ((i : Nat) : Int))]) (st' := []) (g' := g) ?_
  refine wp_n 1 (pc' := 1) (L' := [(0, ((i : Nat) : Int))]) (st' := [(0, ((i : Nat) : Int))]) (g' := g) rfl ?_
  rcases (show ((i : Nat) : Int) = 0 ∨ ((i : Nat) : Int) = 1 ∨ ((i : Nat) : Int) = 2 ∨ ((i : Nat) : Int) = 3 ∨ ((i : Nat) : Int) = 4 ∨ ((i : Nat) : Int) = 5 ∨ ((i : Nat) : Int) = 6 ∨ ((i : Nat) : Int) = 7 ∨ ((i : Nat) : Int) = 8 ∨ ((i : Nat) : Int) = 9 ∨ ((i : Nat) : Int) = 10 ∨ ((i : Nat) : Int) = 11 ∨ ((i : Nat) : Int) = 12 ∨ ((i : Nat) : Int) = 13 ∨ ((i : Nat) : Int) = 14 ∨ ((i : Nat) : Int) = 15 ∨ (((i : Nat) : Int) < 0 ∨ 15 < ((i : Nat) : Int)) by omega) with e1 | e1 | e1 | e1 | e1 | e1 | e1 | e1 | e1 | e1 | e1 | e1 | e1 | e1 | e1 | e1 | e1
  · refine wp_eq (L' := [(0, ((i : Nat) : Int))]) (st' := [(0, 0)]) (g' := g) ?_ (by rfl) (by rw [e1]) (by rfl)
    refine wp_n 2 (pc' := 82) (L' := [(0, ((i : Nat) : Int))]) (st' := [(4, 0)]) (g' := g) rfl ?_
    exact wp_ret rfl rfl (v := some (4, 0)) rfl (by rw [show ((i : Nat) : Int) = 0 by omega])
  · refine wp_eq (L' := [(0, ((i : Nat) : Int))]) (st' := [(0, 1)]) (g' := g) ?_ (by rfl) (by rw [e1]) (by rfl)
    refine wp_n 2 (pc' := 85) (L' := [(0, ((i : Nat) : Int))]) (st' := [(4, 1)]) (g' := g) rfl ?_
    exact wp_ret rfl rfl (v := some (4, 1)) rfl (by rw [show ((i : Nat) : Int) = 1 by omega])
  · refine wp_eq (L' := [(0, ((i : Nat) : Int))]) (st' := [(0, 2)]) (g' := g) ?_ (by rfl) (by rw [e1]) (by rfl)
    refine wp_n 2 (pc' := 88) (L' := [(0, ((i : Nat) : Int))]) (st' := [(4, 2)]) (g' := g) rfl ?_
    exact wp_ret rfl rfl (v := some (4, 2)) rfl (by rw [show ((i : Nat) : Int) = 2 by omega])
  · refine wp_eq (L' := [(0, ((i : Nat) : Int))]) (st' := [(0, 3)]) (g' := g) ?_ (by rfl) (by rw [e1]) (by rfl)
    refine wp_n 2 (pc' := 91) (L' := [(0, ((i : Nat) : Int))]) (st' := [(4, 3)]) (g' := g) rfl ?_
    exact wp_ret rfl rfl (v := some (4, 3)) rfl (by rw [show ((i : Nat) : Int) = 3 by omega])
  · refine wp_eq (L' := [(0, ((i : Nat) : Int))]) (st' := [(0, 4)]) (g' := g) ?_ (by rfl) (by rw [e1]) (by rfl)
    refine wp_n 2 (pc' := 94) (L' := [(0, ((i : Nat) : Int))]) (st' := [(4, 4)]) (g' := g) rfl ?_
    exact wp_ret rfl rfl (v := some (4, 4)) rfl (by rw [show ((i : Nat) : Int) = 4 by omega])
  · refine wp_eq (L' := [(0, ((i : Nat) : Int))]) (st' := [(0, 5)]) (g' := g) ?_ (by rfl) (by rw [e1]) (by rfl)
    refine wp_n 2 (pc' := 97) (L' := [(0, ((i : Nat) : Int))]) (st' := [(4, 5)]) (g' := g) rfl ?_
    exact wp_ret rfl rfl (v := some (4, 5)) rfl (by rw [show ((i : Nat) : Int) = 5 by omega])
  · refine wp_eq (L' := [(0, ((i : Nat) : Int))]) (st' := [(0, 6)]) (g' := g) ?_ (by rfl) (by rw [e1]) (by rfl)
    refine wp_n 2 (pc' := 100) (L' := [(0, ((i : Nat) : Int))]) (st' := [(4, 6)]) (g' := g) rfl ?_
    exact wp_ret rfl rfl (v := some (4, 6)) rfl (by rw [show ((i : Nat) : Int) = 6 by omega])
  · refine wp_eq (L' := [(0, ((i : Nat) : Int))]) (st' := [(0, 7)]) (g' := g) ?_ (by rfl) (by rw [e1]) (by rfl)
    refine wp_n 2 (pc' := 103) (L' := [(0, ((i : Nat) : Int))]) (st' := [(4, 7)]) (g' := g) rfl ?_
    exact wp_ret rfl rfl (v := some (4, 7)) rfl (by rw [show ((i : Nat) : Int) = 7 by omega])
  · refine wp_eq (L' := [(0, ((i : Nat) : Int))]) (st' := [(0, 8)]) (g' := g) ?_ (by rfl) (by rw [e1]) (by rfl)
    refine wp_n 2 (pc' := 106) (L' := [(0, ((i : Nat) : Int))]) (st' := [(4, 8)]) (g' := g) rfl ?_
    exact wp_ret rfl rfl (v := some (4, 8)) rfl (by rw [show ((i : Nat) : Int) = 8 by omega])
  · refine wp_eq (L' := [(0, ((i : Nat) : Int))]) (st' := [(0, 9)]) (g' := g) ?_ (by rfl) (by rw [e1]) (by rfl)
    refine wp_n 2 (pc' := 109) (L' := [(0, ((i : Nat) : Int))]) (st' := [(4, 9)]) (g' := g) rfl ?_
    exact wp_ret rfl rfl (v := some (4, 9)) rfl (by rw [show ((i : Nat) : Int) = 9 by omega])
  · refine wp_eq (L' := [(0, ((i : Nat) : Int))]) (st' := [(0, 10)]) (g' := g) ?_ (by rfl) (by rw [e1]) (by rfl)
    refine wp_n 2 (pc' := 112) (L' := [(0, ((i : Nat) : Int))]) (st' := [(4, 10)]) (g' := g) rfl ?_
    exact wp_ret rfl rfl (v := some (4, 10)) rfl (by rw [show ((i : Nat) : Int) = 10 by omega])
  · refine wp_eq (L' := [(0, ((i : Nat) : Int))]) (st' := [(0, 11)]) (g' := g) ?_ (by rfl) (by rw [e1]) (by rfl)
    refine wp_n 2 (pc' := 115) (L' := [(0, ((i : Nat) : Int))]) (st' := [(4, 11)]) (g' := g) rfl ?_
    exact wp_ret rfl rfl (v := some (4, 11)) rfl (by rw [show ((i : Nat) : Int) = 11 by omega])
  · refine wp_eq (L' := [(0, ((i : Nat) : Int))]) (st' := [(0, 12)]) (g' := g) ?_ (by rfl) (by rw [e1]) (by rfl)
    refine wp_n 2 (pc' := 118) (L' := [(0, ((i : Nat) : Int))]) (st' := [(4, 12)]) (g' := g) rfl ?_
    exact wp_ret rfl rfl (v := some (4, 12)) rfl (by rw [show ((i : Nat) : Int) = 12 by omega])
  · refine wp_eq (L' := [(0, ((i : Nat) : Int))]) (st' := [(0, 13)]) (g' := g) ?_ (by rfl) (by rw [e1]) (by rfl)
    refine wp_n 2 (pc' := 121) (L' := [(0, ((i : Nat) : Int))]) (st' := [(4, 13)]) (g' := g) rfl ?_
    exact wp_ret rfl rfl (v := some (4, 13)) rfl (by rw [show ((i : Nat) : Int) = 13 by omega])
  · refine wp_eq (L' := [(0, ((i : Nat) : Int))]) (st' := [(0, 14)]) (g' := g) ?_ (by rfl) (by rw [e1]) (by rfl)
    refine wp_n 2 (pc' := 124) (L' := [(0, ((i : Nat) : Int))]) (st' := [(4, 14)]) (g' := g) rfl ?_
    exact wp_ret rfl rfl (v := some (4, 14)) rfl (by rw [show ((i : Nat) : Int) = 14 by omega])
  · refine wp_eq (L' := [(0, ((i : Nat) : Int))]) (st' := [(0, 15)]) (g' := g) ?_ (by rfl) (by rw [e1]) (by rfl)
    refine wp_n 2 (pc' := 127) (L' := [(0, ((i : Nat) : Int))]) (st' := [(4, 15)]) (g' := g) rfl ?_
    exact wp_ret rfl rfl (v := some (4, 15)) rfl (by rw [show ((i : Nat) : Int) = 15 by omega])
  · refine wp_swd (a' := 128) rfl (by omega) e1 rfl ?_
    refine wp_n 1 (pc' := 130) (L' := [(0, ((i : Nat) : Int))]) (st' := [(4, 16)]) (g' := g) rfl ?_
    exact wp_ret rfl rfl (v := some (4, 16)) rfl (by rw [show ((i : Nat) : Int) = 16 by omega])
def RdT (T : Nat → Int) (L : Nat) (g : am_G) : Prop := g 48 = T ∧ g 47 1 = (L : Int) ∧ L ≤ 300 ∧ ∀ j, j < L → 0 ≤ T j ∧ T j ≤ 255
set_option maxHeartbeats 400000 in
set_option maxRecDepth 20000 in
theorem e_wordAt {sn : Nat} {sx : Nat → Int} {g : am_G} {T : Nat → Int} {L p e : Nat} (hR : RdT T L g) (h1 : g 47 10 = (p : Int)) (h2 : g 47 8 = (e : Int)) (hpe : p ≤ e ∧ e ≤ L) : Ev sn sx 8 75 [(2, 47)] (SH 7) g (fun r => r = (some (0, wdf T p e 17), SH 7, g)) := by
  obtain ⟨hT, hL, hL3, hTb⟩ := hR
  refine ev_of (K := 7) T75 (by decide) rfl rfl (Nat.le_of_ble_eq_true rfl) ?_
  refine wp_eq (L' := [(2, 47), (9, 0), (9, 0), (9, 0)]) (st' := []) (g' := g) ?_
  refine wp_n 2 (pc' := 2) (L' := [(2, 47), (0, 0), (9, 0), (9, 0)]) (st' := []) (g' := g) rfl ?_
  have L2 : ∀ (lf : Nat) (i : Nat) (w2 w3 : am_V), 17 - i < lf → (i ≤ 17) → (∀ k, k < i → ¬ wdq T p e k) → Wp sn sx 7 T75 2 [(2, 47), (0, ((i : Nat) : Int)), w2, w3] [] (SH 7) g (fun r => r = (some (0, wdf T p e 17), SH 7, g)) := by
    intro lf
    induction lf with
    | zero => intro i w2 w3 hlf; exact absurd hlf (Nat.not_lt_zero _)
    | succ lf ih2 =>
      intro i w2 w3 hlf hi hN
      refine wp_n 2 (pc' := 5) (L' := [(2, 47), (0, ((i : Nat) : Int)), w2, w3]) (st' := [(0, 17), (0, ((i : Nat) : Int))]) (g' := g) rfl ?_
      refine wp_ic_ge rfl (fun c1 => ?_) (fun c1 => ?_)
      · refine wp_n 1 (pc' := 91) (L' := [(2, 47), (0, ((i : Nat) : Int)), w2, w3]) (st' := [(0, (-1))]) (g' := g) rfl ?_
        exact wp_ret rfl rfl rfl (by rw [wdf_no fun k hk => hN k (by omega)])
      · have hsl := sb_all i (by omega)
        refine wp_n 1 (pc' := 9) (L' := [(2, 47), (0, ((i : Nat) : Int)), w2, w3]) (st' := [(0, ((i : Nat) : Int))]) (g' := g) rfl ?_
        refine wp_cs (as := [(0, ((i : Nat) : Int))]) (rest := []) rfl (by decide) rfl (Nat.le_of_ble_eq_true rfl) (e_word (i := i) (by omega)) (by decide) (fun r2 h3 => ?_)
        obtain rfl := h3
        refine wp_eq (L' := [(2, 47), (0, ((i : Nat) : Int)), w2, w3]) (st' := [(4, ((i : Nat) : Int))]) (g' := g) ?_
        refine wp_n 3 (pc' := 15) (L' := [(2, 47), (0, ((i : Nat) : Int)), (4, ((i : Nat) : Int)), (0, 0)]) (st' := []) (g' := g) rfl ?_
        have L15 : ∀ (lf : Nat) (j : Nat), am_slen.getD i 0 - j < lf → (j ≤ am_slen.getD i 0) → (p + j ≤ e) → (∀ q, q < j → T (p + q) = (((am_sbyt.getD i []).getD q 0 : Nat) : Int)) → Wp sn sx 7 T75 15 [(2, 47), (0, ((i : Nat) : Int)), (4, ((i : Nat) : Int)), (0, ((j : Nat) : Int))] [] (SH 7) g (fun r => r = (some (0, wdf T p e 17), SH 7, g)) := by
          intro lf
          induction lf with
          | zero => intro j hlf; exact absurd hlf (Nat.not_lt_zero _)
          | succ lf ih15 =>
            intro j hlf hj hje hJ
            refine wp_n 2 (pc' := 17) (L' := [(2, 47), (0, ((i : Nat) : Int)), (4, ((i : Nat) : Int)), (0, ((j : Nat) : Int))]) (st' := [(4, ((i : Nat) : Int)), (0, ((j : Nat) : Int))]) (g' := g) rfl ?_
            refine wp_cv (as := [(4, ((i : Nat) : Int))]) (rest := [(0, ((j : Nat) : Int))]) rfl rfl rfl (Nat.le_of_ble_eq_true rfl) (rcv_s (i := i) (by omega)) (e_slen (i := i) (by omega)) (by decide) (fun r4 h5 => ?_)
            obtain rfl := h5
            refine wp_eq (L' := [(2, 47), (0, ((i : Nat) : Int)), (4, ((i : Nat) : Int)), (0, ((j : Nat) : Int))]) (st' := [(0, (((am_slen.getD i 0) : Nat) : Int)), (0, ((j : Nat) : Int))]) (g' := g) ?_
            refine wp_ic_ge rfl (fun c6 => ?_) (fun c6 => ?_)
            · refine wp_n 2 (pc' := 63) (L' := [(2, 47), (0, ((i : Nat) : Int)), (4, ((i : Nat) : Int)), (0, ((j : Nat) : Int))]) (st' := [(4, ((i : Nat) : Int)), (0, ((j : Nat) : Int))]) (g' := g) rfl ?_
              refine wp_cv (as := [(4, ((i : Nat) : Int))]) (rest := [(0, ((j : Nat) : Int))]) rfl rfl rfl (Nat.le_of_ble_eq_true rfl) (rcv_s (i := i) (by omega)) (e_slen (i := i) (by omega)) (by decide) (fun r7 h8 => ?_)
              obtain rfl := h8
              refine wp_eq (L' := [(2, 47), (0, ((i : Nat) : Int)), (4, ((i : Nat) : Int)), (0, ((j : Nat) : Int))]) (st' := [(0, (((am_slen.getD i 0) : Nat) : Int)), (0, ((j : Nat) : Int))]) (g' := g) ?_
              refine wp_ic_ne rfl (fun c9 => ?_) (fun c9 => ?_)
              · refine wp_n 2 (pc' := 2) (L' := [(2, 47), (0, (((i : Nat) : Int) + 1)), (4, ((i : Nat) : Int)), (0, ((j : Nat) : Int))]) (st' := []) (g' := g) rfl ?_
                refine wp_eq (ih2 (i + 1) ((4, ((i : Nat) : Int))) ((0, ((j : Nat) : Int))) ?_ ?_ ?_) (by first | rfl | (simp; done) | (simp; omega)) (by rfl) (by rfl)
                · omega
                · omega
                · intro k hk
                  by_cases q : k = i
                  · subst q; intro hq; first | (have := hq.1; omega) | (have := hq.2 j (by omega); omega)
                  · exact hN k (by omega)
              · refine wp_n 2 (pc' := 73) (L' := [(2, 47), (0, ((i : Nat) : Int)), (4, ((i : Nat) : Int)), (0, ((j : Nat) : Int))]) (st' := [(0, (g 47 10))]) (g' := g) rfl ?_
                refine wp_eq (L' := [(2, 47), (0, ((i : Nat) : Int)), (4, ((i : Nat) : Int)), (0, ((j : Nat) : Int))]) (st' := [(0, ((p : Nat) : Int))]) (g' := g) ?_ (by rfl) (by rw [h1]) (by rfl)
                refine wp_n 4 (pc' := 79) (L' := [(2, 47), (0, ((i : Nat) : Int)), (4, ((i : Nat) : Int)), (0, ((j : Nat) : Int))]) (st' := [(0, (g 47 8)), (0, (((p : Nat) : Int) + ((j : Nat) : Int)))]) (g' := g) rfl ?_
                refine wp_eq (L' := [(2, 47), (0, ((i : Nat) : Int)), (4, ((i : Nat) : Int)), (0, ((j : Nat) : Int))]) (st' := [(0, ((e : Nat) : Int)), (0, (((p : Nat) : Int) + ((j : Nat) : Int)))]) (g' := g) ?_ (by rfl) (by rw [h2]) (by rfl)
                refine wp_ic_ne rfl (fun c10 => ?_) (fun c10 => ?_)
                · refine wp_n 2 (pc' := 2) (L' := [(2, 47), (0, (((i : Nat) : Int) + 1)), (4, ((i : Nat) : Int)), (0, ((j : Nat) : Int))]) (st' := []) (g' := g) rfl ?_
                  refine wp_eq (ih2 (i + 1) ((4, ((i : Nat) : Int))) ((0, ((j : Nat) : Int))) ?_ ?_ ?_) (by first | rfl | (simp; done) | (simp; omega)) (by rfl) (by rfl)
                  · omega
                  · omega
                  · intro k hk
                    by_cases q : k = i
                    · subst q; intro hq; first | (have := hq.1; omega) | (have := hq.2 j (by omega); omega)
                    · exact hN k (by omega)
                · refine wp_n 1 (pc' := 83) (L' := [(2, 47), (0, ((i : Nat) : Int)), (4, ((i : Nat) : Int)), (0, ((j : Nat) : Int))]) (st' := [(0, ((i : Nat) : Int))]) (g' := g) rfl ?_
                  exact wp_ret rfl rfl rfl (by rw [wdf_yes (i := i) (by omega) hN ⟨by omega, fun q hq => hJ q (by omega)⟩])
            · have hsb := sb_byt2 i (by omega) j (by omega)
              refine wp_n 2 (pc' := 27) (L' := [(2, 47), (0, ((i : Nat) : Int)), (4, ((i : Nat) : Int)), (0, ((j : Nat) : Int))]) (st' := [(0, (g 47 10))]) (g' := g) rfl ?_
              refine wp_eq (L' := [(2, 47), (0, ((i : Nat) : Int)), (4, ((i : Nat) : Int)), (0, ((j : Nat) : Int))]) (st' := [(0, ((p : Nat) : Int))]) (g' := g) ?_ (by rfl) (by rw [h1]) (by rfl)
              refine wp_n 4 (pc' := 33) (L' := [(2, 47), (0, ((i : Nat) : Int)), (4, ((i : Nat) : Int)), (0, ((j : Nat) : Int))]) (st' := [(0, (g 47 8)), (0, (((p : Nat) : Int) + ((j : Nat) : Int)))]) (g' := g) rfl ?_
              refine wp_eq (L' := [(2, 47), (0, ((i : Nat) : Int)), (4, ((i : Nat) : Int)), (0, ((j : Nat) : Int))]) (st' := [(0, ((e : Nat) : Int)), (0, (((p : Nat) : Int) + ((j : Nat) : Int)))]) (g' := g) ?_ (by rfl) (by rw [h2]) (by rfl)
              refine wp_ic_ge rfl (fun c11 => ?_) (fun c11 => ?_)
              · refine wp_n 2 (pc' := 63) (L' := [(2, 47), (0, ((i : Nat) : Int)), (4, ((i : Nat) : Int)), (0, ((j : Nat) : Int))]) (st' := [(4, ((i : Nat) : Int)), (0, ((j : Nat) : Int))]) (g' := g) rfl ?_
                refine wp_cv (as := [(4, ((i : Nat) : Int))]) (rest := [(0, ((j : Nat) : Int))]) rfl rfl rfl (Nat.le_of_ble_eq_true rfl) (rcv_s (i := i) (by omega)) (e_slen (i := i) (by omega)) (by decide) (fun r12 h13 => ?_)
                obtain rfl := h13
                refine wp_eq (L' := [(2, 47), (0, ((i : Nat) : Int)), (4, ((i : Nat) : Int)), (0, ((j : Nat) : Int))]) (st' := [(0, (((am_slen.getD i 0) : Nat) : Int)), (0, ((j : Nat) : Int))]) (g' := g) ?_
                refine wp_ic_ne rfl (fun c14 => ?_) (fun c14 => ?_)
                · refine wp_n 2 (pc' := 2) (L' := [(2, 47), (0, (((i : Nat) : Int) + 1)), (4, ((i : Nat) : Int)), (0, ((j : Nat) : Int))]) (st' := []) (g' := g) rfl ?_
                  refine wp_eq (ih2 (i + 1) ((4, ((i : Nat) : Int))) ((0, ((j : Nat) : Int))) ?_ ?_ ?_) (by first | rfl | (simp; done) | (simp; omega)) (by rfl) (by rfl)
                  · omega
                  · omega
                  · intro k hk
                    by_cases q : k = i
                    · subst q; intro hq; first | (have := hq.1; omega) | (have := hq.2 j (by omega); omega)
                    · exact hN k (by omega)
                · refine wp_n 2 (pc' := 73) (L' := [(2, 47), (0, ((i : Nat) : Int)), (4, ((i : Nat) : Int)), (0, ((j : Nat) : Int))]) (st' := [(0, (g 47 10))]) (g' := g) rfl ?_
                  refine wp_eq (L' := [(2, 47), (0, ((i : Nat) : Int)), (4, ((i : Nat) : Int)), (0, ((j : Nat) : Int))]) (st' := [(0, ((p : Nat) : Int))]) (g' := g) ?_ (by rfl) (by rw [h1]) (by rfl)
                  refine wp_n 4 (pc' := 79) (L' := [(2, 47), (0, ((i : Nat) : Int)), (4, ((i : Nat) : Int)), (0, ((j : Nat) : Int))]) (st' := [(0, (g 47 8)), (0, (((p : Nat) : Int) + ((j : Nat) : Int)))]) (g' := g) rfl ?_
                  refine wp_eq (L' := [(2, 47), (0, ((i : Nat) : Int)), (4, ((i : Nat) : Int)), (0, ((j : Nat) : Int))]) (st' := [(0, ((e : Nat) : Int)), (0, (((p : Nat) : Int) + ((j : Nat) : Int)))]) (g' := g) ?_ (by rfl) (by rw [h2]) (by rfl)
                  refine wp_ic_ne rfl (fun c15 => ?_) (fun c15 => ?_)
                  · refine wp_n 2 (pc' := 2) (L' := [(2, 47), (0, (((i : Nat) : Int) + 1)), (4, ((i : Nat) : Int)), (0, ((j : Nat) : Int))]) (st' := []) (g' := g) rfl ?_
                    refine wp_eq (ih2 (i + 1) ((4, ((i : Nat) : Int))) ((0, ((j : Nat) : Int))) ?_ ?_ ?_) (by first | rfl | (simp; done) | (simp; omega)) (by rfl) (by rfl)
                    · omega
                    · omega
                    · intro k hk
                      by_cases q : k = i
                      · subst q; intro hq; first | (have := hq.1; omega) | (have := hq.2 j (by omega); omega)
                      · exact hN k (by omega)
                  · refine wp_n 1 (pc' := 83) (L' := [(2, 47), (0, ((i : Nat) : Int)), (4, ((i : Nat) : Int)), (0, ((j : Nat) : Int))]) (st' := [(0, ((i : Nat) : Int))]) (g' := g) rfl ?_
                    exact wp_ret rfl rfl rfl (by rw [wdf_yes (i := i) (by omega) hN ⟨by omega, fun q hq => hJ q (by omega)⟩])
              · have htb := hTb (p + j) (by omega)
                refine wp_n 4 (pc' := 44) (L' := [(2, 47), (0, ((i : Nat) : Int)), (4, ((i : Nat) : Int)), (0, ((j : Nat) : Int))]) (st' := [(0, (g 47 10)), (2, 48)]) (g' := g) rfl ?_
                refine wp_eq (L' := [(2, 47), (0, ((i : Nat) : Int)), (4, ((i : Nat) : Int)), (0, ((j : Nat) : Int))]) (st' := [(0, ((p : Nat) : Int)), (2, 48)]) (g' := g) ?_ (by rfl) (by rw [h1]) (by rfl)
                refine wp_n 2 (pc' := 46) (L' := [(2, 47), (0, ((i : Nat) : Int)), (4, ((i : Nat) : Int)), (0, ((j : Nat) : Int))]) (st' := [(0, (((p : Nat) : Int) + ((j : Nat) : Int))), (2, 48)]) (g' := g) rfl ?_
                refine wp_iald (k := 48) ((p + j)) rfl rfl (by omega) (by omega) (by decide) ?_
                refine wp_eq (L' := [(2, 47), (0, ((i : Nat) : Int)), (4, ((i : Nat) : Int)), (0, ((j : Nat) : Int))]) (st' := [(0, (T (p + j)))]) (g' := g) ?_ (by rfl) (by rw [hT]) (by rfl)
                refine wp_n 2 (pc' := 49) (L' := [(2, 47), (0, ((i : Nat) : Int)), (4, ((i : Nat) : Int)), (0, ((j : Nat) : Int))]) (st' := [(0, ((j : Nat) : Int)), (4, ((i : Nat) : Int)), (0, (T (p + j)))]) (g' := g) rfl ?_
                refine wp_cv (as := [(4, ((i : Nat) : Int)), (0, ((j : Nat) : Int))]) (rest := [(0, (T (p + j)))]) rfl rfl rfl (Nat.le_of_ble_eq_true rfl) (rcv_s (i := i) (by omega)) (e_schr (i := i) (j := j) (by omega) (by omega)) (by decide) (fun r16 h17 => ?_)
                obtain rfl := h17
                refine wp_eq (L' := [(2, 47), (0, ((i : Nat) : Int)), (4, ((i : Nat) : Int)), (0, ((j : Nat) : Int))]) (st' := [(0, ((((am_sbyt.getD i []).getD j 0) : Nat) : Int)), (0, (T (p + j)))]) (g' := g) ?_
                refine wp_ic_ne rfl (fun c18 => ?_) (fun c18 => ?_)
                · refine wp_n 2 (pc' := 63) (L' := [(2, 47), (0, ((i : Nat) : Int)), (4, ((i : Nat) : Int)), (0, ((j : Nat) : Int))]) (st' := [(4, ((i : Nat) : Int)), (0, ((j : Nat) : Int))]) (g' := g) rfl ?_
                  refine wp_cv (as := [(4, ((i : Nat) : Int))]) (rest := [(0, ((j : Nat) : Int))]) rfl rfl rfl (Nat.le_of_ble_eq_true rfl) (rcv_s (i := i) (by omega)) (e_slen (i := i) (by omega)) (by decide) (fun r19 h20 => ?_)
                  obtain rfl := h20
                  refine wp_eq (L' := [(2, 47), (0, ((i : Nat) : Int)), (4, ((i : Nat) : Int)), (0, ((j : Nat) : Int))]) (st' := [(0, (((am_slen.getD i 0) : Nat) : Int)), (0, ((j : Nat) : Int))]) (g' := g) ?_
                  refine wp_ic_ne rfl (fun c21 => ?_) (fun c21 => ?_)
                  · refine wp_n 2 (pc' := 2) (L' := [(2, 47), (0, (((i : Nat) : Int) + 1)), (4, ((i : Nat) : Int)), (0, ((j : Nat) : Int))]) (st' := []) (g' := g) rfl ?_
                    refine wp_eq (ih2 (i + 1) ((4, ((i : Nat) : Int))) ((0, ((j : Nat) : Int))) ?_ ?_ ?_) (by first | rfl | (simp; done) | (simp; omega)) (by rfl) (by rfl)
                    · omega
                    · omega
                    · intro k hk
                      by_cases q : k = i
                      · subst q; intro hq; first | (have := hq.1; omega) | (have := hq.2 j (by omega); omega)
                      · exact hN k (by omega)
                  · refine wp_n 2 (pc' := 73) (L' := [(2, 47), (0, ((i : Nat) : Int)), (4, ((i : Nat) : Int)), (0, ((j : Nat) : Int))]) (st' := [(0, (g 47 10))]) (g' := g) rfl ?_
                    refine wp_eq (L' := [(2, 47), (0, ((i : Nat) : Int)), (4, ((i : Nat) : Int)), (0, ((j : Nat) : Int))]) (st' := [(0, ((p : Nat) : Int))]) (g' := g) ?_ (by rfl) (by rw [h1]) (by rfl)
                    refine wp_n 4 (pc' := 79) (L' := [(2, 47), (0, ((i : Nat) : Int)), (4, ((i : Nat) : Int)), (0, ((j : Nat) : Int))]) (st' := [(0, (g 47 8)), (0, (((p : Nat) : Int) + ((j : Nat) : Int)))]) (g' := g) rfl ?_
                    refine wp_eq (L' := [(2, 47), (0, ((i : Nat) : Int)), (4, ((i : Nat) : Int)), (0, ((j : Nat) : Int))]) (st' := [(0, ((e : Nat) : Int)), (0, (((p : Nat) : Int) + ((j : Nat) : Int)))]) (g' := g) ?_ (by rfl) (by rw [h2]) (by rfl)
                    refine wp_ic_ne rfl (fun c22 => ?_) (fun c22 => ?_)
                    · refine wp_n 2 (pc' := 2) (L' := [(2, 47), (0, (((i : Nat) : Int) + 1)), (4, ((i : Nat) : Int)), (0, ((j : Nat) : Int))]) (st' := []) (g' := g) rfl ?_
                      refine wp_eq (ih2 (i + 1) ((4, ((i : Nat) : Int))) ((0, ((j : Nat) : Int))) ?_ ?_ ?_) (by first | rfl | (simp; done) | (simp; omega)) (by rfl) (by rfl)
                      · omega
                      · omega
                      · intro k hk
                        by_cases q : k = i
                        · subst q; intro hq; first | (have := hq.1; omega) | (have := hq.2 j (by omega); omega)
                        · exact hN k (by omega)
                    · refine wp_n 1 (pc' := 83) (L' := [(2, 47), (0, ((i : Nat) : Int)), (4, ((i : Nat) : Int)), (0, ((j : Nat) : Int))]) (st' := [(0, ((i : Nat) : Int))]) (g' := g) rfl ?_
                      exact wp_ret rfl rfl rfl (by rw [wdf_yes (i := i) (by omega) hN ⟨by omega, fun q hq => hJ q (by omega)⟩])
                · refine wp_n 2 (pc' := 15) (L' := [(2, 47), (0, ((i : Nat) : Int)), (4, ((i : Nat) : Int)), (0, (((j : Nat) : Int) + 1))]) (st' := []) (g' := g) rfl ?_
                  refine wp_eq (ih15 (j + 1) ?_ ?_ ?_ ?_) (by first | rfl | (simp; done) | (simp; omega)) (by rfl) (by rfl)
                  · omega
                  · omega
                  · omega
                  · intro q hq
                    by_cases r : q = j
                    · subst r; omega
                    · exact hJ q (by omega)
        refine wp_eq (L15 (_ + 1) (0) (Nat.lt_succ_self _) ?_ ?_ ?_) (by first | rfl | (simp; done) | (simp; omega)) (by rfl) (by rfl)
        · exact Nat.zero_le _
        · omega
        · exact fun q hq => absurd hq (Nat.not_lt_zero _)
  refine wp_eq (L2 (_ + 1) (0) ((9, 0)) ((9, 0)) (Nat.lt_succ_self _) ?_ ?_) (by first | rfl | (simp; done) | (simp; omega)) (by rfl) (by rfl)
  · exact Nat.zero_le _
  · exact fun k hk => absurd hk (Nat.not_lt_zero _)
/-- the reader stands at token p -/
def TkC (T : Nat → Int) (L : Nat) (h : am_G) (p : Nat) : Prop := h 47 10 = (p : Int) ∧ h 47 9 = tK T L p ∧ h 47 8 = ((tE T L p : Nat) : Int) ∧ ((tK T L p = -2 ∨ tK T L p = -3) → h 47 11 = tV T L p)
/-- only the token has changed -/
def FrTk (g h : am_G) : Prop := ∀ c j, (c ≠ 47 ∨ j < 8) → h c j = g c j
theorem FrTk.up {g h : am_G} {i : Nat} {x : Int} (h1 : FrTk g h) (hi : 8 ≤ i) : FrTk g (am_up h 47 i x) := fun c j q => (up_no (by omega)).trans (h1 c j q)
theorem FrTk.rfl {g : am_G} : FrTk g g := fun _ _ _ => Eq.refl _
theorem RdT.tk {T : Nat → Int} {L : Nat} {g h : am_G} (hR : RdT T L g) (hF : FrTk g h) : RdT T L h := ⟨(funext fun j => hF 48 j (by omega)).trans hR.1, (hF 47 1 (by omega)).trans hR.2.1, hR.2.2⟩
set_option maxHeartbeats 400000 in
set_option maxRecDepth 20000 in
theorem e_advance {sn : Nat} {sx : Nat → Int} {g : am_G} {T : Nat → Int} {L a : Nat} (hR : RdT T L g) (h8 : g 47 8 = (a : Int)) (ha : a ≤ L) : Ev sn sx 9 71 [(2, 47)] (SH 7) g (fun r => ∃ g', r = (none, SH 7, g') ∧ TkC T L g' (sk T L a) ∧ FrTk g g') := by
  obtain ⟨hT, hL, hL3, hTb⟩ := id hR
  have hski := sk_in (T := T) (L - a) a rfl ha
  refine ev_of (K := 8) T71 (by decide) rfl rfl (Nat.le_of_ble_eq_true rfl) ?_
  refine wp_eq (L' := [(2, 47)]) (st' := []) (g' := g) ?_
  have L0 : ∀ (lf : Nat) (p : Nat) (h : am_G), L - p < lf → (p ≤ L) → (h 47 8 = (p : Int)) → (sk T L p = sk T L a) → (FrTk g h) → Wp sn sx 8 T71 0 [(2, 47)] [] (SH 7) h (fun r => ∃ g', r = (none, SH 7, g') ∧ TkC T L g' (sk T L a) ∧ FrTk g g') := by
    intro lf
    induction lf with
    | zero => intro p h hlf; exact absurd hlf (Nat.not_lt_zero _)
    | succ lf ih0 =>
      intro p h hlf hp h8p hs hFh
      refine wp_n 2 (pc' := 4) (L' := [(2, 47)]) (st' := [(0, (h 47 8))]) (g' := h) rfl ?_
      refine wp_eq (L' := [(2, 47)]) (st' := [(0, ((p : Nat) : Int))]) (g' := h) ?_ (by rfl) (by rw [h8p]) (by rfl)
      have J52 : (p = sk T L a) → Wp sn sx 8 T71 52 [(2, 47)] [] (SH 7) h (fun r => ∃ g', r = (none, SH 7, g') ∧ TkC T L g' (sk T L a) ∧ FrTk g g') := by
        intro  hsp
        refine wp_n 3 (pc' := 57) (L' := [(2, 47)]) (st' := [(0, (h 47 8)), (2, 47)]) (g' := h) rfl ?_
        refine wp_eq (L' := [(2, 47)]) (st' := [(0, ((p : Nat) : Int)), (2, 47)]) (g' := h) ?_ (by rfl) (by rw [h8p]) (by rfl)
        refine wp_n 3 (pc' := 64) (L' := [(2, 47)]) (st' := [(0, (h 47 8))]) (g' := (am_up h 47 10 ((p : Nat) : Int))) rfl ?_
        refine wp_eq (L' := [(2, 47)]) (st' := [(0, ((p : Nat) : Int))]) (g' := (am_up h 47 10 ((p : Nat) : Int))) ?_ (by rfl) (by first | rw [h8p] | rw [up_nj (by decide), h8p]) (by rfl)
        refine wp_n 2 (pc' := 68) (L' := [(2, 47)]) (st' := [(0, (h 47 1)), (0, ((p : Nat) : Int))]) (g' := (am_up h 47 10 ((p : Nat) : Int))) rfl ?_
        refine wp_eq (L' := [(2, 47)]) (st' := [(0, ((L : Nat) : Int)), (0, ((p : Nat) : Int))]) (g' := (am_up h 47 10 ((p : Nat) : Int))) ?_ (by rfl) (by first | rw [hFh 47 1 (by omega), hL] | rw [up_nj (by decide), hFh 47 1 (by omega), hL]) (by rfl)
        refine wp_ic_lt rfl (fun c1 => ?_) (fun c1 => ?_)
        · have htp := hTb p (by omega)
          refine wp_n 4 (pc' := 87) (L' := [(2, 47)]) (st' := [(0, (h 47 8)), (2, 48)]) (g' := (am_up h 47 10 ((p : Nat) : Int))) rfl ?_
          refine wp_eq (L' := [(2, 47)]) (st' := [(0, ((p : Nat) : Int)), (2, 48)]) (g' := (am_up h 47 10 ((p : Nat) : Int))) ?_ (by rfl) (by first | rw [h8p] | rw [up_nj (by decide), h8p]) (by rfl)
          refine wp_iald (k := 48) (p) rfl rfl (by omega) (by omega) (by decide) ?_
          refine wp_eq (L' := [(2, 47)]) (st' := [(0, (T p))]) (g' := (am_up h 47 10 ((p : Nat) : Int))) ?_ (by rfl) (by rw [up_ne (by decide), hFh 48 p (by omega), hT]) (by rfl)
          refine wp_cs (as := [(0, (T p))]) (rest := []) rfl (by decide) rfl (Nat.le_of_ble_eq_true rfl) (e_isLetter (by omega)) (by decide) (fun r2 h3 => ?_)
          rcases h3 with ⟨rfl, p88⟩ | ⟨rfl, p88⟩
          · refine wp_eq (L' := [(2, 47)]) (st' := [(0, 1)]) (g' := (am_up h 47 10 ((p : Nat) : Int))) ?_
            refine wp_n 1 (pc' := 94) (L' := [(2, 47)]) (st' := []) (g' := (am_up h 47 10 ((p : Nat) : Int))) rfl ?_
            have L94 : ∀ (lf : Nat) (q : Nat) (k : am_G), L - q < lf → (q ≤ L) → (p ≤ q) → (k 47 8 = (q : Int)) → (k 47 10 = (p : Int)) → (ln T L q = ln T L p) → (FrTk g k) → Wp sn sx 8 T71 94 [(2, 47)] [] (SH 7) k (fun r => ∃ g', r = (none, SH 7, g') ∧ TkC T L g' (sk T L a) ∧ FrTk g g') := by
              intro lf
              induction lf with
              | zero => intro q k hlf; exact absurd hlf (Nat.not_lt_zero _)
              | succ lf ih94 =>
                intro q k hlf hq hpq h8k h10k hlq hFk
                refine wp_n 2 (pc' := 98) (L' := [(2, 47)]) (st' := [(0, (k 47 8))]) (g' := k) rfl ?_
                refine wp_eq (L' := [(2, 47)]) (st' := [(0, ((q : Nat) : Int))]) (g' := k) ?_ (by rfl) (by rw [h8k]) (by rfl)
                refine wp_n 2 (pc' := 102) (L' := [(2, 47)]) (st' := [(0, (k 47 1)), (0, ((q : Nat) : Int))]) (g' := k) rfl ?_
                refine wp_eq (L' := [(2, 47)]) (st' := [(0, ((L : Nat) : Int)), (0, ((q : Nat) : Int))]) (g' := k) ?_ (by rfl) (by rw [hFk 47 1 (by omega), hL]) (by rfl)
                refine wp_ic_ge rfl (fun c4 => ?_) (fun c4 => ?_)
                · have hqe : q = ln T L p := by rw [← hlq]; exact (ln_no (Or.inl (by omega))).symm
                  refine wp_n 5 (pc' := 141) (L' := [(2, 47)]) (st' := [(2, 47), (2, 47)]) (g' := (am_up k 47 9 (-2))) rfl ?_
                  refine wp_cv (as := [(2, 47)]) (rest := [(2, 47)]) rfl rfl rfl (Nat.le_of_ble_eq_true rfl) rfl (e_wordAt (T := T) (L := L) (p := p) (e := q) (hR.tk (hFk.up (i := 9) (x := -2) (by decide))) ((up_nj (by decide)).trans h10k) ((up_nj (by decide)).trans h8k) ⟨by omega, hq⟩) (by decide) (fun r5 h6 => ?_)
                  obtain rfl := h6
                  refine wp_eq (L' := [(2, 47)]) (st' := [(0, (wdf T p q 17)), (2, 47)]) (g' := (am_up k 47 9 (-2))) ?_
                  refine wp_n 2 (pc' := 291) (L' := [(2, 47)]) (st' := []) (g' := (am_up (am_up k 47 9 (-2)) 47 11 (wdf T p q 17))) rfl ?_
                  exact wp_ret rfl rfl rfl ⟨_, rfl, by rw [← hsp]; exact ⟨by rw [up_nj (by decide), up_nj (by decide)]; exact h10k, by rw [up_nj (by decide), up_eq, tK, if_neg (by omega), if_pos p88], by rw [up_nj (by decide), up_nj (by decide), h8k, tE, if_neg (by omega), if_pos p88, hqe], fun _ => by rw [up_eq, tV, if_pos p88, hqe]⟩, (hFk.up (by decide)).up (by decide)⟩
                · have htq := hTb q (by omega)
                  refine wp_n 4 (pc' := 113) (L' := [(2, 47)]) (st' := [(0, (k 47 8)), (2, 48)]) (g' := k) rfl ?_
                  refine wp_eq (L' := [(2, 47)]) (st' := [(0, ((q : Nat) : Int)), (2, 48)]) (g' := k) ?_ (by rfl) (by rw [h8k]) (by rfl)
                  refine wp_iald (k := 48) (q) rfl rfl (by omega) (by omega) (by decide) ?_
                  refine wp_eq (L' := [(2, 47)]) (st' := [(0, (T q))]) (g' := k) ?_ (by rfl) (by rw [hFk 48 q (by omega), hT]) (by rfl)
                  refine wp_cs (as := [(0, (T q))]) (rest := []) rfl (by decide) rfl (Nat.le_of_ble_eq_true rfl) (e_isLetter (by omega)) (by decide) (fun r7 h8 => ?_)
                  rcases h8 with ⟨rfl, p114⟩ | ⟨rfl, p114⟩
                  · refine wp_eq (L' := [(2, 47)]) (st' := [(0, 1)]) (g' := k) ?_
                    refine wp_n 4 (pc' := 125) (L' := [(2, 47)]) (st' := [(0, (k 47 8)), (2, 47)]) (g' := k) rfl ?_
                    refine wp_eq (L' := [(2, 47)]) (st' := [(0, ((q : Nat) : Int)), (2, 47)]) (g' := k) ?_ (by rfl) (by rw [h8k]) (by rfl)
                    refine wp_n 4 (pc' := 94) (L' := [(2, 47)]) (st' := []) (g' := (am_up k 47 8 (((q : Nat) : Int) + 1))) rfl ?_
                    refine wp_eq (ih94 (q + 1) ((am_up k 47 8 (((q : Nat) : Int) + 1))) ?_ ?_ ?_ ?_ ?_ ?_ ?_) (by first | rfl | (simp; done) | (simp; omega)) (by rfl) (by rfl)
                    · omega
                    · omega
                    · omega
                    · exact up_eq
                    · exact (up_nj (by decide)).trans h10k
                    · rw [← ln_go (by omega) p114]; exact hlq
                    · exact hFk.up (by decide)
                  · have hqe : q = ln T L p := by rw [← hlq]; exact (ln_no (Or.inr p114)).symm
                    refine wp_eq (L' := [(2, 47)]) (st' := [(0, 0)]) (g' := k) ?_
                    refine wp_n 6 (pc' := 141) (L' := [(2, 47)]) (st' := [(2, 47), (2, 47)]) (g' := (am_up k 47 9 (-2))) rfl ?_
                    refine wp_cv (as := [(2, 47)]) (rest := [(2, 47)]) rfl rfl rfl (Nat.le_of_ble_eq_true rfl) rfl (e_wordAt (T := T) (L := L) (p := p) (e := q) (hR.tk (hFk.up (i := 9) (x := -2) (by decide))) ((up_nj (by decide)).trans h10k) ((up_nj (by decide)).trans h8k) ⟨by omega, hq⟩) (by decide) (fun r9 h10 => ?_)
                    obtain rfl := h10
                    refine wp_eq (L' := [(2, 47)]) (st' := [(0, (wdf T p q 17)), (2, 47)]) (g' := (am_up k 47 9 (-2))) ?_
                    refine wp_n 2 (pc' := 291) (L' := [(2, 47)]) (st' := []) (g' := (am_up (am_up k 47 9 (-2)) 47 11 (wdf T p q 17))) rfl ?_
                    exact wp_ret rfl rfl rfl ⟨_, rfl, by rw [← hsp]; exact ⟨by rw [up_nj (by decide), up_nj (by decide)]; exact h10k, by rw [up_nj (by decide), up_eq, tK, if_neg (by omega), if_pos p88], by rw [up_nj (by decide), up_nj (by decide), h8k, tE, if_neg (by omega), if_pos p88, hqe], fun _ => by rw [up_eq, tV, if_pos p88, hqe]⟩, (hFk.up (by decide)).up (by decide)⟩
            refine wp_eq (L94 (_ + 1) (p) ((am_up h 47 10 ((p : Nat) : Int))) (Nat.lt_succ_self _) ?_ ?_ ?_ ?_ ?_ ?_) (by first | rfl | (simp; done) | (simp; omega)) (by rfl) (by rfl)
            · exact hp
            · exact Nat.le_refl _
            · exact (up_nj (by decide)).trans h8p
            · exact up_eq
            · rfl
            · exact hFh.up (by decide)
          · refine wp_eq (L' := [(2, 47)]) (st' := [(0, 0)]) (g' := (am_up h 47 10 ((p : Nat) : Int))) ?_
            refine wp_n 5 (pc' := 158) (L' := [(2, 47)]) (st' := [(0, (h 47 8)), (2, 48)]) (g' := (am_up h 47 10 ((p : Nat) : Int))) rfl ?_
            refine wp_eq (L' := [(2, 47)]) (st' := [(0, ((p : Nat) : Int)), (2, 48)]) (g' := (am_up h 47 10 ((p : Nat) : Int))) ?_ (by rfl) (by first | rw [h8p] | rw [up_nj (by decide), h8p]) (by rfl)
            refine wp_iald (k := 48) (p) rfl rfl (by omega) (by omega) (by decide) ?_
            refine wp_eq (L' := [(2, 47)]) (st' := [(0, (T p))]) (g' := (am_up h 47 10 ((p : Nat) : Int))) ?_ (by rfl) (by rw [up_ne (by decide), hFh 48 p (by omega), hT]) (by rfl)
            refine wp_cs (as := [(0, (T p))]) (rest := []) rfl (by decide) rfl (Nat.le_of_ble_eq_true rfl) (e_isDigit (by omega)) (by decide) (fun r11 h12 => ?_)
            rcases h12 with ⟨rfl, p159⟩ | ⟨rfl, p159⟩
            · refine wp_eq (L' := [(2, 47)]) (st' := [(0, 1)]) (g' := (am_up h 47 10 ((p : Nat) : Int))) ?_
              refine wp_n 4 (pc' := 170) (L' := [(2, 47)]) (st' := []) (g' := (am_up (am_up h 47 10 ((p : Nat) : Int)) 47 11 0)) rfl ?_
              have L170 : ∀ (lf : Nat) (q : Nat) (k : am_G), L - q < lf → (q ≤ L) → (p ≤ q) → (k 47 8 = (q : Int)) → (k 47 10 = (p : Int)) → (dn T L q = dn T L p) → (FrTk g k) → (k 47 11 = nmv T p (q - p)) → (∀ j, p ≤ j → j < q → isD (T j)) → Wp sn sx 8 T71 170 [(2, 47)] [] (SH 7) k (fun r => ∃ g', r = (none, SH 7, g') ∧ TkC T L g' (sk T L a) ∧ FrTk g g') := by
                intro lf
                induction lf with
                | zero => intro q k hlf; exact absurd hlf (Nat.not_lt_zero _)
                | succ lf ih170 =>
                  intro q k hlf hq hpq h8k h10k hlq hFk hv hD
                  refine wp_n 2 (pc' := 174) (L' := [(2, 47)]) (st' := [(0, (k 47 8))]) (g' := k) rfl ?_
                  refine wp_eq (L' := [(2, 47)]) (st' := [(0, ((q : Nat) : Int))]) (g' := k) ?_ (by rfl) (by rw [h8k]) (by rfl)
                  refine wp_n 2 (pc' := 178) (L' := [(2, 47)]) (st' := [(0, (k 47 1)), (0, ((q : Nat) : Int))]) (g' := k) rfl ?_
                  refine wp_eq (L' := [(2, 47)]) (st' := [(0, ((L : Nat) : Int)), (0, ((q : Nat) : Int))]) (g' := k) ?_ (by rfl) (by rw [hFk 47 1 (by omega), hL]) (by rfl)
                  refine wp_ic_ge rfl (fun c13 => ?_) (fun c13 => ?_)
                  · have hqe : q = dn T L p := by rw [← hlq]; exact (dn_no (Or.inl (by omega))).symm
                    refine wp_n 4 (pc' := 291) (L' := [(2, 47)]) (st' := []) (g' := (am_up k 47 9 (-3))) rfl ?_
                    exact wp_ret rfl rfl rfl ⟨_, rfl, by rw [← hsp]; exact ⟨by rw [up_nj (by decide)]; exact h10k, by rw [up_eq, tK, if_neg (by omega), if_neg p88, if_pos p159], by rw [up_nj (by decide), h8k, tE, if_neg (by omega), if_neg p88, if_pos p159, hqe], fun _ => by rw [up_nj (by decide), hv, tV, if_neg p88, hqe]⟩, hFk.up (by decide)⟩
                  · have htq := hTb q (by omega)
                    have hnv := nmv_in (T := T) (a := p) (q - p) fun j hj => hD (p + j) (by omega) (by omega)
                    refine wp_n 4 (pc' := 189) (L' := [(2, 47)]) (st' := [(0, (k 47 8)), (2, 48)]) (g' := k) rfl ?_
                    refine wp_eq (L' := [(2, 47)]) (st' := [(0, ((q : Nat) : Int)), (2, 48)]) (g' := k) ?_ (by rfl) (by rw [h8k]) (by rfl)
                    refine wp_iald (k := 48) (q) rfl rfl (by omega) (by omega) (by decide) ?_
                    refine wp_eq (L' := [(2, 47)]) (st' := [(0, (T q))]) (g' := k) ?_ (by rfl) (by rw [hFk 48 q (by omega), hT]) (by rfl)
                    refine wp_cs (as := [(0, (T q))]) (rest := []) rfl (by decide) rfl (Nat.le_of_ble_eq_true rfl) (e_isDigit (by omega)) (by decide) (fun r14 h15 => ?_)
                    rcases h15 with ⟨rfl, p190⟩ | ⟨rfl, p190⟩
                    · refine wp_eq (L' := [(2, 47)]) (st' := [(0, 1)]) (g' := k) ?_
                      refine wp_n 5 (pc' := 204) (L' := [(2, 47)]) (st' := [(0, (k 47 11)), (0, 10000), (2, 47)]) (g' := k) rfl ?_
                      refine wp_eq (L' := [(2, 47)]) (st' := [(0, (nmv T p (q - p))), (0, 10000), (2, 47)]) (g' := k) ?_ (by rfl) (by rw [hv]) (by rfl)
                      refine wp_n 6 (pc' := 215) (L' := [(2, 47)]) (st' := [(0, (k 47 8)), (2, 48), (0, ((nmv T p (q - p)) * 10)), (0, 10000), (2, 47)]) (g' := k) rfl ?_
                      refine wp_eq (L' := [(2, 47)]) (st' := [(0, ((q : Nat) : Int)), (2, 48), (0, ((nmv T p (q - p)) * 10)), (0, 10000), (2, 47)]) (g' := k) ?_ (by rfl) (by rw [h8k]) (by rfl)
                      refine wp_iald (k := 48) (q) rfl rfl (by omega) (by omega) (by decide) ?_
                      refine wp_eq (L' := [(2, 47)]) (st' := [(0, (T q)), (0, ((nmv T p (q - p)) * 10)), (0, 10000), (2, 47)]) (g' := k) ?_ (by rfl) (by rw [hFk 48 q (by omega), hT]) (by rfl)
                      refine wp_n 3 (pc' := 220) (L' := [(2, 47)]) (st' := [(0, ((((nmv T p (q - p)) * 10) + (T q)) - 48)), (0, 10000), (2, 47)]) (g' := k) rfl ?_
                      refine wp_cs (as := [(0, 10000), (0, ((((nmv T p (q - p)) * 10) + (T q)) - 48))]) (rest := [(2, 47)]) rfl (by decide) rfl (Nat.le_of_ble_eq_true rfl) (e_min (by omega) (by omega)) (by decide) (fun r16 h17 => ?_)
                      obtain rfl := h17
                      refine wp_eq (L' := [(2, 47)]) (st' := [(0, (if ((((nmv T p (q - p)) * 10) + (T q)) - 48) < 10000 then ((((nmv T p (q - p)) * 10) + (T q)) - 48) else 10000)), (2, 47)]) (g' := k) ?_
                      refine wp_n 4 (pc' := 231) (L' := [(2, 47)]) (st' := [(0, (k 47 8)), (2, 47)]) (g' := (am_up k 47 11 (if ((((nmv T p (q - p)) * 10) + (T q)) - 48) < 10000 then ((((nmv T p (q - p)) * 10) + (T q)) - 48) else 10000))) rfl ?_
                      refine wp_eq (L' := [(2, 47)]) (st' := [(0, ((q : Nat) : Int)), (2, 47)]) (g' := (am_up k 47 11 (if ((((nmv T p (q - p)) * 10) + (T q)) - 48) < 10000 then ((((nmv T p (q - p)) * 10) + (T q)) - 48) else 10000))) ?_ (by rfl) (by first | rw [h8k] | rw [up_nj (by decide), h8k]) (by rfl)
                      refine wp_n 4 (pc' := 170) (L' := [(2, 47)]) (st' := []) (g' := (am_up (am_up k 47 11 (if ((((nmv T p (q - p)) * 10) + (T q)) - 48) < 10000 then ((((nmv T p (q - p)) * 10) + (T q)) - 48) else 10000)) 47 8 (((q : Nat) : Int) + 1))) rfl ?_
                      refine wp_eq (ih170 (q + 1) ((am_up (am_up k 47 11 (if ((((nmv T p (q - p)) * 10) + (T q)) - 48) < 10000 then ((((nmv T p (q - p)) * 10) + (T q)) - 48) else 10000)) 47 8 (((q : Nat) : Int) + 1))) ?_ ?_ ?_ ?_ ?_ ?_ ?_ ?_ ?_) (by first | rfl | (simp; done) | (simp; omega)) (by rfl) (by rfl)
                      · omega
                      · omega
                      · omega
                      · exact up_eq
                      · exact (up_nj (by decide)).trans ((up_nj (by decide)).trans h10k)
                      · rw [← dn_go (by omega) p190]; exact hlq
                      · exact (hFk.up (by decide)).up (by decide)
                      · rw [up_nj (by decide), up_eq, show q + 1 - p = (q - p) + 1 by omega, nmv_s, show p + (q - p) = q by omega]
                        split <;> split <;> omega
                      · intro j h1 h2
                        by_cases r : j = q
                        · subst r; exact p190
                        · exact hD j h1 (by omega)
                    · have hqe : q = dn T L p := by rw [← hlq]; exact (dn_no (Or.inr p190)).symm
                      refine wp_eq (L' := [(2, 47)]) (st' := [(0, 0)]) (g' := k) ?_
                      refine wp_n 5 (pc' := 291) (L' := [(2, 47)]) (st' := []) (g' := (am_up k 47 9 (-3))) rfl ?_
                      exact wp_ret rfl rfl rfl ⟨_, rfl, by rw [← hsp]; exact ⟨by rw [up_nj (by decide)]; exact h10k, by rw [up_eq, tK, if_neg (by omega), if_neg p88, if_pos p159], by rw [up_nj (by decide), h8k, tE, if_neg (by omega), if_neg p88, if_pos p159, hqe], fun _ => by rw [up_nj (by decide), hv, tV, if_neg p88, hqe]⟩, hFk.up (by decide)⟩
              refine wp_eq (L170 (_ + 1) (p) ((am_up (am_up h 47 10 ((p : Nat) : Int)) 47 11 0)) (Nat.lt_succ_self _) ?_ ?_ ?_ ?_ ?_ ?_ ?_ ?_) (by first | rfl | (simp; done) | (simp; omega)) (by rfl) (by rfl)
              · exact hp
              · exact Nat.le_refl _
              · exact (up_nj (by decide)).trans ((up_nj (by decide)).trans h8p)
              · exact (up_nj (by decide)).trans up_eq
              · rfl
              · exact (hFh.up (by decide)).up (by decide)
              · rw [Nat.sub_self]; exact up_eq
              · intro j h1 h2; omega
            · refine wp_eq (L' := [(2, 47)]) (st' := [(0, 0)]) (g' := (am_up h 47 10 ((p : Nat) : Int))) ?_
              refine wp_n 6 (pc' := 257) (L' := [(2, 47)]) (st' := [(0, (h 47 8)), (2, 48), (2, 47)]) (g' := (am_up h 47 10 ((p : Nat) : Int))) rfl ?_
              refine wp_eq (L' := [(2, 47)]) (st' := [(0, ((p : Nat) : Int)), (2, 48), (2, 47)]) (g' := (am_up h 47 10 ((p : Nat) : Int))) ?_ (by rfl) (by first | rw [h8p] | rw [up_nj (by decide), h8p]) (by rfl)
              refine wp_iald (k := 48) (p) rfl rfl (by omega) (by omega) (by decide) ?_
              refine wp_eq (L' := [(2, 47)]) (st' := [(0, (T p)), (2, 47)]) (g' := (am_up h 47 10 ((p : Nat) : Int))) ?_ (by rfl) (by rw [up_ne (by decide), hFh 48 p (by omega), hT]) (by rfl)
              refine wp_cs (as := [(0, (T p))]) (rest := [(2, 47)]) rfl (by decide) rfl (Nat.le_of_ble_eq_true rfl) (e_isSign (by omega)) (by decide) (fun r18 h19 => ?_)
              rcases h19 with ⟨rfl, p258⟩ | ⟨rfl, p258⟩
              · refine wp_eq (L' := [(2, 47)]) (st' := [(0, 1), (2, 47)]) (g' := (am_up h 47 10 ((p : Nat) : Int))) ?_
                refine wp_n 5 (pc' := 272) (L' := [(2, 47)]) (st' := [(0, (h 47 8)), (2, 48), (2, 47)]) (g' := (am_up h 47 10 ((p : Nat) : Int))) rfl ?_
                refine wp_eq (L' := [(2, 47)]) (st' := [(0, ((p : Nat) : Int)), (2, 48), (2, 47)]) (g' := (am_up h 47 10 ((p : Nat) : Int))) ?_ (by rfl) (by first | rw [h8p] | rw [up_nj (by decide), h8p]) (by rfl)
                refine wp_iald (k := 48) (p) rfl rfl (by omega) (by omega) (by decide) ?_
                refine wp_eq (L' := [(2, 47)]) (st' := [(0, (T p)), (2, 47)]) (g' := (am_up h 47 10 ((p : Nat) : Int))) ?_ (by rfl) (by rw [up_ne (by decide), hFh 48 p (by omega), hT]) (by rfl)
                refine wp_n 5 (pc' := 286) (L' := [(2, 47)]) (st' := [(0, (h 47 8)), (2, 47)]) (g' := (am_up (am_up h 47 10 ((p : Nat) : Int)) 47 9 (T p))) rfl ?_
                refine wp_eq (L' := [(2, 47)]) (st' := [(0, ((p : Nat) : Int)), (2, 47)]) (g' := (am_up (am_up h 47 10 ((p : Nat) : Int)) 47 9 (T p))) ?_ (by rfl) (by first | rw [h8p] | rw [up_nj (by decide), h8p] | rw [up_nj (by decide), up_nj (by decide), h8p]) (by rfl)
                refine wp_n 3 (pc' := 291) (L' := [(2, 47)]) (st' := []) (g' := (am_up (am_up (am_up h 47 10 ((p : Nat) : Int)) 47 9 (T p)) 47 8 (((p : Nat) : Int) + 1))) rfl ?_
                exact wp_ret rfl rfl rfl ⟨_, rfl, by rw [← hsp]; exact ⟨by rw [up_nj (by decide), up_nj (by decide), up_eq], by rw [up_nj (by decide), up_eq, tK, if_neg (by omega), if_neg p88, if_neg p159]; first | rw [if_pos p258] | rw [if_neg p258], by rw [up_eq, tE, if_neg (by omega), if_neg p88, if_neg p159]; rfl, fun q => by rw [tK, if_neg (by omega), if_neg p88, if_neg p159] at q; first | (rw [if_pos p258] at q; omega) | (rw [if_neg p258] at q; omega)⟩, ((hFh.up (by decide)).up (by decide)).up (by decide)⟩
              · refine wp_eq (L' := [(2, 47)]) (st' := [(0, 0), (2, 47)]) (g' := (am_up h 47 10 ((p : Nat) : Int))) ?_
                refine wp_n 6 (pc' := 286) (L' := [(2, 47)]) (st' := [(0, (h 47 8)), (2, 47)]) (g' := (am_up (am_up h 47 10 ((p : Nat) : Int)) 47 9 (-4))) rfl ?_
                refine wp_eq (L' := [(2, 47)]) (st' := [(0, ((p : Nat) : Int)), (2, 47)]) (g' := (am_up (am_up h 47 10 ((p : Nat) : Int)) 47 9 (-4))) ?_ (by rfl) (by first | rw [h8p] | rw [up_nj (by decide), h8p] | rw [up_nj (by decide), up_nj (by decide), h8p]) (by rfl)
                refine wp_n 3 (pc' := 291) (L' := [(2, 47)]) (st' := []) (g' := (am_up (am_up (am_up h 47 10 ((p : Nat) : Int)) 47 9 (-4)) 47 8 (((p : Nat) : Int) + 1))) rfl ?_
                exact wp_ret rfl rfl rfl ⟨_, rfl, by rw [← hsp]; exact ⟨by rw [up_nj (by decide), up_nj (by decide), up_eq], by rw [up_nj (by decide), up_eq, tK, if_neg (by omega), if_neg p88, if_neg p159]; first | rw [if_pos p258] | rw [if_neg p258], by rw [up_eq, tE, if_neg (by omega), if_neg p88, if_neg p159]; rfl, fun q => by rw [tK, if_neg (by omega), if_neg p88, if_neg p159] at q; first | (rw [if_pos p258] at q; omega) | (rw [if_neg p258] at q; omega)⟩, ((hFh.up (by decide)).up (by decide)).up (by decide)⟩
        · refine wp_n 4 (pc' := 291) (L' := [(2, 47)]) (st' := []) (g' := (am_up (am_up h 47 10 ((p : Nat) : Int)) 47 9 (-1))) rfl ?_
          exact wp_ret rfl rfl rfl ⟨_, rfl, by rw [← hsp]; exact ⟨by (rw [up_nj (by decide), up_eq]), by rw [up_eq, tK, if_pos (by omega)], by rw [up_nj (by decide), up_nj (by decide), h8p, tE, if_pos (by omega)], fun q => by rw [tK, if_pos (by omega)] at q; omega⟩, (hFh.up (by decide)).up (by decide)⟩
      refine wp_n 2 (pc' := 8) (L' := [(2, 47)]) (st' := [(0, (h 47 1)), (0, ((p : Nat) : Int))]) (g' := h) rfl ?_
      refine wp_eq (L' := [(2, 47)]) (st' := [(0, ((L : Nat) : Int)), (0, ((p : Nat) : Int))]) (g' := h) ?_ (by rfl) (by rw [hFh 47 1 (by omega), hL]) (by rfl)
      refine wp_ic_ge rfl (fun c20 => ?_) (fun c20 => ?_)
      · refine wp_eq (J52  ?_) (by first | rfl | (simp; done) | (simp; omega)) (by rfl) (by rfl)
        · rw [← hs]; exact (sk_no (by omega)).symm
      · have htp := hTb p (by omega)
        refine wp_n 4 (pc' := 19) (L' := [(2, 47)]) (st' := [(0, (h 47 8)), (2, 48)]) (g' := h) rfl ?_
        refine wp_eq (L' := [(2, 47)]) (st' := [(0, ((p : Nat) : Int)), (2, 48)]) (g' := h) ?_ (by rfl) (by rw [h8p]) (by rfl)
        refine wp_iald (k := 48) (p) rfl rfl (by omega) (by omega) (by decide) ?_
        refine wp_eq (L' := [(2, 47)]) (st' := [(0, (T p))]) (g' := h) ?_ (by rfl) (by rw [show h 48 p = T p by rw [hFh 48 p (by omega), hT]]) (by rfl)
        refine wp_n 1 (pc' := 22) (L' := [(2, 47)]) (st' := [(0, 32), (0, (T p))]) (g' := h) rfl ?_
        refine wp_ic_eq rfl (fun c21 => ?_) (fun c21 => ?_)
        · refine wp_n 3 (pc' := 44) (L' := [(2, 47)]) (st' := [(0, (h 47 8)), (2, 47)]) (g' := h) rfl ?_
          refine wp_eq (L' := [(2, 47)]) (st' := [(0, ((p : Nat) : Int)), (2, 47)]) (g' := h) ?_ (by rfl) (by rw [h8p]) (by rfl)
          refine wp_n 4 (pc' := 0) (L' := [(2, 47)]) (st' := []) (g' := (am_up h 47 8 (((p : Nat) : Int) + 1))) rfl ?_
          refine wp_eq (ih0 (p + 1) ((am_up h 47 8 (((p : Nat) : Int) + 1))) ?_ ?_ ?_ ?_ ?_) (by first | rfl | (simp; done) | (simp; omega)) (by rfl) (by rfl)
          · omega
          · omega
          · exact up_eq
          · rw [← sk_go (by omega) (by omega)]; exact hs
          · exact hFh.up (by decide)
        · refine wp_n 4 (pc' := 33) (L' := [(2, 47)]) (st' := [(0, (h 47 8)), (2, 48)]) (g' := h) rfl ?_
          refine wp_eq (L' := [(2, 47)]) (st' := [(0, ((p : Nat) : Int)), (2, 48)]) (g' := h) ?_ (by rfl) (by rw [h8p]) (by rfl)
          refine wp_iald (k := 48) (p) rfl rfl (by omega) (by omega) (by decide) ?_
          refine wp_eq (L' := [(2, 47)]) (st' := [(0, (T p))]) (g' := h) ?_ (by rfl) (by rw [show h 48 p = T p by rw [hFh 48 p (by omega), hT]]) (by rfl)
          refine wp_n 1 (pc' := 36) (L' := [(2, 47)]) (st' := [(0, 10), (0, (T p))]) (g' := h) rfl ?_
          refine wp_ic_ne rfl (fun c22 => ?_) (fun c22 => ?_)
          · refine wp_eq (J52  ?_) (by first | rfl | (simp; done) | (simp; omega)) (by rfl) (by rfl)
            · rw [← hs]; exact (sk_no (by omega)).symm
          · refine wp_n 3 (pc' := 44) (L' := [(2, 47)]) (st' := [(0, (h 47 8)), (2, 47)]) (g' := h) rfl ?_
            refine wp_eq (L' := [(2, 47)]) (st' := [(0, ((p : Nat) : Int)), (2, 47)]) (g' := h) ?_ (by rfl) (by rw [h8p]) (by rfl)
            refine wp_n 4 (pc' := 0) (L' := [(2, 47)]) (st' := []) (g' := (am_up h 47 8 (((p : Nat) : Int) + 1))) rfl ?_
            refine wp_eq (ih0 (p + 1) ((am_up h 47 8 (((p : Nat) : Int) + 1))) ?_ ?_ ?_ ?_ ?_) (by first | rfl | (simp; done) | (simp; omega)) (by rfl) (by rfl)
            · omega
            · omega
            · exact up_eq
            · rw [← sk_go (by omega) (by omega)]; exact hs
            · exact hFh.up (by decide)
  refine wp_eq (L0 (_ + 1) (a) (g) (Nat.lt_succ_self _) ?_ ?_ ?_ ?_) (by first | rfl | (simp; done) | (simp; omega)) (by rfl) (by rfl)
  · exact ha
  · exact h8
  · rfl
  · exact FrTk.rfl
