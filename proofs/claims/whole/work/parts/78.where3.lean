/-! WHERE: the spins at a table -/
set_option maxHeartbeats 400000 in
set_option maxRecDepth 20000 in
theorem e_spinsAt {sn : Nat} {sx : Nat → Int} {b : Nat} {g : am_G} {P e t : Nat} (hR : Rng P 0 g) (h5 : 5 ≤ P ∧ P ≤ 37) (he : e < 4) (ht : t < 3) : Ev sn sx 2 87 [(2, 56), (0, ((e : Nat) : Int)), (0, ((t : Nat) : Int))] (SH b) g (fun r => r = (some (0, ((spn (g 11) (g 12) (g 14) (e : Int) (t : Int) (g 10 4).toNat : Nat) : Int)), SH b, g)) := by
  have hn := hR.r10_6 4 rfl
  refine ev_of (K := 1) T87 (by decide) rfl rfl (Nat.le_of_ble_eq_true rfl) ?_
  refine wp_eq (L' := [(2, 56), (0, ((e : Nat) : Int)), (0, ((t : Nat) : Int)), (9, 0), (9, 0)]) (st' := []) (g' := g) ?_
  refine wp_n 4 (pc' := 5) (L' := [(2, 56), (0, ((e : Nat) : Int)), (0, ((t : Nat) : Int)), (0, 0), (0, 0)]) (st' := []) (g' := g) rfl ?_
  have L5 : ∀ (lf : Nat) (i : Nat), (g 10 4).toNat - i < lf → (i ≤ (g 10 4).toNat) → (spn (g 11) (g 12) (g 14) (e : Int) (t : Int) i ≤ i) → Wp sn sx 1 T87 5 [(2, 56), (0, ((e : Nat) : Int)), (0, ((t : Nat) : Int)), (0, (((spn (g 11) (g 12) (g 14) (e : Int) (t : Int) i) : Nat) : Int)), (0, ((i : Nat) : Int))] [] (SH b) g (fun r => r = (some (0, ((spn (g 11) (g 12) (g 14) (e : Int) (t : Int) (g 10 4).toNat : Nat) : Int)), SH b, g)) := by
    intro lf
    induction lf with
    | zero => intro i hlf; exact absurd hlf (Nat.not_lt_zero _)
    | succ lf ih5 =>
      intro i hlf hi hs
      refine wp_n 4 (pc' := 14) (L' := [(2, 56), (0, ((e : Nat) : Int)), (0, ((t : Nat) : Int)), (0, (((spn (g 11) (g 12) (g 14) (e : Int) (t : Int) i) : Nat) : Int)), (0, ((i : Nat) : Int))]) (st' := [(0, (g 10 4)), (0, ((i : Nat) : Int))]) (g' := g) rfl ?_
      refine wp_ic_ge rfl (fun c1 => ?_) (fun c1 => ?_)
      · have hk2 : i = (g 10 4).toNat := by omega
        refine wp_n 1 (pc' := 41) (L' := [(2, 56), (0, ((e : Nat) : Int)), (0, ((t : Nat) : Int)), (0, (((spn (g 11) (g 12) (g 14) (e : Int) (t : Int) i) : Nat) : Int)), (0, ((i : Nat) : Int))]) (st' := [(0, (((spn (g 11) (g 12) (g 14) (e : Int) (t : Int) i) : Nat) : Int))]) (g' := g) rfl ?_
        exact wp_ret rfl rfl rfl (by rw [hk2])
      · refine wp_n 5 (pc' := 25) (L' := [(2, 56), (0, ((e : Nat) : Int)), (0, ((t : Nat) : Int)), (0, (((spn (g 11) (g 12) (g 14) (e : Int) (t : Int) i) : Nat) : Int)), (0, ((i : Nat) : Int))]) (st' := [(0, ((t : Nat) : Int)), (0, ((e : Nat) : Int)), (0, ((i : Nat) : Int)), (2, 10)]) (g' := g) rfl ?_
        refine wp_cv (as := [(2, 10), (0, ((i : Nat) : Int)), (0, ((e : Nat) : Int)), (0, ((t : Nat) : Int))]) (rest := []) rfl rfl rfl (Nat.le_of_ble_eq_true rfl) rfl (e_fellAt (P := P) (i := i) hR h5 (by omega) (by omega) (by omega)) (by decide) (fun r2 h3 => ?_)
        rcases h3 with ⟨rfl, p25⟩ | ⟨rfl, p25⟩
        · refine wp_eq (L' := [(2, 56), (0, ((e : Nat) : Int)), (0, ((t : Nat) : Int)), (0, (((spn (g 11) (g 12) (g 14) (e : Int) (t : Int) i) : Nat) : Int)), (0, ((i : Nat) : Int))]) (st' := [(0, 1)]) (g' := g) ?_
          refine wp_n 4 (pc' := 5) (L' := [(2, 56), (0, ((e : Nat) : Int)), (0, ((t : Nat) : Int)), (0, ((((spn (g 11) (g 12) (g 14) (e : Int) (t : Int) i) : Nat) : Int) + 1)), (0, (((i : Nat) : Int) + 1))]) (st' := []) (g' := g) rfl ?_
          refine wp_eq (ih5 (i + 1) ?_ ?_ ?_) (by first | (rw [spn, if_pos p25]; rfl) | (rw [spn, if_neg p25]; rfl)) (by rfl) (by rfl)
          · omega
          · omega
          · rw [spn]; split <;> omega
        · refine wp_eq (L' := [(2, 56), (0, ((e : Nat) : Int)), (0, ((t : Nat) : Int)), (0, (((spn (g 11) (g 12) (g 14) (e : Int) (t : Int) i) : Nat) : Int)), (0, ((i : Nat) : Int))]) (st' := [(0, 0)]) (g' := g) ?_
          refine wp_n 3 (pc' := 5) (L' := [(2, 56), (0, ((e : Nat) : Int)), (0, ((t : Nat) : Int)), (0, (((spn (g 11) (g 12) (g 14) (e : Int) (t : Int) i) : Nat) : Int)), (0, (((i : Nat) : Int) + 1))]) (st' := []) (g' := g) rfl ?_
          refine wp_eq (ih5 (i + 1) ?_ ?_ ?_) (by first | (rw [spn, if_pos p25]; rfl) | (rw [spn, if_neg p25]; rfl)) (by rfl) (by rfl)
          · omega
          · omega
          · rw [spn]; split <;> omega
  refine wp_eq (L5 (_ + 1) (0) (Nat.lt_succ_self _) ?_ ?_) (by first | rfl | (simp; done) | (simp; omega)) (by rfl) (by rfl)
  · exact Nat.zero_le _
  · exact Nat.le_refl _
