/-! THE CLASS: powers, tails -/
set_option maxHeartbeats 400000 in
set_option maxRecDepth 20000 in
theorem e_raise {sn : Nat} {sx : Nat → Int} {b : Nat} {g : am_G} {k : Nat} (hk_k : IsBig b k) {n : Nat} {f : Int} (hL : BigL g k) (hn : n < 1000) (hf : 1 ≤ f ∧ f < 2147483648) (ho : f ^ n < 2147483648 ^ 40) : Ev sn sx 3 35 [(2, ((k : Nat) : Int)), (0, f), (0, ((n : Nat) : Int))] (SH b) g (fun x => ∃ g', x = (none, SH b, g') ∧ BigR g' k (f ^ n) ∧ FrB k g g') := by
  refine ev_of (K := 2) T35 (by decide) rfl rfl (Nat.le_of_ble_eq_true rfl) ?_
  refine wp_eq (L' := [(2, ((k : Nat) : Int)), (0, f), (0, ((n : Nat) : Int)), (9, 0)]) (st' := []) (g' := g) ?_
  refine wp_n 2 (pc' := 2) (L' := [(2, ((k : Nat) : Int)), (0, f), (0, ((n : Nat) : Int)), (9, 0)]) (st' := [(0, 1), (2, ((k : Nat) : Int))]) (g' := g) rfl ?_
  refine wp_cv (as := [(2, ((k : Nat) : Int)), (0, 1)]) (rest := []) rfl rfl rfl (Nat.le_of_ble_eq_true rfl) (am_rcv_of hk_k.1 (by decide)) (e_set hk_k hL (by omega)) (by decide) (fun r1 h2 => ?_)
  obtain ⟨g2, rfl, hR2, hF2⟩ := h2
  refine wp_eq (L' := [(2, ((k : Nat) : Int)), (0, f), (0, ((n : Nat) : Int)), (9, 0)]) (st' := []) (g' := g2) ?_
  refine wp_n 2 (pc' := 7) (L' := [(2, ((k : Nat) : Int)), (0, f), (0, ((n : Nat) : Int)), (0, 0)]) (st' := []) (g' := g2) rfl ?_
  have L7 : ∀ (lf : Nat) (i : Nat) (h : am_G), n - i < lf → (i ≤ n) → (BigR h k (f ^ i)) → (FrB k g h) → Wp sn sx 2 T35 7 [(2, ((k : Nat) : Int)), (0, f), (0, ((n : Nat) : Int)), (0, ((i : Nat) : Int))] [] (SH b) h (fun x => ∃ g', x = (none, SH b, g') ∧ BigR g' k (f ^ n) ∧ FrB k g g') := by
    intro lf
    induction lf with
    | zero => intro i h hlf; exact absurd hlf (Nat.not_lt_zero _)
    | succ lf ih7 =>
      intro i h hlf hi hH hF
      refine wp_n 2 (pc' := 9) (L' := [(2, ((k : Nat) : Int)), (0, f), (0, ((n : Nat) : Int)), (0, ((i : Nat) : Int))]) (st' := [(0, ((n : Nat) : Int)), (0, ((i : Nat) : Int))]) (g' := h) rfl ?_
      refine wp_ic_ge rfl (fun c3 => ?_) (fun c3 => ?_)
      · have hk2 : i = n := by omega
        exact wp_ret rfl rfl rfl ⟨_, rfl, by rw [hk2] at hH; exact hH, hF⟩
      · refine wp_n 2 (pc' := 14) (L' := [(2, ((k : Nat) : Int)), (0, f), (0, ((n : Nat) : Int)), (0, ((i : Nat) : Int))]) (st' := [(0, f), (2, ((k : Nat) : Int))]) (g' := h) rfl ?_
        refine wp_cv (as := [(2, ((k : Nat) : Int)), (0, f)]) (rest := []) rfl rfl rfl (Nat.le_of_ble_eq_true rfl) (am_rcv_of hk_k.1 (by decide)) (e_times hk_k (by assumption) (by omega) (by rw [← Int.pow_succ]; exact Int.lt_of_le_of_lt (pow_up hf.1 (show i + 1 ≤ n by omega)) ho)) (by decide) (fun r4 h5 => ?_)
        obtain ⟨g14, rfl, hR14, hF14⟩ := h5
        refine wp_eq (L' := [(2, ((k : Nat) : Int)), (0, f), (0, ((n : Nat) : Int)), (0, ((i : Nat) : Int))]) (st' := []) (g' := g14) ?_
        refine wp_n 2 (pc' := 7) (L' := [(2, ((k : Nat) : Int)), (0, f), (0, ((n : Nat) : Int)), (0, (((i : Nat) : Int) + 1))]) (st' := []) (g' := g14) rfl ?_
        refine wp_eq (ih7 (i + 1) (g14) ?_ ?_ ?_ ?_) (by first | rfl | (simp; done) | (simp; omega)) (by rfl) (by rfl)
        · omega
        · omega
        · rw [Int.pow_succ]; exact hR14
        · exact hF.trans hF14
  refine wp_eq (L7 (_ + 1) (0) (g2) (Nat.lt_succ_self _) ?_ ?_ ?_) (by first | rfl | (simp; done) | (simp; omega)) (by rfl) (by rfl)
  · exact Nat.zero_le _
  · rw [Int.pow_zero]; exact hR2
  · exact hF2
