/-! THE CLASS: addUp -/
theorem pow_lex {x y : Int} (hx : 0 ≤ x) (h : x ≤ y) (n : Nat) : x ^ n ≤ y ^ n := by
  induction n with
  | zero => rw [Int.pow_zero, Int.pow_zero]; exact Int.le_refl _
  | succ n ih =>
    rw [Int.pow_succ, Int.pow_succ]
    exact Int.mul_le_mul ih h hx (Int.pow_nonneg (by omega))
theorem pow_2001 {x : Int} {n : Nat} (hx : 0 ≤ x) (h : x ≤ 2001) (hn : n ≤ 60) : x ^ n ≤ 2001 ^ 60 := Int.le_trans (pow_lex hx h n) (pow_up (by decide) hn)
def hT (b : Int) (n : Nat) (j : Nat) : Int := cb n j * b ^ (n - j)
theorem hT_nn {b : Int} (hb : 0 ≤ b) (n j : Nat) : 0 ≤ hT b n j := Int.mul_nonneg (cb_nn n j) (Int.pow_nonneg hb)
theorem hT_le {b : Int} {n d : Nat} (hb : 0 ≤ b ∧ b ≤ 1000) (hn : n ≤ 60) (hd : d ≤ n) : hT b n (n - d) ≤ 2001 ^ 60 := by
  have e := bt_cb 1 b n d (n - d) (by omega)
  rw [Int.one_pow, Int.mul_one] at e
  unfold hT
  rw [show n - (n - d) = d by omega, ← e]
  exact Int.le_trans (bt_le (by decide) hb.1 n (n - d)) (pow_2001 (by omega) (by omega) hn)
theorem hs_2001 {a b : Int} {n d : Nat} (ha : 0 ≤ a ∧ a ≤ 1000) (hb : 0 ≤ b ∧ b ≤ 1000) (hn : n ≤ 60) (hd : d ≤ n + 1) : 0 ≤ hs (hT b n) a n d ∧ hs (hT b n) a n d ≤ 2001 ^ 60 := ⟨hs_nn (hT_nn hb.1 n) ha.1 d, Int.le_trans (hs_le ha.1 hb.1 hd) (pow_2001 (by omega) (by omega) hn)⟩
theorem hT_next {b : Int} {n d : Nat} (hd : d ≤ n) : hT b n (n - d) * (((n : Int) - (d : Int)) * b) / ((d : Int) + 1) = if d + 1 ≤ n then hT b n (n - (d + 1)) else 0 := by
  by_cases h : d = n
  · subst h
    rw [if_neg (by omega), Int.sub_self, Int.zero_mul, Int.mul_zero]
    exact Int.zero_ediv _
  · rw [if_pos (by omega)]
    obtain ⟨m, hm⟩ : ∃ m, n = m + 1 + d := ⟨n - d - 1, by omega⟩
    have e := cb_step n m
    unfold hT
    rw [show n - d = m + 1 by omega, show n - (d + 1) = m by omega, show n - (m + 1) = d by omega, show n - m = d + 1 by omega, Int.pow_succ]
    rw [show (n : Int) - m = (d : Int) + 1 by omega] at e
    rw [show (n : Int) - (d : Int) = (m : Int) + 1 by omega]
    have e2 : cb n (m + 1) * b ^ d * (((m : Int) + 1) * b) = ((d : Int) + 1) * (cb n m * (b ^ d * b)) := by
      generalize b ^ d = B
      generalize cb n (m + 1) = X at *
      generalize cb n m = Y at *
      grind
    rw [e2, Int.mul_ediv_cancel_left _ (by omega)]
theorem au_b {a X M : Int} {i k : Nat} (ha : 0 ≤ a) (hX : 0 ≤ X) (hi : i + 1 ≤ k) (hM : 0 ≤ M) (h : a ^ k * X ≤ M) : a ^ i * X * a ≤ M := by
  by_cases h0 : a = 0
  · subst h0
    rw [Int.mul_zero]
    exact hM
  · have h1 := Int.mul_le_mul_of_nonneg_right (pow_up (show 1 ≤ a by omega) hi) hX
    rw [Int.pow_succ] at h1
    have e : a ^ i * X * a = a ^ i * a * X := by rw [Int.mul_assoc, Int.mul_comm X a, ← Int.mul_assoc]
    omega
theorem cb_self : ∀ n : Nat, cb n n = 1 := by
  intro n
  induction n with
  | zero => exact cb_0 0
  | succ n ih => rw [cb_s, ih, cb_gt (Nat.lt_succ_self n)]; rfl
set_option maxHeartbeats 400000 in
set_option maxRecDepth 20000 in
theorem e_addUp {sn : Nat} {sx : Nat → Int} {b : Nat} {g : am_G} {n k : Nat} {a c : Int} (hn : n ≤ 60) (hk : k ≤ n) (ha : 0 ≤ a ∧ a ≤ 1000) (hc : 0 ≤ c ∧ c ≤ 1000) (hL1 : BigL g 104) (hL2 : BigL g 106) : Ev sn sx 3 36 [(2, 103), (0, ((n : Nat) : Int)), (0, ((k : Nat) : Int)), (0, a), (0, c)] (SH b) g (fun x => ∃ g', x = (none, SH b, g') ∧ BigR g' 104 (tl a c n k) ∧ BigL g' 106 ∧ FrC 104 106 g g') := by
  refine ev_of (K := 2) T36 (by decide) rfl rfl (Nat.le_of_ble_eq_true rfl) ?_
  refine wp_eq (L' := [(2, 103), (0, ((n : Nat) : Int)), (0, ((k : Nat) : Int)), (0, a), (0, c), (9, 0)]) (st' := []) (g' := g) ?_
  refine wp_n 3 (pc' := 5) (L' := [(2, 103), (0, ((n : Nat) : Int)), (0, ((k : Nat) : Int)), (0, a), (0, c), (9, 0)]) (st' := [(0, 0), (2, 104)]) (g' := g) rfl ?_
  refine wp_cv (as := [(2, 104), (0, 0)]) (rest := []) rfl rfl rfl (Nat.le_of_ble_eq_true rfl) rfl (e_set (k := 104) (⟨rfl, rfl⟩ : IsBig b 104) hL1 (by omega)) (by decide) (fun r1 h2 => ?_)
  obtain ⟨g5, rfl, hR5, hF5⟩ := h2
  refine wp_eq (L' := [(2, 103), (0, ((n : Nat) : Int)), (0, ((k : Nat) : Int)), (0, a), (0, c), (9, 0)]) (st' := []) (g' := g5) ?_
  refine wp_n 3 (pc' := 13) (L' := [(2, 103), (0, ((n : Nat) : Int)), (0, ((k : Nat) : Int)), (0, a), (0, c), (9, 0)]) (st' := [(0, 1), (2, 106)]) (g' := g5) rfl ?_
  refine wp_cv (as := [(2, 106), (0, 1)]) (rest := []) rfl rfl rfl (Nat.le_of_ble_eq_true rfl) rfl (e_set (k := 106) (⟨rfl, rfl⟩ : IsBig b 106) (hL2.fr hF5 (by omega)) (by omega)) (by decide) (fun r3 h4 => ?_)
  obtain ⟨g13, rfl, hR13, hF13⟩ := h4
  have hT0 : (1 : Int) = hT c n (n - 0) := by unfold hT; rw [Nat.sub_zero, Nat.sub_self, Int.pow_zero, cb_self]; rfl
  refine wp_eq (L' := [(2, 103), (0, ((n : Nat) : Int)), (0, ((k : Nat) : Int)), (0, a), (0, c), (9, 0)]) (st' := []) (g' := g13) ?_
  refine wp_n 2 (pc' := 19) (L' := [(2, 103), (0, ((n : Nat) : Int)), (0, ((k : Nat) : Int)), (0, a), (0, c), (0, ((n : Nat) : Int))]) (st' := []) (g' := g13) rfl ?_
  have L19 : ∀ (lf : Nat) (d : Nat) (h : am_G), n + 1 - d < lf → (d ≤ n + 1 - k) → (BigR h 104 (hs (hT c n) a n d)) → (BigR h 106 (if d ≤ n then hT c n (n - d) else 0)) → (FrC 104 106 g h) → Wp sn sx 2 T36 19 [(2, 103), (0, ((n : Nat) : Int)), (0, ((k : Nat) : Int)), (0, a), (0, c), (0, ((n : Int) - (d : Int)))] [] (SH b) h (fun x => ∃ g', x = (none, SH b, g') ∧ BigR g' 104 (tl a c n k) ∧ BigL g' 106 ∧ FrC 104 106 g g') := by
    intro lf
    induction lf with
    | zero => intro d h hlf; exact absurd hlf (Nat.not_lt_zero _)
    | succ lf ih19 =>
      intro d h hlf hd hS hT2 hF
      refine wp_n 2 (pc' := 22) (L' := [(2, 103), (0, ((n : Nat) : Int)), (0, ((k : Nat) : Int)), (0, a), (0, c), (0, ((n : Int) - (d : Int)))]) (st' := [(0, ((k : Nat) : Int)), (0, ((n : Int) - (d : Int)))]) (g' := h) rfl ?_
      refine wp_ic_lt rfl (fun c5 => ?_) (fun c5 => ?_)
      · have hdk : d = n + 1 - k := by omega
        have htl : a ^ k * hs (hT c n) a n (n + 1 - k) = tl a c n k := by have := hs_tl (a := a) (b := c) (n := n) (n + 1 - k) (by omega); rw [show n + 1 - (n + 1 - k) = k by omega] at this; exact this
        have hx0 := hs_2001 ha hc hn (show n + 1 - k ≤ n + 1 by omega)
        have htb : tl a c n k ≤ 2001 ^ 60 := Int.le_trans (tl_in ha.1 hc.1 (by omega)).2 (pow_2001 (by omega) (by omega) hn)
        refine wp_n 2 (pc' := 78) (L' := [(2, 103), (0, ((n : Nat) : Int)), (0, ((k : Nat) : Int)), (0, a), (0, c), (0, 0)]) (st' := []) (g' := h) rfl ?_
        have L78 : ∀ (lf : Nat) (i : Nat) (q : am_G), k - i < lf → (i ≤ k) → (BigR q 104 (a ^ i * hs (hT c n) a n (n + 1 - k))) → (BigL q 106) → (FrC 104 106 g q) → Wp sn sx 2 T36 78 [(2, 103), (0, ((n : Nat) : Int)), (0, ((k : Nat) : Int)), (0, a), (0, c), (0, ((i : Nat) : Int))] [] (SH b) q (fun x => ∃ g', x = (none, SH b, g') ∧ BigR g' 104 (tl a c n k) ∧ BigL g' 106 ∧ FrC 104 106 g g') := by
          intro lf
          induction lf with
          | zero => intro i q hlf; exact absurd hlf (Nat.not_lt_zero _)
          | succ lf ih78 =>
            intro i q hlf hi hS hL hF
            refine wp_n 2 (pc' := 81) (L' := [(2, 103), (0, ((n : Nat) : Int)), (0, ((k : Nat) : Int)), (0, a), (0, c), (0, ((i : Nat) : Int))]) (st' := [(0, ((k : Nat) : Int)), (0, ((i : Nat) : Int))]) (g' := q) rfl ?_
            refine wp_ic_ge rfl (fun c6 => ?_) (fun c6 => ?_)
            · have hk2 : i = k := by omega
              exact wp_ret rfl rfl rfl ⟨_, rfl, by rw [hk2] at hS; rw [← htl]; exact hS, hL, hF⟩
            · refine wp_n 3 (pc' := 89) (L' := [(2, 103), (0, ((n : Nat) : Int)), (0, ((k : Nat) : Int)), (0, a), (0, c), (0, ((i : Nat) : Int))]) (st' := [(0, a), (2, 104)]) (g' := q) rfl ?_
              refine wp_cv (as := [(2, 104), (0, a)]) (rest := []) rfl rfl rfl (Nat.le_of_ble_eq_true rfl) rfl (e_times (k := 104) (⟨rfl, rfl⟩ : IsBig b 104) hS (by omega) (Int.lt_of_le_of_lt (au_b (M := 2001 ^ 60) ha.1 hx0.1 (show i + 1 ≤ k by omega) (by omega) (by rw [htl]; exact htb)) (by omega))) (by decide) (fun r7 h8 => ?_)
              obtain ⟨g89, rfl, hR89, hF89⟩ := h8
              refine wp_eq (L' := [(2, 103), (0, ((n : Nat) : Int)), (0, ((k : Nat) : Int)), (0, a), (0, c), (0, ((i : Nat) : Int))]) (st' := []) (g' := g89) ?_
              refine wp_n 2 (pc' := 78) (L' := [(2, 103), (0, ((n : Nat) : Int)), (0, ((k : Nat) : Int)), (0, a), (0, c), (0, (((i : Nat) : Int) + 1))]) (st' := []) (g' := g89) rfl ?_
              refine wp_eq (ih78 (i + 1) (g89) ?_ ?_ ?_ ?_ ?_) (by first | rfl | (simp; done) | (simp; omega)) (by rfl) (by rfl)
              · omega
              · omega
              · rw [Int.pow_succ, Int.mul_assoc, Int.mul_comm a, ← Int.mul_assoc]; exact hR89
              · exact hL.fr hF89 (by omega)
              · exact fun c j n1 n2 n3 n4 => (hF89 c j n1 n2).trans (hF c j n1 n2 n3 n4)
        refine wp_eq (L78 (_ + 1) (0) (h) (Nat.lt_succ_self _) ?_ ?_ ?_ ?_) (by first | rfl | (simp; done) | (simp; omega)) (by rfl) (by rfl)
        · exact Nat.zero_le _
        · rw [Int.pow_zero, Int.one_mul, ← hdk]; exact hS
        · exact hT2.L
        · exact hF
      · have hdn : d ≤ n := by omega
        rw [if_pos hdn] at hT2
        have hx1 := hs_2001 ha hc hn (show d ≤ n + 1 by omega)
        have hx2 := hs_2001 ha hc hn (show d + 1 ≤ n + 1 by omega)
        rw [hs_s] at hx2
        have hx3 := hT_le hc hn hdn
        have hx4 := hT_nn hc.1 n (n - d)
        have hx5 := Int.mul_le_mul_of_nonneg_left ha.2 hx1.1
        have hx6 : 0 ≤ ((n : Int) - (d : Int)) * c := Int.mul_nonneg (by omega) hc.1
        have hx7 : ((n : Int) - (d : Int)) * c ≤ 60 * 1000 := Int.mul_le_mul (by omega) hc.2 hc.1 (by decide)
        have hx8 := Int.mul_le_mul_of_nonneg_left hx7 hx4
        refine wp_n 3 (pc' := 30) (L' := [(2, 103), (0, ((n : Nat) : Int)), (0, ((k : Nat) : Int)), (0, a), (0, c), (0, ((n : Int) - (d : Int)))]) (st' := [(0, a), (2, 104)]) (g' := h) rfl ?_
        refine wp_cv (as := [(2, 104), (0, a)]) (rest := []) rfl rfl rfl (Nat.le_of_ble_eq_true rfl) rfl (e_times (k := 104) (⟨rfl, rfl⟩ : IsBig b 104) hS (by omega) (by omega)) (by decide) (fun r9 h10 => ?_)
        obtain ⟨g30, rfl, hR30, hF30⟩ := h10
        refine wp_eq (L' := [(2, 103), (0, ((n : Nat) : Int)), (0, ((k : Nat) : Int)), (0, a), (0, c), (0, ((n : Int) - (d : Int)))]) (st' := []) (g' := g30) ?_
        refine wp_n 4 (pc' := 41) (L' := [(2, 103), (0, ((n : Nat) : Int)), (0, ((k : Nat) : Int)), (0, a), (0, c), (0, ((n : Int) - (d : Int)))]) (st' := [(2, 106), (2, 104)]) (g' := g30) rfl ?_
        refine wp_cv (as := [(2, 104), (2, 106)]) (rest := []) rfl rfl rfl (Nat.le_of_ble_eq_true rfl) rfl (e_plus (k := 104) (⟨rfl, rfl⟩ : IsBig b 104) (a := 106) (⟨rfl, rfl⟩ : IsBig b 106) hR30 (hT2.fr' hF30 (by omega)) (by omega) (by omega)) (by decide) (fun r11 h12 => ?_)
        obtain ⟨g41, rfl, hR41, hF41⟩ := h12
        refine wp_eq (L' := [(2, 103), (0, ((n : Nat) : Int)), (0, ((k : Nat) : Int)), (0, a), (0, c), (0, ((n : Int) - (d : Int)))]) (st' := []) (g' := g41) ?_
        refine wp_n 5 (pc' := 53) (L' := [(2, 103), (0, ((n : Nat) : Int)), (0, ((k : Nat) : Int)), (0, a), (0, c), (0, ((n : Int) - (d : Int)))]) (st' := [(0, (((n : Int) - (d : Int)) * c)), (2, 106)]) (g' := g41) rfl ?_
        refine wp_cv (as := [(2, 106), (0, (((n : Int) - (d : Int)) * c))]) (rest := []) rfl rfl rfl (Nat.le_of_ble_eq_true rfl) rfl (e_times (k := 106) (⟨rfl, rfl⟩ : IsBig b 106) ((hT2.fr' hF30 (by omega)).fr' hF41 (by omega)) (by omega) (by omega)) (by decide) (fun r13 h14 => ?_)
        obtain ⟨g53, rfl, hR53, hF53⟩ := h14
        refine wp_eq (L' := [(2, 103), (0, ((n : Nat) : Int)), (0, ((k : Nat) : Int)), (0, a), (0, c), (0, ((n : Int) - (d : Int)))]) (st' := []) (g' := g53) ?_
        refine wp_n 7 (pc' := 66) (L' := [(2, 103), (0, ((n : Nat) : Int)), (0, ((k : Nat) : Int)), (0, a), (0, c), (0, ((n : Int) - (d : Int)))]) (st' := [(0, ((((n : Nat) : Int) - ((n : Int) - (d : Int))) + 1)), (2, 106)]) (g' := g53) rfl ?_
        refine wp_cv (as := [(2, 106), (0, ((((n : Nat) : Int) - ((n : Int) - (d : Int))) + 1))]) (rest := []) rfl rfl rfl (Nat.le_of_ble_eq_true rfl) rfl (e_over (k := 106) (⟨rfl, rfl⟩ : IsBig b 106) hR53 (by omega)) (by decide) (fun r15 h16 => ?_)
        obtain ⟨g66, rfl, hR66, hF66⟩ := h16
        refine wp_eq (L' := [(2, 103), (0, ((n : Nat) : Int)), (0, ((k : Nat) : Int)), (0, a), (0, c), (0, ((n : Int) - (d : Int)))]) (st' := []) (g' := g66) ?_
        refine wp_n 2 (pc' := 19) (L' := [(2, 103), (0, ((n : Nat) : Int)), (0, ((k : Nat) : Int)), (0, a), (0, c), (0, (((n : Int) - (d : Int)) + (-1)))]) (st' := []) (g' := g66) rfl ?_
        refine wp_eq (ih19 (d + 1) (g66) ?_ ?_ ?_ ?_ ?_) (by rw [show (n : Int) - ((d + 1 : Nat) : Int) = (n : Int) - (d : Int) + -1 by omega]) (by rfl) (by rfl)
        · omega
        · omega
        · rw [hs_s]; exact (hR41.fr' hF53 (by omega)).fr' hF66 (by omega)
        · rw [← hT_next hdn]; rw [show (n : Int) - ((n : Int) - (d : Int)) + 1 = (d : Int) + 1 by omega] at hR66; exact hR66
        · exact fun c j n1 n2 n3 n4 => by rw [hF66 c j n3 n4, hF53 c j n3 n4, hF41 c j n1 n2, hF30 c j n1 n2, hF c j n1 n2 n3 n4]
  refine wp_eq (L19 (_ + 1) (0) (g13) (Nat.lt_succ_self _) ?_ ?_ ?_ ?_) (by rw [show (n : Int) - ((0 : Nat) : Int) = (n : Int) by omega]) (by rfl) (by rfl)
  · exact Nat.zero_le _
  · exact hR5.fr' hF13 (by omega)
  · rw [if_pos (Nat.zero_le _)]; exact hT0 ▸ hR13
  · exact fun c j n1 n2 n3 n4 => (hF13 c j n3 n4).trans (hF5 c j n1 n2)
