/-! THE REFERENCE: all tries, sums, tails, shares -/
theorem bt_00 (p q : Int) (k : Nat) (hk : k ≤ 0) : bt p q 0 k = 1 := by
  obtain rfl : k = 0 := by omega
  rw [bt]
set_option maxHeartbeats 400000 in
set_option maxRecDepth 20000 in
theorem m_tryAll {sn : Nat} {sx : Nat → Int} {b : Nat} {g : am_G} {t : Nat} {p q : Int} (ht : t ≤ 60) (hp : 0 ≤ p ∧ p ≤ 1000) (hq : p ≤ q ∧ q ≤ 1000) : Ev sn sx 3 213 [(2, 127), (0, ((t : Nat) : Int)), (0, p), (0, q)] (SH b) g (fun x => ∃ g', x = (none, SH b, g') ∧ BT g' 0 p (q - p) t ∧ FrR 0 62 g g') := by
  refine ev_of (K := 2) T213 (by decide) rfl rfl (Nat.le_of_ble_eq_true rfl) ?_
  refine wp_eq (L' := [(2, 127), (0, ((t : Nat) : Int)), (0, p), (0, q), (9, 0)]) (st' := []) (g' := g) ?_
  refine wp_n 3 (pc' := 3) (L' := [(2, 127), (0, ((t : Nat) : Int)), (0, p), (0, q), (9, 0)]) (st' := [(0, 1), (0, 0), (2, 127)]) (g' := g) rfl ?_
  refine wp_cv (as := [(2, 127), (0, 0), (0, 1)]) (rest := []) rfl rfl rfl (Nat.le_of_ble_eq_true rfl) rfl (m_put (r := 0) (by omega) (by omega)) (by decide) (fun r1 h2 => ?_)
  obtain ⟨g3, rfl, hR3, hF3⟩ := h2
  refine wp_eq (L' := [(2, 127), (0, ((t : Nat) : Int)), (0, p), (0, q), (9, 0)]) (st' := []) (g' := g3) ?_
  refine wp_n 2 (pc' := 9) (L' := [(2, 127), (0, ((t : Nat) : Int)), (0, p), (0, q), (0, 0)]) (st' := []) (g' := g3) rfl ?_
  have L9 : ∀ (lf : Nat) (i : Nat) (h : am_G), t - i < lf → (i ≤ t) → (BT h 0 p (q - p) i) → (FrR 0 62 g h) → Wp sn sx 2 T213 9 [(2, 127), (0, ((t : Nat) : Int)), (0, p), (0, q), (0, ((i : Nat) : Int))] [] (SH b) h (fun x => ∃ g', x = (none, SH b, g') ∧ BT g' 0 p (q - p) t ∧ FrR 0 62 g g') := by
    intro lf
    induction lf with
    | zero => intro i h hlf; exact absurd hlf (Nat.not_lt_zero _)
    | succ lf ih9 =>
      intro i h hlf hi hH hF
      refine wp_n 2 (pc' := 12) (L' := [(2, 127), (0, ((t : Nat) : Int)), (0, p), (0, q), (0, ((i : Nat) : Int))]) (st' := [(0, ((t : Nat) : Int)), (0, ((i : Nat) : Int))]) (g' := h) rfl ?_
      refine wp_ic_ge rfl (fun c3 => ?_) (fun c3 => ?_)
      · have hk2 : i = t := by omega
        exact wp_ret rfl rfl rfl ⟨_, rfl, by rw [hk2] at hH; exact hH, hF⟩
      · refine wp_n 5 (pc' := 21) (L' := [(2, 127), (0, ((t : Nat) : Int)), (0, p), (0, q), (0, ((i : Nat) : Int))]) (st' := [(0, q), (0, p), (0, ((i : Nat) : Int)), (0, 0), (2, 127)]) (g' := h) rfl ?_
        refine wp_cv (as := [(2, 127), (0, 0), (0, ((i : Nat) : Int)), (0, p), (0, q)]) (rest := []) rfl rfl rfl (Nat.le_of_ble_eq_true rfl) rfl (m_tryMore (f := 0) (t := i) (by omega) (by omega) (by omega) (by omega) hH) (by decide) (fun r4 h5 => ?_)
        obtain ⟨g21, rfl, hR21, hF21⟩ := h5
        refine wp_eq (L' := [(2, 127), (0, ((t : Nat) : Int)), (0, p), (0, q), (0, ((i : Nat) : Int))]) (st' := []) (g' := g21) ?_
        refine wp_n 2 (pc' := 9) (L' := [(2, 127), (0, ((t : Nat) : Int)), (0, p), (0, q), (0, (((i : Nat) : Int) + 1))]) (st' := []) (g' := g21) rfl ?_
        refine wp_eq (ih9 (i + 1) (g21) ?_ ?_ ?_ ?_) (by first | rfl | (simp; done) | (simp; omega)) (by rfl) (by rfl)
        · omega
        · omega
        · exact hR21
        · exact hF.trans (hF21.wide (by omega) (by omega))
  refine wp_eq (L9 (_ + 1) (0) (g3) (Nat.lt_succ_self _) ?_ ?_ ?_) (by first | rfl | (simp; done) | (simp; omega)) (by rfl) (by rfl)
  · exact Nat.zero_le _
  · exact fun k hk => by rw [bt_00 _ _ k hk, show 0 + k = 0 by omega]; exact hR3
  · exact FrR.rfl.m hF3 (by omega) (by omega)
set_option maxHeartbeats 400000 in
set_option maxRecDepth 20000 in
theorem m_sum {sn : Nat} {sx : Nat → Int} {b : Nat} {g : am_G} {r f u v t : Nat} {p q : Int} (hr : r < 130) (hf : f + t < 130) (hrf : r < f ∨ f + t < r) (hu : u ≤ v) (hv : v ≤ t + 1) (ht : t ≤ 60) (hp : 0 ≤ p) (hq : 0 ≤ q) (hpq : p + q ≤ 2001) (hB : BT g f p q t) : Ev sn sx 2 214 [(2, 127), (0, ((r : Nat) : Int)), (0, ((f : Nat) : Int)), (0, ((u : Nat) : Int)), (0, ((v : Int) - 1))] (SH b) g (fun x => ∃ g', x = (none, SH b, g') ∧ MR g' r (ps (bt p q t) v - ps (bt p q t) u) ∧ FrM r g g') := by
  refine ev_of (K := 1) T214 (by decide) rfl rfl (Nat.le_of_ble_eq_true rfl) ?_
  refine wp_eq (L' := [(2, 127), (0, ((r : Nat) : Int)), (0, ((f : Nat) : Int)), (0, ((u : Nat) : Int)), (0, ((v : Int) - 1)), (9, 0)]) (st' := []) (g' := g) ?_
  refine wp_n 3 (pc' := 3) (L' := [(2, 127), (0, ((r : Nat) : Int)), (0, ((f : Nat) : Int)), (0, ((u : Nat) : Int)), (0, ((v : Int) - 1)), (9, 0)]) (st' := [(0, 0), (0, ((r : Nat) : Int)), (2, 127)]) (g' := g) rfl ?_
  refine wp_cv (as := [(2, 127), (0, ((r : Nat) : Int)), (0, 0)]) (rest := []) rfl rfl rfl (Nat.le_of_ble_eq_true rfl) rfl (m_put (r := r) (by omega) (by omega)) (by decide) (fun r1 h2 => ?_)
  obtain ⟨g3, rfl, hR3, hF3⟩ := h2
  refine wp_eq (L' := [(2, 127), (0, ((r : Nat) : Int)), (0, ((f : Nat) : Int)), (0, ((u : Nat) : Int)), (0, ((v : Int) - 1)), (9, 0)]) (st' := []) (g' := g3) ?_
  refine wp_n 2 (pc' := 9) (L' := [(2, 127), (0, ((r : Nat) : Int)), (0, ((f : Nat) : Int)), (0, ((u : Nat) : Int)), (0, ((v : Int) - 1)), (0, ((u : Nat) : Int))]) (st' := []) (g' := g3) rfl ?_
  have L9 : ∀ (lf : Nat) (i : Nat) (h : am_G), v - i < lf → (u ≤ i ∧ i ≤ v) → (MR h r (ps (bt p q t) i - ps (bt p q t) u)) → (FrM r g h) → Wp sn sx 1 T214 9 [(2, 127), (0, ((r : Nat) : Int)), (0, ((f : Nat) : Int)), (0, ((u : Nat) : Int)), (0, ((v : Int) - 1)), (0, ((i : Nat) : Int))] [] (SH b) h (fun x => ∃ g', x = (none, SH b, g') ∧ MR g' r (ps (bt p q t) v - ps (bt p q t) u) ∧ FrM r g g') := by
    intro lf
    induction lf with
    | zero => intro i h hlf; exact absurd hlf (Nat.not_lt_zero _)
    | succ lf ih9 =>
      intro i h hlf hi hH hF
      refine wp_n 2 (pc' := 13) (L' := [(2, 127), (0, ((r : Nat) : Int)), (0, ((f : Nat) : Int)), (0, ((u : Nat) : Int)), (0, ((v : Int) - 1)), (0, ((i : Nat) : Int))]) (st' := [(0, ((v : Int) - 1)), (0, ((i : Nat) : Int))]) (g' := h) rfl ?_
      refine wp_ic_gt rfl (fun c3 => ?_) (fun c3 => ?_)
      · have hk2 : i = v := by omega
        exact wp_ret rfl rfl rfl ⟨_, rfl, by rw [hk2] at hH; exact hH, hF⟩
      · have hb := bt_big hp hq hpq ht i
        have hc := Int.le_trans (ps_le hp hq t i).2 (pow_2001 (by omega) hpq ht)
        have hd := (ps_le hp hq t u).1
        refine wp_n 6 (pc' := 23) (L' := [(2, 127), (0, ((r : Nat) : Int)), (0, ((f : Nat) : Int)), (0, ((u : Nat) : Int)), (0, ((v : Int) - 1)), (0, ((i : Nat) : Int))]) (st' := [(0, 1), (0, (((f : Nat) : Int) + ((i : Nat) : Int))), (0, ((r : Nat) : Int)), (2, 127)]) (g' := h) rfl ?_
        refine wp_cv (as := [(2, 127), (0, ((r : Nat) : Int)), (0, (((f : Nat) : Int) + ((i : Nat) : Int))), (0, 1)]) (rest := []) rfl rfl rfl (Nat.le_of_ble_eq_true rfl) rfl (m_add (r := r) (s := (f + i)) (by omega) (by omega) (by omega) hH ((hB i (by omega)).fr hF (by omega)) (by omega) (by omega)) (by decide) (fun r4 h5 => ?_)
        obtain ⟨g23, rfl, hR23, hF23⟩ := h5
        refine wp_eq (L' := [(2, 127), (0, ((r : Nat) : Int)), (0, ((f : Nat) : Int)), (0, ((u : Nat) : Int)), (0, ((v : Int) - 1)), (0, ((i : Nat) : Int))]) (st' := []) (g' := g23) ?_
        refine wp_n 2 (pc' := 9) (L' := [(2, 127), (0, ((r : Nat) : Int)), (0, ((f : Nat) : Int)), (0, ((u : Nat) : Int)), (0, ((v : Int) - 1)), (0, (((i : Nat) : Int) + 1))]) (st' := []) (g' := g23) rfl ?_
        refine wp_eq (ih9 (i + 1) (g23) ?_ ?_ ?_ ?_) (by first | rfl | (simp; done) | (simp; omega)) (by rfl) (by rfl)
        · omega
        · omega
        · rw [ps_s]; rw [Int.mul_one] at hR23; rw [show ps (bt p q t) i + bt p q t i - ps (bt p q t) u = ps (bt p q t) i - ps (bt p q t) u + bt p q t i by omega]; exact hR23
        · exact hF.trans hF23
  refine wp_eq (L9 (_ + 1) (u) (g3) (Nat.lt_succ_self _) ?_ ?_ ?_) (by first | rfl | (simp; done) | (simp; omega)) (by rfl) (by rfl)
  · omega
  · rw [Int.sub_self]; exact hR3
  · exact hF3
set_option maxHeartbeats 400000 in
set_option maxRecDepth 20000 in
theorem m_millionths {sn : Nat} {sx : Nat → Int} {b : Nat} {g : am_G} {v w : Int} (hB : MR g 124 v) (hW : MR g 125 w) (ho : v * 1000000 < 10000 ^ 100) (ho2 : w * 1000000 < 10000 ^ 100) : Ev sn sx 3 216 [(2, 127)] (SH b) g (fun x => ∃ g' m, x = (some (0, m), SH b, g') ∧ IsInto (v * 1000000) w m ∧ FrR 124 127 g g') := by
  refine ev_of (K := 2) T216 (by decide) rfl rfl (Nat.le_of_ble_eq_true rfl) ?_
  refine wp_eq (L' := [(2, 127)]) (st' := []) (g' := g) ?_
  refine wp_n 3 (pc' := 6) (L' := [(2, 127)]) (st' := [(0, 1000000), (0, 124), (2, 127)]) (g' := g) rfl ?_
  refine wp_cv (as := [(2, 127), (0, 124), (0, 1000000)]) (rest := []) rfl rfl rfl (Nat.le_of_ble_eq_true rfl) rfl (m_times (r := 124) (by omega) (by assumption) (by omega) (by omega)) (by decide) (fun r1 h2 => ?_)
  obtain ⟨g6, rfl, hR6, hF6⟩ := h2
  refine wp_eq (L' := [(2, 127)]) (st' := []) (g' := g6) ?_
  refine wp_n 3 (pc' := 14) (L' := [(2, 127)]) (st' := [(0, 125), (0, 124), (2, 127)]) (g' := g6) rfl ?_
  refine wp_cv (as := [(2, 127), (0, 124), (0, 125)]) (rest := []) rfl rfl rfl (Nat.le_of_ble_eq_true rfl) rfl (m_into (r := 124) (s := 125) (by omega) (by omega) (by omega) hR6 (hW.fr hF6 (by omega)) ho2) (by decide) (fun r3 h4 => ?_)
  obtain ⟨g14, q14, rfl, hI14, hF14⟩ := h4
  refine wp_eq (L' := [(2, 127)]) (st' := [(0, q14)]) (g' := g14) ?_
  exact wp_ret rfl rfl rfl ⟨_, _, rfl, hI14, (FrR.rfl.m hF6 (by omega) (by omega)).m hF14 (by omega) (by omega)⟩
