/-! THE REFERENCE'S NUMBERS: the methods -/
theorem pow_up {f : Int} {m n : Nat} (hf : 1 ≤ f) (h : m ≤ n) : f ^ m ≤ f ^ n := by
  obtain ⟨d, rfl⟩ := Nat.le.dest h
  rw [Int.pow_add]
  have h1 : 0 < f ^ m := Int.pow_pos (by omega)
  have h2 : 0 < f ^ d := Int.pow_pos (by omega)
  have h3 := Int.mul_le_mul_of_nonneg_left (show (1 : Int) ≤ f ^ d by omega) (Int.le_of_lt h1)
  omega
def LM (s r : Nat) (g h : am_G) (k : Nat) : Prop := k ≤ 100 ∧ FrM r g h ∧ ∀ j, j < k → h 136 (100 * r + j) = g 136 (100 * s + j)
theorem lm_step {s r k : Nat} {g h : am_G} (H : LM s r g h k) (hk : k < 100) (hn : s ≠ r) : LM s r g (am_up h 136 (100 * r + k) (h 136 (100 * s + k))) (k + 1) := by
  refine ⟨by omega, H.2.1.up hk, fun j hj => ?_⟩
  by_cases e : j = k
  · subst e; rw [up_eq, H.2.1.at hn hk]
  · rw [up_nj (by omega)]; exact H.2.2 j (by omega)
theorem lm_end {s r : Nat} {w : Int} {g h : am_G} (H : LM s r g h 100) (hW : MR g s w) : MR h r w := by
  refine ⟨fun j hj => ?_, ?_⟩
  · rw [H.2.2 j hj]; exact hW.1 j hj
  · rw [← hW.2]; exact mval_eq fun j hj => H.2.2 j hj
set_option maxHeartbeats 400000 in
set_option maxRecDepth 20000 in
theorem m_put {sn : Nat} {sx : Nat → Int} {b : Nat} {g : am_G} {r : Nat} {v : Int} (hr : r < 130) (hv : 0 ≤ v ∧ v < 2147483648) : Ev sn sx 1 204 [(2, 127), (0, ((r : Nat) : Int)), (0, v)] (SH b) g (fun x => ∃ g', x = (none, SH b, g') ∧ MR g' r v ∧ FrM r g g') := by
  refine ev_of (K := 0) T204 (by decide) rfl rfl (Nat.le_of_ble_eq_true rfl) ?_
  refine wp_eq (L' := [(2, 127), (0, ((r : Nat) : Int)), (0, v), (9, 0), (9, 0)]) (st' := []) (g' := g) ?_
  refine wp_n 6 (pc' := 8) (L' := [(2, 127), (0, ((r : Nat) : Int)), (0, v), (0, (100 * ((r : Nat) : Int))), (0, 0)]) (st' := []) (g' := g) rfl ?_
  have L8 : ∀ (lf : Nat) (k : Nat) (h : am_G), 100 - k < lf → (ZM r g h k) → Wp sn sx 0 T204 8 [(2, 127), (0, ((r : Nat) : Int)), (0, v), (0, (((100 * r) : Nat) : Int)), (0, ((k : Nat) : Int))] [] (SH b) h (fun x => ∃ g', x = (none, SH b, g') ∧ MR g' r v ∧ FrM r g g') := by
    intro lf
    induction lf with
    | zero => intro k h hlf; exact absurd hlf (Nat.not_lt_zero _)
    | succ lf ih8 =>
      intro k h hlf hH
      have hk := hH.1
      refine wp_n 2 (pc' := 12) (L' := [(2, 127), (0, ((r : Nat) : Int)), (0, v), (0, (((100 * r) : Nat) : Int)), (0, ((k : Nat) : Int))]) (st' := [(0, 100), (0, ((k : Nat) : Int))]) (g' := h) rfl ?_
      refine wp_ic_ge rfl (fun c1 => ?_) (fun c1 => ?_)
      · have hk2 : k = 100 := by omega
        refine wp_n 5 (pc' := 40) (L' := [(2, 127), (0, ((r : Nat) : Int)), (0, v), (0, (((100 * r) : Nat) : Int)), (0, ((k : Nat) : Int))]) (st' := [(0, 10000), (0, v), (0, (((100 * r) : Nat) : Int)), (2, 136)]) (g' := h) rfl ?_
        refine wp_irem rfl (by omega) (by omega) (by omega) ?_
        refine wp_eq (L' := [(2, 127), (0, ((r : Nat) : Int)), (0, v), (0, (((100 * r) : Nat) : Int)), (0, ((k : Nat) : Int))]) (st' := [(0, (v % 10000)), (0, (((100 * r) : Nat) : Int)), (2, 136)]) (g' := h) ?_ (by rfl) (by rw [Int.tmod_eq_emod_of_nonneg hv.1]) (by rfl)
        refine wp_iast (k := 136) ((100 * r)) rfl rfl (by omega) (by omega) (by decide) ?_
        refine wp_n 7 (pc' := 53) (L' := [(2, 127), (0, ((r : Nat) : Int)), (0, v), (0, (((100 * r) : Nat) : Int)), (0, ((k : Nat) : Int))]) (st' := [(0, 10000), (0, v), (0, ((((100 * r) : Nat) : Int) + 1)), (2, 136)]) (g' := (am_up h 136 ((100 * r)) (v % 10000))) rfl ?_
        refine wp_idiv rfl (by omega) (by omega) (by omega) ?_
        refine wp_eq (L' := [(2, 127), (0, ((r : Nat) : Int)), (0, v), (0, (((100 * r) : Nat) : Int)), (0, ((k : Nat) : Int))]) (st' := [(0, (v / 10000)), (0, ((((100 * r) : Nat) : Int) + 1)), (2, 136)]) (g' := (am_up h 136 ((100 * r)) (v % 10000))) ?_ (by rfl) (by rw [Int.tdiv_eq_ediv_of_nonneg hv.1]) (by rfl)
        refine wp_n 1 (pc' := 57) (L' := [(2, 127), (0, ((r : Nat) : Int)), (0, v), (0, (((100 * r) : Nat) : Int)), (0, ((k : Nat) : Int))]) (st' := [(0, 10000), (0, (v / 10000)), (0, ((((100 * r) : Nat) : Int) + 1)), (2, 136)]) (g' := (am_up h 136 ((100 * r)) (v % 10000))) rfl ?_
        refine wp_irem rfl (by omega) (by omega) (by omega) ?_
        refine wp_eq (L' := [(2, 127), (0, ((r : Nat) : Int)), (0, v), (0, (((100 * r) : Nat) : Int)), (0, ((k : Nat) : Int))]) (st' := [(0, ((v / 10000) % 10000)), (0, ((((100 * r) : Nat) : Int) + 1)), (2, 136)]) (g' := (am_up h 136 ((100 * r)) (v % 10000))) ?_ (by rfl) (by rw [Int.tmod_eq_emod_of_nonneg (show 0 ≤ v / 10000 by omega)]) (by rfl)
        refine wp_iast (k := 136) ((((100 * r)) + 1)) rfl rfl (by omega) (by omega) (by decide) ?_
        refine wp_n 7 (pc' := 70) (L' := [(2, 127), (0, ((r : Nat) : Int)), (0, v), (0, (((100 * r) : Nat) : Int)), (0, ((k : Nat) : Int))]) (st' := [(0, 10000), (0, v), (0, ((((100 * r) : Nat) : Int) + 2)), (2, 136)]) (g' := (am_up (am_up h 136 ((100 * r)) (v % 10000)) 136 ((((100 * r)) + 1)) ((v / 10000) % 10000))) rfl ?_
        refine wp_idiv rfl (by omega) (by omega) (by omega) ?_
        refine wp_eq (L' := [(2, 127), (0, ((r : Nat) : Int)), (0, v), (0, (((100 * r) : Nat) : Int)), (0, ((k : Nat) : Int))]) (st' := [(0, (v / 10000)), (0, ((((100 * r) : Nat) : Int) + 2)), (2, 136)]) (g' := (am_up (am_up h 136 ((100 * r)) (v % 10000)) 136 ((((100 * r)) + 1)) ((v / 10000) % 10000))) ?_ (by rfl) (by rw [Int.tdiv_eq_ediv_of_nonneg hv.1]) (by rfl)
        refine wp_n 1 (pc' := 74) (L' := [(2, 127), (0, ((r : Nat) : Int)), (0, v), (0, (((100 * r) : Nat) : Int)), (0, ((k : Nat) : Int))]) (st' := [(0, 10000), (0, (v / 10000)), (0, ((((100 * r) : Nat) : Int) + 2)), (2, 136)]) (g' := (am_up (am_up h 136 ((100 * r)) (v % 10000)) 136 ((((100 * r)) + 1)) ((v / 10000) % 10000))) rfl ?_
        refine wp_idiv rfl (by omega) (by omega) (by omega) ?_
        refine wp_eq (L' := [(2, 127), (0, ((r : Nat) : Int)), (0, v), (0, (((100 * r) : Nat) : Int)), (0, ((k : Nat) : Int))]) (st' := [(0, ((v / 10000) / 10000)), (0, ((((100 * r) : Nat) : Int) + 2)), (2, 136)]) (g' := (am_up (am_up h 136 ((100 * r)) (v % 10000)) 136 ((((100 * r)) + 1)) ((v / 10000) % 10000))) ?_ (by rfl) (by rw [Int.tdiv_eq_ediv_of_nonneg (show 0 ≤ v / 10000 by omega)]) (by rfl)
        refine wp_iast (k := 136) ((((100 * r)) + 2)) rfl rfl (by omega) (by omega) (by decide) ?_
        exact wp_ret rfl rfl rfl ⟨_, rfl, put_end (by rw [hk2] at hH; exact hH) (by omega) rfl rfl rfl⟩
      · refine wp_n 6 (pc' := 24) (L' := [(2, 127), (0, ((r : Nat) : Int)), (0, v), (0, (((100 * r) : Nat) : Int)), (0, ((k : Nat) : Int))]) (st' := [(0, 0), (0, ((((100 * r) : Nat) : Int) + ((k : Nat) : Int))), (2, 136)]) (g' := h) rfl ?_
        refine wp_iast (k := 136) ((((100 * r)) + k)) rfl rfl (by omega) (by omega) (by decide) ?_
        refine wp_n 2 (pc' := 8) (L' := [(2, 127), (0, ((r : Nat) : Int)), (0, v), (0, (((100 * r) : Nat) : Int)), (0, (((k : Nat) : Int) + 1))]) (st' := []) (g' := (am_up h 136 ((((100 * r)) + k)) 0)) rfl ?_
        refine wp_eq (ih8 (k + 1) ((am_up h 136 ((((100 * r)) + k)) 0)) ?_ ?_) (by first | rfl | (simp; done) | (simp; omega)) (by rfl) (by rfl)
        · omega
        · exact zm_step hH (by omega)
  refine wp_eq (L8 (_ + 1) (0) (g) (Nat.lt_succ_self _) ?_) (by rw [show (((100 * r) : Nat) : Int) = 100 * ((r : Nat) : Int) by omega]; rfl) (by rfl) (by rfl)
  · exact ⟨Nat.zero_le _, FrM.rfl, fun j hj => absurd hj (Nat.not_lt_zero _)⟩
set_option maxHeartbeats 400000 in
set_option maxRecDepth 20000 in
theorem m_lay {sn : Nat} {sx : Nat → Int} {b : Nat} {g : am_G} {s r : Nat} {w : Int} (hs : s < 130) (hr : r < 130) (hn : s ≠ r) (hW : MR g s w) : Ev sn sx 1 205 [(2, 127), (0, ((s : Nat) : Int)), (0, ((r : Nat) : Int))] (SH b) g (fun x => ∃ g', x = (none, SH b, g') ∧ MR g' r w ∧ FrM r g g') := by
  refine ev_of (K := 0) T205 (by decide) rfl rfl (Nat.le_of_ble_eq_true rfl) ?_
  refine wp_eq (L' := [(2, 127), (0, ((s : Nat) : Int)), (0, ((r : Nat) : Int)), (9, 0)]) (st' := []) (g' := g) ?_
  refine wp_n 2 (pc' := 2) (L' := [(2, 127), (0, ((s : Nat) : Int)), (0, ((r : Nat) : Int)), (0, 0)]) (st' := []) (g' := g) rfl ?_
  have L2 : ∀ (lf : Nat) (k : Nat) (h : am_G), 100 - k < lf → (LM s r g h k) → Wp sn sx 0 T205 2 [(2, 127), (0, ((s : Nat) : Int)), (0, ((r : Nat) : Int)), (0, ((k : Nat) : Int))] [] (SH b) h (fun x => ∃ g', x = (none, SH b, g') ∧ MR g' r w ∧ FrM r g g') := by
    intro lf
    induction lf with
    | zero => intro k h hlf; exact absurd hlf (Nat.not_lt_zero _)
    | succ lf ih2 =>
      intro k h hlf hH
      have hk := hH.1
      refine wp_n 2 (pc' := 5) (L' := [(2, 127), (0, ((s : Nat) : Int)), (0, ((r : Nat) : Int)), (0, ((k : Nat) : Int))]) (st' := [(0, 100), (0, ((k : Nat) : Int))]) (g' := h) rfl ?_
      refine wp_ic_ge rfl (fun c1 => ?_) (fun c1 => ?_)
      · have hk2 : k = 100 := by omega
        exact wp_ret rfl rfl rfl ⟨_, rfl, lm_end (by rw [hk2] at hH; exact hH) hW, hH.2.1⟩
      · refine wp_n 14 (pc' := 28) (L' := [(2, 127), (0, ((s : Nat) : Int)), (0, ((r : Nat) : Int)), (0, ((k : Nat) : Int))]) (st' := [(0, ((100 * ((s : Nat) : Int)) + ((k : Nat) : Int))), (2, 136), (0, ((100 * ((r : Nat) : Int)) + ((k : Nat) : Int))), (2, 136)]) (g' := h) rfl ?_
        refine wp_iald (k := 136) (((100 * s) + k)) rfl rfl (by omega) (by omega) (by decide) ?_
        refine wp_iast (k := 136) (((100 * r) + k)) rfl rfl (by omega) (by omega) (by decide) ?_
        refine wp_n 2 (pc' := 2) (L' := [(2, 127), (0, ((s : Nat) : Int)), (0, ((r : Nat) : Int)), (0, (((k : Nat) : Int) + 1))]) (st' := []) (g' := (am_up h 136 (((100 * r) + k)) (h 136 ((100 * s) + k)))) rfl ?_
        refine wp_eq (ih2 (k + 1) ((am_up h 136 (((100 * r) + k)) (h 136 ((100 * s) + k)))) ?_ ?_) (by first | rfl | (simp; done) | (simp; omega)) (by rfl) (by rfl)
        · omega
        · exact lm_step hH (by omega) hn
  refine wp_eq (L2 (_ + 1) (0) (g) (Nat.lt_succ_self _) ?_) (by first | rfl | (simp; done) | (simp; omega)) (by rfl) (by rfl)
  · exact ⟨Nat.zero_le _, FrM.rfl, fun j hj => absurd hj (Nat.not_lt_zero _)⟩
set_option maxHeartbeats 400000 in
set_option maxRecDepth 20000 in
theorem m_times {sn : Nat} {sx : Nat → Int} {b : Nat} {g : am_G} {r : Nat} {v f : Int} (hr : r < 130) (hB : MR g r v) (hf : 0 ≤ f ∧ f < 2147483648) (ho : v * f < 10000 ^ 100) : Ev sn sx 1 206 [(2, 127), (0, ((r : Nat) : Int)), (0, f)] (SH b) g (fun x => ∃ g', x = (none, SH b, g') ∧ MR g' r (v * f) ∧ FrM r g g') := by
  refine ev_of (K := 0) T206 (by decide) rfl rfl (Nat.le_of_ble_eq_true rfl) ?_
  refine wp_eq (L' := [(2, 127), (0, ((r : Nat) : Int)), (0, f), (9, 0), (9, 0), (9, 0), (9, 0)]) (st' := []) (g' := g) ?_
  refine wp_n 8 (pc' := 11) (L' := [(2, 127), (0, ((r : Nat) : Int)), (0, f), (1, 0), (9, 0), (0, (100 * ((r : Nat) : Int))), (0, 0)]) (st' := []) (g' := g) rfl ?_
  have L11 : ∀ (lf : Nat) (k : Nat) (c : Int) (h : am_G), 100 - k < lf → (TM r f g h k c) → Wp sn sx 0 T206 11 [(2, 127), (0, ((r : Nat) : Int)), (0, f), (1, c), (9, 0), (0, (((100 * r) : Nat) : Int)), (0, ((k : Nat) : Int))] [] (SH b) h (fun x => ∃ g', x = (none, SH b, g') ∧ MR g' r (v * f) ∧ FrM r g g') := by
    intro lf
    induction lf with
    | zero => intro k c h hlf; exact absurd hlf (Nat.not_lt_zero _)
    | succ lf ih11 =>
      intro k c h hlf hH
      have hk := hH.1
      have hc := hH.2.1
      refine wp_n 2 (pc' := 15) (L' := [(2, 127), (0, ((r : Nat) : Int)), (0, f), (1, c), (9, 0), (0, (((100 * r) : Nat) : Int)), (0, ((k : Nat) : Int))]) (st' := [(0, 100), (0, ((k : Nat) : Int))]) (g' := h) rfl ?_
      refine wp_ic_ge rfl (fun c1 => ?_) (fun c1 => ?_)
      · have hk2 : k = 100 := by omega
        exact wp_ret rfl rfl rfl ⟨_, rfl, tm_end hB (by rw [hk2] at hH; exact hH) ho⟩
      · have hl := hH.2.2.2.2.1 k (by omega)
        have hv := tm_v hl hf.1 hc
        refine wp_n 6 (pc' := 28) (L' := [(2, 127), (0, ((r : Nat) : Int)), (0, f), (1, c), (9, 0), (0, (((100 * r) : Nat) : Int)), (0, ((k : Nat) : Int))]) (st' := [(0, ((((100 * r) : Nat) : Int) + ((k : Nat) : Int))), (2, 136), (1, c)]) (g' := h) rfl ?_
        refine wp_iald (k := 136) ((((100 * r)) + k)) rfl rfl (by omega) (by omega) (by decide) ?_
        refine wp_i2l rfl (by omega) ?_
        refine wp_n 1 (pc' := 31) (L' := [(2, 127), (0, ((r : Nat) : Int)), (0, f), (1, c), (9, 0), (0, (((100 * r) : Nat) : Int)), (0, ((k : Nat) : Int))]) (st' := [(0, f), (1, (h 136 (((100 * r)) + k))), (1, c)]) (g' := h) rfl ?_
        refine wp_i2l rfl (by omega) ?_
        refine wp_n 10 (pc' := 48) (L' := [(2, 127), (0, ((r : Nat) : Int)), (0, f), (1, (c + ((h 136 (((100 * r)) + k)) * f))), (9, 0), (0, (((100 * r) : Nat) : Int)), (0, ((k : Nat) : Int))]) (st' := [(1, 10000), (1, (c + ((h 136 (((100 * r)) + k)) * f))), (0, ((((100 * r) : Nat) : Int) + ((k : Nat) : Int))), (2, 136)]) (g' := h) rfl ?_
        refine wp_lrem rfl (by omega) (by omega) (by omega) ?_
        refine wp_eq (L' := [(2, 127), (0, ((r : Nat) : Int)), (0, f), (1, (c + ((h 136 (((100 * r)) + k)) * f))), (9, 0), (0, (((100 * r) : Nat) : Int)), (0, ((k : Nat) : Int))]) (st' := [(1, ((c + ((h 136 (((100 * r)) + k)) * f)) % 10000)), (0, ((((100 * r) : Nat) : Int) + ((k : Nat) : Int))), (2, 136)]) (g' := h) ?_ (by rfl) (by rw [Int.tmod_eq_emod_of_nonneg hv.1]) (by rfl)
        refine wp_n 1 (pc' := 50) (L' := [(2, 127), (0, ((r : Nat) : Int)), (0, f), (1, (c + ((h 136 (((100 * r)) + k)) * f))), (9, 0), (0, (((100 * r) : Nat) : Int)), (0, ((k : Nat) : Int))]) (st' := [(0, ((c + ((h 136 (((100 * r)) + k)) * f)) % 10000)), (0, ((((100 * r) : Nat) : Int) + ((k : Nat) : Int))), (2, 136)]) (g' := h) rfl ?_
        refine wp_iast (k := 136) ((((100 * r)) + k)) rfl rfl (by omega) (by omega) (by decide) ?_
        refine wp_n 2 (pc' := 55) (L' := [(2, 127), (0, ((r : Nat) : Int)), (0, f), (1, (c + ((h 136 (((100 * r)) + k)) * f))), (9, 0), (0, (((100 * r) : Nat) : Int)), (0, ((k : Nat) : Int))]) (st' := [(1, 10000), (1, (c + ((h 136 (((100 * r)) + k)) * f)))]) (g' := (am_up h 136 ((((100 * r)) + k)) ((c + ((h 136 (((100 * r)) + k)) * f)) % 10000))) rfl ?_
        refine wp_ldiv rfl (by omega) (by omega) (by omega) ?_
        refine wp_eq (L' := [(2, 127), (0, ((r : Nat) : Int)), (0, f), (1, (c + ((h 136 (((100 * r)) + k)) * f))), (9, 0), (0, (((100 * r) : Nat) : Int)), (0, ((k : Nat) : Int))]) (st' := [(1, ((c + ((h 136 (((100 * r)) + k)) * f)) / 10000))]) (g' := (am_up h 136 ((((100 * r)) + k)) ((c + ((h 136 (((100 * r)) + k)) * f)) % 10000))) ?_ (by rfl) (by rw [Int.tdiv_eq_ediv_of_nonneg hv.1]) (by rfl)
        refine wp_n 3 (pc' := 11) (L' := [(2, 127), (0, ((r : Nat) : Int)), (0, f), (1, ((c + ((h 136 (((100 * r)) + k)) * f)) / 10000)), (9, 0), (0, (((100 * r) : Nat) : Int)), (0, (((k : Nat) : Int) + 1))]) (st' := []) (g' := (am_up h 136 ((((100 * r)) + k)) ((c + ((h 136 (((100 * r)) + k)) * f)) % 10000))) rfl ?_
        refine wp_eq (ih11 (k + 1) (((c + ((h 136 (((100 * r)) + k)) * f)) / 10000)) ((am_up h 136 ((((100 * r)) + k)) ((c + ((h 136 (((100 * r)) + k)) * f)) % 10000))) ?_ ?_) (by first | rfl | (simp; done) | (simp; omega)) (by rfl) (by rfl)
        · omega
        · exact tm_step hH (by omega) hf.1
  refine wp_eq (L11 (_ + 1) (0) (0) (g) (Nat.lt_succ_self _) ?_) (by rw [show (((100 * r) : Nat) : Int) = 100 * ((r : Nat) : Int) by omega]; rfl) (by rfl) (by rfl)
  · exact tm_zero hB hf.1
set_option maxHeartbeats 400000 in
set_option maxRecDepth 20000 in
theorem m_add {sn : Nat} {sx : Nat → Int} {b : Nat} {g : am_G} {r s : Nat} {v w f : Int} (hr : r < 130) (hs : s < 130) (hn : s ≠ r) (hB : MR g r v) (hW : MR g s w) (hf : 0 ≤ f ∧ f < 2147483647) (ho : v + w * f < 10000 ^ 100) : Ev sn sx 1 207 [(2, 127), (0, ((r : Nat) : Int)), (0, ((s : Nat) : Int)), (0, f)] (SH b) g (fun x => ∃ g', x = (none, SH b, g') ∧ MR g' r (v + w * f) ∧ FrM r g g') := by
  refine ev_of (K := 0) T207 (by decide) rfl rfl (Nat.le_of_ble_eq_true rfl) ?_
  refine wp_eq (L' := [(2, 127), (0, ((r : Nat) : Int)), (0, ((s : Nat) : Int)), (0, f), (9, 0), (9, 0), (9, 0)]) (st' := []) (g' := g) ?_
  refine wp_n 4 (pc' := 6) (L' := [(2, 127), (0, ((r : Nat) : Int)), (0, ((s : Nat) : Int)), (0, f), (1, 0), (9, 0), (0, 0)]) (st' := []) (g' := g) rfl ?_
  have L6 : ∀ (lf : Nat) (k : Nat) (c : Int) (h : am_G), 100 - k < lf → (AM r s f g h k c) → Wp sn sx 0 T207 6 [(2, 127), (0, ((r : Nat) : Int)), (0, ((s : Nat) : Int)), (0, f), (1, c), (9, 0), (0, ((k : Nat) : Int))] [] (SH b) h (fun x => ∃ g', x = (none, SH b, g') ∧ MR g' r (v + w * f) ∧ FrM r g g') := by
    intro lf
    induction lf with
    | zero => intro k c h hlf; exact absurd hlf (Nat.not_lt_zero _)
    | succ lf ih6 =>
      intro k c h hlf hH
      have hk := hH.1
      have hc := hH.2.1
      refine wp_n 2 (pc' := 10) (L' := [(2, 127), (0, ((r : Nat) : Int)), (0, ((s : Nat) : Int)), (0, f), (1, c), (9, 0), (0, ((k : Nat) : Int))]) (st' := [(0, 100), (0, ((k : Nat) : Int))]) (g' := h) rfl ?_
      refine wp_ic_ge rfl (fun c1 => ?_) (fun c1 => ?_)
      · have hk2 : k = 100 := by omega
        exact wp_ret rfl rfl rfl ⟨_, rfl, am_end hB hW (by rw [hk2] at hH; exact hH) ho⟩
      · have hl := hH.2.2.2.2.1 k (by omega)
        have hy : 0 ≤ h 136 ((100 * s) + k) ∧ h 136 ((100 * s) + k) < 10000 := by rw [hH.2.2.1.at hn (by omega)]; exact hW.1 k (by omega)
        have hv := am_v' hl hy hf.1 hc
        refine wp_n 8 (pc' := 26) (L' := [(2, 127), (0, ((r : Nat) : Int)), (0, ((s : Nat) : Int)), (0, f), (1, c), (9, 0), (0, ((k : Nat) : Int))]) (st' := [(0, ((100 * ((r : Nat) : Int)) + ((k : Nat) : Int))), (2, 136), (1, c)]) (g' := h) rfl ?_
        refine wp_iald (k := 136) (((100 * r) + k)) rfl rfl (by omega) (by omega) (by decide) ?_
        refine wp_i2l rfl (by omega) ?_
        refine wp_n 7 (pc' := 39) (L' := [(2, 127), (0, ((r : Nat) : Int)), (0, ((s : Nat) : Int)), (0, f), (1, c), (9, 0), (0, ((k : Nat) : Int))]) (st' := [(0, ((100 * ((s : Nat) : Int)) + ((k : Nat) : Int))), (2, 136), (1, (h 136 ((100 * r) + k))), (1, c)]) (g' := h) rfl ?_
        refine wp_iald (k := 136) (((100 * s) + k)) rfl rfl (by omega) (by omega) (by decide) ?_
        refine wp_i2l rfl (by omega) ?_
        refine wp_n 1 (pc' := 42) (L' := [(2, 127), (0, ((r : Nat) : Int)), (0, ((s : Nat) : Int)), (0, f), (1, c), (9, 0), (0, ((k : Nat) : Int))]) (st' := [(0, f), (1, (h 136 ((100 * s) + k))), (1, (h 136 ((100 * r) + k))), (1, c)]) (g' := h) rfl ?_
        refine wp_i2l rfl (by omega) ?_
        refine wp_n 13 (pc' := 64) (L' := [(2, 127), (0, ((r : Nat) : Int)), (0, ((s : Nat) : Int)), (0, f), (1, (c + ((h 136 ((100 * r) + k)) + ((h 136 ((100 * s) + k)) * f)))), (9, 0), (0, ((k : Nat) : Int))]) (st' := [(1, 10000), (1, (c + ((h 136 ((100 * r) + k)) + ((h 136 ((100 * s) + k)) * f)))), (0, ((100 * ((r : Nat) : Int)) + ((k : Nat) : Int))), (2, 136)]) (g' := h) rfl ?_
        refine wp_lrem rfl (by omega) (by omega) (by omega) ?_
        refine wp_eq (L' := [(2, 127), (0, ((r : Nat) : Int)), (0, ((s : Nat) : Int)), (0, f), (1, (c + ((h 136 ((100 * r) + k)) + ((h 136 ((100 * s) + k)) * f)))), (9, 0), (0, ((k : Nat) : Int))]) (st' := [(1, ((c + ((h 136 ((100 * r) + k)) + ((h 136 ((100 * s) + k)) * f))) % 10000)), (0, ((100 * ((r : Nat) : Int)) + ((k : Nat) : Int))), (2, 136)]) (g' := h) ?_ (by rfl) (by rw [Int.tmod_eq_emod_of_nonneg hv.1]) (by rfl)
        refine wp_n 1 (pc' := 66) (L' := [(2, 127), (0, ((r : Nat) : Int)), (0, ((s : Nat) : Int)), (0, f), (1, (c + ((h 136 ((100 * r) + k)) + ((h 136 ((100 * s) + k)) * f)))), (9, 0), (0, ((k : Nat) : Int))]) (st' := [(0, ((c + ((h 136 ((100 * r) + k)) + ((h 136 ((100 * s) + k)) * f))) % 10000)), (0, ((100 * ((r : Nat) : Int)) + ((k : Nat) : Int))), (2, 136)]) (g' := h) rfl ?_
        refine wp_iast (k := 136) (((100 * r) + k)) rfl rfl (by omega) (by omega) (by decide) ?_
        refine wp_n 2 (pc' := 72) (L' := [(2, 127), (0, ((r : Nat) : Int)), (0, ((s : Nat) : Int)), (0, f), (1, (c + ((h 136 ((100 * r) + k)) + ((h 136 ((100 * s) + k)) * f)))), (9, 0), (0, ((k : Nat) : Int))]) (st' := [(1, 10000), (1, (c + ((h 136 ((100 * r) + k)) + ((h 136 ((100 * s) + k)) * f))))]) (g' := (am_up h 136 (((100 * r) + k)) ((c + ((h 136 ((100 * r) + k)) + ((h 136 ((100 * s) + k)) * f))) % 10000))) rfl ?_
        refine wp_ldiv rfl (by omega) (by omega) (by omega) ?_
        refine wp_eq (L' := [(2, 127), (0, ((r : Nat) : Int)), (0, ((s : Nat) : Int)), (0, f), (1, (c + ((h 136 ((100 * r) + k)) + ((h 136 ((100 * s) + k)) * f)))), (9, 0), (0, ((k : Nat) : Int))]) (st' := [(1, ((c + ((h 136 ((100 * r) + k)) + ((h 136 ((100 * s) + k)) * f))) / 10000))]) (g' := (am_up h 136 (((100 * r) + k)) ((c + ((h 136 ((100 * r) + k)) + ((h 136 ((100 * s) + k)) * f))) % 10000))) ?_ (by rfl) (by rw [Int.tdiv_eq_ediv_of_nonneg hv.1]) (by rfl)
        refine wp_n 3 (pc' := 6) (L' := [(2, 127), (0, ((r : Nat) : Int)), (0, ((s : Nat) : Int)), (0, f), (1, ((c + ((h 136 ((100 * r) + k)) + ((h 136 ((100 * s) + k)) * f))) / 10000)), (9, 0), (0, (((k : Nat) : Int) + 1))]) (st' := []) (g' := (am_up h 136 (((100 * r) + k)) ((c + ((h 136 ((100 * r) + k)) + ((h 136 ((100 * s) + k)) * f))) % 10000))) rfl ?_
        refine wp_eq (ih6 (k + 1) (((c + ((h 136 ((100 * r) + k)) + ((h 136 ((100 * s) + k)) * f))) / 10000)) ((am_up h 136 (((100 * r) + k)) ((c + ((h 136 ((100 * r) + k)) + ((h 136 ((100 * s) + k)) * f))) % 10000))) ?_ ?_) (by first | rfl | (simp; done) | (simp; omega)) (by rfl) (by rfl)
        · omega
        · exact am_nxt hH (by omega) hf.1 hn hW
  refine wp_eq (L6 (_ + 1) (0) (0) (g) (Nat.lt_succ_self _) ?_) (by first | rfl | (simp; done) | (simp; omega)) (by rfl) (by rfl)
  · exact am_zero hB hf.1
def CM (r s : Nat) (g : am_G) (k : Nat) : Prop := k ≤ 100 ∧ mval (MG g r) 100 - mval (MG g r) k = mval (MG g s) 100 - mval (MG g s) k
theorem cm_nxt {r s k : Nat} {g : am_G} (H : CM r s g k) (h0 : 0 < k) (h : g 136 (100 * r + (k - 1)) = g 136 (100 * s + (k - 1))) : CM r s g (k - 1) := by
  obtain ⟨i, rfl⟩ : ∃ i, k = i + 1 := ⟨k - 1, by omega⟩
  obtain ⟨h1, h2⟩ := H
  rw [Nat.add_sub_cancel] at h ⊢
  rw [mval_suc _ i, mval_suc _ i] at h2
  have e : MG g r i = MG g s i := h
  rw [e] at h2
  exact ⟨by omega, by omega⟩
theorem cm_lt {r s k : Nat} {v w : Int} {g : am_G} (hB : MR g r v) (hW : MR g s w) (H : CM r s g k) (h0 : 0 < k) (h : g 136 (100 * r + (k - 1)) < g 136 (100 * s + (k - 1))) : v < w := by
  obtain ⟨i, rfl⟩ : ∃ i, k = i + 1 := ⟨k - 1, by omega⟩
  obtain ⟨h1, h2⟩ := H
  rw [Nat.add_sub_cancel] at h
  rw [hB.2, hW.2, mval_suc _ i, mval_suc _ i] at h2
  have e : MG g r i < MG g s i := h
  have a1 := mval_in (f := MG g r) (n := i) fun j hj => hB.1 j (by omega)
  have a2 := mval_in (f := MG g s) (n := i) fun j hj => hW.1 j (by omega)
  have a3 := Int.mul_le_mul_of_nonneg_right (show MG g r i + 1 ≤ MG g s i by omega) (Int.le_of_lt (m_pos i))
  rw [Int.add_mul] at a3
  omega
theorem CM.symm {r s k : Nat} {g : am_G} (H : CM r s g k) : CM s r g k := ⟨H.1, H.2.symm⟩
theorem cm_end {r s : Nat} {v w : Int} {g : am_G} (hB : MR g r v) (hW : MR g s w) (H : CM r s g 0) : v = w := by
  have h := H.2
  rw [hB.2, hW.2] at h
  have a1 : mval (MG g r) 0 = 0 := rfl
  have a2 : mval (MG g s) 0 = 0 := rfl
  omega
set_option maxHeartbeats 400000 in
set_option maxRecDepth 20000 in
theorem m_compare {sn : Nat} {sx : Nat → Int} {b : Nat} {g : am_G} {r s : Nat} {v w : Int} (hr : r < 130) (hs : s < 130) (hB : MR g r v) (hW : MR g s w) : Ev sn sx 1 208 [(2, 127), (0, ((r : Nat) : Int)), (0, ((s : Nat) : Int))] (SH b) g (fun x => ∃ c, x = (some (0, c), SH b, g) ∧ ((c = 1 ∧ w < v) ∨ (c = 0 ∧ v = w) ∨ (c = -1 ∧ v < w))) := by
  refine ev_of (K := 0) T208 (by decide) rfl rfl (Nat.le_of_ble_eq_true rfl) ?_
  refine wp_eq (L' := [(2, 127), (0, ((r : Nat) : Int)), (0, ((s : Nat) : Int)), (9, 0)]) (st' := []) (g' := g) ?_
  refine wp_n 2 (pc' := 3) (L' := [(2, 127), (0, ((r : Nat) : Int)), (0, ((s : Nat) : Int)), (0, 99)]) (st' := []) (g' := g) rfl ?_
  have L3 : ∀ (lf : Nat) (k : Nat), k < lf → (CM r s g k) → Wp sn sx 0 T208 3 [(2, 127), (0, ((r : Nat) : Int)), (0, ((s : Nat) : Int)), (0, ((k : Int) - 1))] [] (SH b) g (fun x => ∃ c, x = (some (0, c), SH b, g) ∧ ((c = 1 ∧ w < v) ∨ (c = 0 ∧ v = w) ∨ (c = -1 ∧ v < w))) := by
    intro lf
    induction lf with
    | zero => intro k hlf; exact absurd hlf (Nat.not_lt_zero _)
    | succ lf ih3 =>
      intro k hlf hH
      have hk := hH.1
      refine wp_n 1 (pc' := 4) (L' := [(2, 127), (0, ((r : Nat) : Int)), (0, ((s : Nat) : Int)), (0, ((k : Int) - 1))]) (st' := [(0, ((k : Int) - 1))]) (g' := g) rfl ?_
      refine wp_if_lt rfl (fun c1 => ?_) (fun c1 => ?_)
      · have hk2 : k = 0 := by omega
        refine wp_n 1 (pc' := 70) (L' := [(2, 127), (0, ((r : Nat) : Int)), (0, ((s : Nat) : Int)), (0, ((k : Int) - 1))]) (st' := [(0, 0)]) (g' := g) rfl ?_
        exact wp_ret rfl rfl rfl ⟨_, rfl, Or.inr (Or.inl ⟨rfl, cm_end hB hW (by rw [hk2] at hH; exact hH)⟩)⟩
      · have hl := hB.1 (k - 1) (by omega)
        have hy := hW.1 (k - 1) (by omega)
        refine wp_n 7 (pc' := 17) (L' := [(2, 127), (0, ((r : Nat) : Int)), (0, ((s : Nat) : Int)), (0, ((k : Int) - 1))]) (st' := [(0, ((100 * ((r : Nat) : Int)) + ((k : Int) - 1))), (2, 136)]) (g' := g) rfl ?_
        refine wp_iald (k := 136) ((100 * r + (k - 1))) rfl rfl (by omega) (by omega) (by decide) ?_
        refine wp_n 7 (pc' := 28) (L' := [(2, 127), (0, ((r : Nat) : Int)), (0, ((s : Nat) : Int)), (0, ((k : Int) - 1))]) (st' := [(0, ((100 * ((s : Nat) : Int)) + ((k : Int) - 1))), (2, 136), (0, (g 136 (100 * r + (k - 1))))]) (g' := g) rfl ?_
        refine wp_iald (k := 136) ((100 * s + (k - 1))) rfl rfl (by omega) (by omega) (by decide) ?_
        refine wp_ic_eq rfl (fun c2 => ?_) (fun c2 => ?_)
        · refine wp_n 2 (pc' := 3) (L' := [(2, 127), (0, ((r : Nat) : Int)), (0, ((s : Nat) : Int)), (0, (((k : Int) - 1) + (-1)))]) (st' := []) (g' := g) rfl ?_
          refine wp_eq (ih3 (k - 1) ?_ ?_) (by rw [show ((k - 1 : Nat) : Int) = (k : Int) - 1 by omega]; rfl) (by rfl) (by rfl)
          · omega
          · exact cm_nxt hH (by omega) (by omega)
        · refine wp_n 7 (pc' := 42) (L' := [(2, 127), (0, ((r : Nat) : Int)), (0, ((s : Nat) : Int)), (0, ((k : Int) - 1))]) (st' := [(0, ((100 * ((r : Nat) : Int)) + ((k : Int) - 1))), (2, 136)]) (g' := g) rfl ?_
          refine wp_iald (k := 136) ((100 * r + (k - 1))) rfl rfl (by omega) (by omega) (by decide) ?_
          refine wp_n 7 (pc' := 53) (L' := [(2, 127), (0, ((r : Nat) : Int)), (0, ((s : Nat) : Int)), (0, ((k : Int) - 1))]) (st' := [(0, ((100 * ((s : Nat) : Int)) + ((k : Int) - 1))), (2, 136), (0, (g 136 (100 * r + (k - 1))))]) (g' := g) rfl ?_
          refine wp_iald (k := 136) ((100 * s + (k - 1))) rfl rfl (by omega) (by omega) (by decide) ?_
          refine wp_ic_le rfl (fun c3 => ?_) (fun c3 => ?_)
          · refine wp_n 1 (pc' := 62) (L' := [(2, 127), (0, ((r : Nat) : Int)), (0, ((s : Nat) : Int)), (0, ((k : Int) - 1))]) (st' := [(0, (-1))]) (g' := g) rfl ?_
            exact wp_ret rfl rfl rfl ⟨_, rfl, Or.inr (Or.inr ⟨rfl, cm_lt hB hW hH (by omega) (by omega)⟩)⟩
          · refine wp_n 2 (pc' := 62) (L' := [(2, 127), (0, ((r : Nat) : Int)), (0, ((s : Nat) : Int)), (0, ((k : Int) - 1))]) (st' := [(0, 1)]) (g' := g) rfl ?_
            exact wp_ret rfl rfl rfl ⟨_, rfl, Or.inl ⟨rfl, cm_lt hW hB hH.symm (by omega) (by omega)⟩⟩
  refine wp_eq (L3 (_ + 1) (100) (Nat.lt_succ_self _) ?_) (by first | rfl | (simp; done) | (simp; omega)) (by rfl) (by rfl)
  · exact ⟨Nat.le_refl _, by omega⟩
set_option maxHeartbeats 400000 in
set_option maxRecDepth 20000 in
theorem m_power {sn : Nat} {sx : Nat → Int} {b : Nat} {g : am_G} {r n : Nat} {f : Int} (hr : r < 130) (hn : n < 1000) (hf : 1 ≤ f ∧ f < 2147483648) (ho : f ^ n < 10000 ^ 100) : Ev sn sx 2 211 [(2, 127), (0, ((r : Nat) : Int)), (0, f), (0, ((n : Nat) : Int))] (SH b) g (fun x => ∃ g', x = (none, SH b, g') ∧ MR g' r (f ^ n) ∧ FrM r g g') := by
  refine ev_of (K := 1) T211 (by decide) rfl rfl (Nat.le_of_ble_eq_true rfl) ?_
  refine wp_eq (L' := [(2, 127), (0, ((r : Nat) : Int)), (0, f), (0, ((n : Nat) : Int)), (9, 0)]) (st' := []) (g' := g) ?_
  refine wp_n 3 (pc' := 3) (L' := [(2, 127), (0, ((r : Nat) : Int)), (0, f), (0, ((n : Nat) : Int)), (9, 0)]) (st' := [(0, 1), (0, ((r : Nat) : Int)), (2, 127)]) (g' := g) rfl ?_
  refine wp_cv (as := [(2, 127), (0, ((r : Nat) : Int)), (0, 1)]) (rest := []) rfl rfl rfl (Nat.le_of_ble_eq_true rfl) rfl (m_put (r := r) (by omega) (by omega)) (by decide) (fun r1 h2 => ?_)
  obtain ⟨g3, rfl, hR3, hF3⟩ := h2
  refine wp_eq (L' := [(2, 127), (0, ((r : Nat) : Int)), (0, f), (0, ((n : Nat) : Int)), (9, 0)]) (st' := []) (g' := g3) ?_
  refine wp_n 2 (pc' := 9) (L' := [(2, 127), (0, ((r : Nat) : Int)), (0, f), (0, ((n : Nat) : Int)), (0, 0)]) (st' := []) (g' := g3) rfl ?_
  have L9 : ∀ (lf : Nat) (k : Nat) (h : am_G), n - k < lf → (k ≤ n) → (MR h r (f ^ k)) → (FrM r g h) → Wp sn sx 1 T211 9 [(2, 127), (0, ((r : Nat) : Int)), (0, f), (0, ((n : Nat) : Int)), (0, ((k : Nat) : Int))] [] (SH b) h (fun x => ∃ g', x = (none, SH b, g') ∧ MR g' r (f ^ n) ∧ FrM r g g') := by
    intro lf
    induction lf with
    | zero => intro k h hlf; exact absurd hlf (Nat.not_lt_zero _)
    | succ lf ih9 =>
      intro k h hlf hk hH hF
      refine wp_n 2 (pc' := 12) (L' := [(2, 127), (0, ((r : Nat) : Int)), (0, f), (0, ((n : Nat) : Int)), (0, ((k : Nat) : Int))]) (st' := [(0, ((n : Nat) : Int)), (0, ((k : Nat) : Int))]) (g' := h) rfl ?_
      refine wp_ic_ge rfl (fun c3 => ?_) (fun c3 => ?_)
      · have hk2 : k = n := by omega
        exact wp_ret rfl rfl rfl ⟨_, rfl, by rw [hk2] at hH; exact hH, hF⟩
      · refine wp_n 3 (pc' := 18) (L' := [(2, 127), (0, ((r : Nat) : Int)), (0, f), (0, ((n : Nat) : Int)), (0, ((k : Nat) : Int))]) (st' := [(0, f), (0, ((r : Nat) : Int)), (2, 127)]) (g' := h) rfl ?_
        refine wp_cv (as := [(2, 127), (0, ((r : Nat) : Int)), (0, f)]) (rest := []) rfl rfl rfl (Nat.le_of_ble_eq_true rfl) rfl (m_times (r := r) (by omega) (by assumption) (by omega) (by rw [← Int.pow_succ]; exact Int.lt_of_le_of_lt (pow_up hf.1 (show k + 1 ≤ n by omega)) ho)) (by decide) (fun r4 h5 => ?_)
        obtain ⟨g18, rfl, hR18, hF18⟩ := h5
        refine wp_eq (L' := [(2, 127), (0, ((r : Nat) : Int)), (0, f), (0, ((n : Nat) : Int)), (0, ((k : Nat) : Int))]) (st' := []) (g' := g18) ?_
        refine wp_n 2 (pc' := 9) (L' := [(2, 127), (0, ((r : Nat) : Int)), (0, f), (0, ((n : Nat) : Int)), (0, (((k : Nat) : Int) + 1))]) (st' := []) (g' := g18) rfl ?_
        refine wp_eq (ih9 (k + 1) (g18) ?_ ?_ ?_ ?_) (by first | rfl | (simp; done) | (simp; omega)) (by rfl) (by rfl)
        · omega
        · omega
        · rw [Int.pow_succ]; exact hR18
        · exact hF.trans hF18
  refine wp_eq (L9 (_ + 1) (0) (g3) (Nat.lt_succ_self _) ?_ ?_ ?_) (by first | rfl | (simp; done) | (simp; omega)) (by rfl) (by rfl)
  · exact Nat.zero_le _
  · rw [Int.pow_zero]; exact hR3
  · exact hF3
