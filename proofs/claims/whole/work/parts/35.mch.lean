/-! THE REFERENCE: tries and tails -/
def FrR (lo hi : Nat) (g h : am_G) : Prop := ∀ c j, (c = 136 → j < 100 * lo ∨ 100 * hi ≤ j) → h c j = g c j
theorem FrR.rfl {lo hi : Nat} {g : am_G} : FrR lo hi g g := fun _ _ _ => Eq.refl _
theorem FrR.m {lo hi r : Nat} {g h i : am_G} (h1 : FrR lo hi g h) (h2 : FrM r h i) (h3 : lo ≤ r) (h4 : r < hi) : FrR lo hi g i := fun c j hc => (h2 c j fun e => by have := hc e; omega).trans (h1 c j hc)
theorem FrR.trans {lo hi : Nat} {g h i : am_G} (h1 : FrR lo hi g h) (h2 : FrR lo hi h i) : FrR lo hi g i := fun c j hc => (h2 c j hc).trans (h1 c j hc)
theorem FrR.wide {lo hi lo' hi' : Nat} {g h : am_G} (h1 : FrR lo hi g h) (h3 : lo' ≤ lo) (h4 : hi ≤ hi') : FrR lo' hi' g h := fun c j hc => h1 c j fun e => by have := hc e; omega
theorem MR.frr {lo hi s : Nat} {g h : am_G} {v : Int} (H : MR g s v) (h1 : FrR lo hi g h) (hs : s < lo ∨ hi ≤ s) : MR h s v := by
  have e : ∀ j, j < 100 → h 136 (100 * s + j) = g 136 (100 * s + j) := fun j hj => h1 136 _ fun _ => by omega
  refine ⟨fun j hj => ?_, ?_⟩
  · rw [e j hj]; exact H.1 j hj
  · rw [← H.2]; exact mval_eq fun j hj => e j hj
def BT (g : am_G) (f : Nat) (p q : Int) (t : Nat) : Prop := ∀ k, k ≤ t → MR g (f + k) (bt p q t k)
def TMI (f : Nat) (p q : Int) (t : Nat) (g h : am_G) (s : Nat) : Prop := s ≤ t + 2 ∧ (∀ k, k ≤ t + 1 → MR h (f + k) (if k < s then bt p q t k else bt p q (t + 1) k)) ∧ FrR f (f + t + 2) g h
theorem tmi_zero {f t : Nat} {p q : Int} {g h : am_G} (H : BT g f p q t) (h1 : MR h (f + t + 1) 0) (h2 : FrM (f + t + 1) g h) : TMI f p q t g h (t + 2) := by
  refine ⟨Nat.le_refl _, fun k hk => ?_, FrR.rfl.m h2 (by omega) (by omega)⟩
  rw [if_pos (by omega)]
  by_cases e : k = t + 1
  · subst e
    rw [bt_gt (Nat.lt_succ_self t)]
    exact h1
  · exact (H k (by omega)).fr h2 (by omega)
theorem tmi_nxt {f t s : Nat} {p q : Int} {g h h' : am_G} (H : TMI f p q t g h s) (hs : 0 < s) (h1 : MR h' (f + (s - 1)) (bt p q (t + 1) (s - 1))) (h2 : FrM (f + (s - 1)) h h') : TMI f p q t g h' (s - 1) := by
  have h0 := H.1
  refine ⟨by omega, fun k hk => ?_, H.2.2.m h2 (by omega) (by omega)⟩
  by_cases e : k = s - 1
  · subst e
    rw [if_neg (by omega)]
    exact h1
  · have := (H.2.1 k hk).fr h2 (by omega)
    by_cases hk2 : k < s
    · rw [if_pos hk2] at this
      rw [if_pos (by omega)]
      exact this
    · rw [if_neg hk2] at this
      rw [if_neg (by omega)]
      exact this
theorem bt_big {p q : Int} {t : Nat} (hp : 0 ≤ p) (hq : 0 ≤ q) (h : p + q ≤ 2001) (ht : t ≤ 60) (k : Nat) : 0 ≤ bt p q t k ∧ bt p q t k ≤ 2001 ^ 60 := ⟨bt_nn hp hq t k, Int.le_trans (bt_le hp hq t k) (pow_2001 (by omega) h ht)⟩
set_option maxHeartbeats 400000 in
set_option maxRecDepth 20000 in
theorem m_tryMore {sn : Nat} {sx : Nat → Int} {b : Nat} {g : am_G} {f t : Nat} {p q : Int} (hf : f + t + 1 < 130) (ht : t < 60) (hp : 0 ≤ p ∧ p ≤ 1000) (hq : p ≤ q ∧ q ≤ 1000) (hB : BT g f p (q - p) t) : Ev sn sx 2 212 [(2, 127), (0, ((f : Nat) : Int)), (0, ((t : Nat) : Int)), (0, p), (0, q)] (SH b) g (fun x => ∃ g', x = (none, SH b, g') ∧ BT g' f p (q - p) (t + 1) ∧ FrR f (f + t + 2) g g') := by
  refine ev_of (K := 1) T212 (by decide) rfl rfl (Nat.le_of_ble_eq_true rfl) ?_
  refine wp_eq (L' := [(2, 127), (0, ((f : Nat) : Int)), (0, ((t : Nat) : Int)), (0, p), (0, q), (9, 0)]) (st' := []) (g' := g) ?_
  refine wp_n 7 (pc' := 7) (L' := [(2, 127), (0, ((f : Nat) : Int)), (0, ((t : Nat) : Int)), (0, p), (0, q), (9, 0)]) (st' := [(0, 0), (0, ((((f : Nat) : Int) + ((t : Nat) : Int)) + 1)), (2, 127)]) (g' := g) rfl ?_
  refine wp_cv (as := [(2, 127), (0, ((((f : Nat) : Int) + ((t : Nat) : Int)) + 1)), (0, 0)]) (rest := []) rfl rfl rfl (Nat.le_of_ble_eq_true rfl) rfl (m_put (r := ((f + t) + 1)) (by omega) (by omega)) (by decide) (fun r1 h2 => ?_)
  obtain ⟨g7, rfl, hR7, hF7⟩ := h2
  refine wp_eq (L' := [(2, 127), (0, ((f : Nat) : Int)), (0, ((t : Nat) : Int)), (0, p), (0, q), (9, 0)]) (st' := []) (g' := g7) ?_
  refine wp_n 4 (pc' := 15) (L' := [(2, 127), (0, ((f : Nat) : Int)), (0, ((t : Nat) : Int)), (0, p), (0, q), (0, (((t : Nat) : Int) + 1))]) (st' := []) (g' := g7) rfl ?_
  have L15 : ∀ (lf : Nat) (s : Nat) (h : am_G), s < lf → (TMI f p (q - p) t g h s) → Wp sn sx 1 T212 15 [(2, 127), (0, ((f : Nat) : Int)), (0, ((t : Nat) : Int)), (0, p), (0, q), (0, ((s : Int) - 1))] [] (SH b) h (fun x => ∃ g', x = (none, SH b, g') ∧ BT g' f p (q - p) (t + 1) ∧ FrR f (f + t + 2) g g') := by
    intro lf
    induction lf with
    | zero => intro s h hlf; exact absurd hlf (Nat.not_lt_zero _)
    | succ lf ih15 =>
      intro s h hlf hH
      have hs := hH.1
      refine wp_n 1 (pc' := 17) (L' := [(2, 127), (0, ((f : Nat) : Int)), (0, ((t : Nat) : Int)), (0, p), (0, q), (0, ((s : Int) - 1))]) (st' := [(0, ((s : Int) - 1))]) (g' := h) rfl ?_
      refine wp_if_lt rfl (fun c3 => ?_) (fun c3 => ?_)
      · exact wp_ret rfl rfl rfl ⟨_, rfl, fun k hk => by have := hH.2.1 k hk; rw [if_neg (by omega)] at this; exact this, hH.2.2⟩
      · have hk1 := hH.2.1 (s - 1) (by omega)
        rw [if_pos (by omega)] at hk1
        have hb1 := bt_big (p := p) (q := q - p) (t := t) hp.1 (by omega) (by omega) (by omega) (s - 1)
        have hb2 := bt_big (p := p) (q := q - p) (t := t) hp.1 (by omega) (by omega) (by omega) (s - 2)
        have hb3 := Int.mul_le_mul_of_nonneg_left (show q - p ≤ 1000 by omega) hb1.1
        have hb4 := Int.mul_le_mul_of_nonneg_left hp.2 hb2.1
        refine wp_n 4 (pc' := 25) (L' := [(2, 127), (0, ((f : Nat) : Int)), (0, ((t : Nat) : Int)), (0, p), (0, q), (0, ((s : Int) - 1))]) (st' := [(0, (((f : Nat) : Int) + ((s : Int) - 1))), (2, 127)]) (g' := h) rfl ?_
        refine wp_eq (L' := [(2, 127), (0, ((f : Nat) : Int)), (0, ((t : Nat) : Int)), (0, p), (0, q), (0, ((s : Int) - 1))]) (st' := [(0, (((f + (s - 1)) : Nat) : Int)), (2, 127)]) (g' := h) ?_ (by rfl) (by rw [show ((f : Nat) : Int) + ((s : Int) - 1) = (((f + (s - 1)) : Nat) : Int) by omega]) (by rfl)
        refine wp_n 3 (pc' := 29) (L' := [(2, 127), (0, ((f : Nat) : Int)), (0, ((t : Nat) : Int)), (0, p), (0, q), (0, ((s : Int) - 1))]) (st' := [(0, (q - p)), (0, (((f + (s - 1)) : Nat) : Int)), (2, 127)]) (g' := h) rfl ?_
        refine wp_cv (as := [(2, 127), (0, (((f + (s - 1)) : Nat) : Int)), (0, (q - p))]) (rest := []) rfl rfl rfl (Nat.le_of_ble_eq_true rfl) rfl (m_times (r := ((f + (s - 1)))) (by omega) hk1 (by omega) (by omega)) (by decide) (fun r4 h5 => ?_)
        obtain ⟨g29, rfl, hR29, hF29⟩ := h5
        refine wp_eq (L' := [(2, 127), (0, ((f : Nat) : Int)), (0, ((t : Nat) : Int)), (0, p), (0, q), (0, ((s : Int) - 1))]) (st' := []) (g' := g29) ?_
        refine wp_n 1 (pc' := 34) (L' := [(2, 127), (0, ((f : Nat) : Int)), (0, ((t : Nat) : Int)), (0, p), (0, q), (0, ((s : Int) - 1))]) (st' := [(0, ((s : Int) - 1))]) (g' := g29) rfl ?_
        refine wp_if_le rfl (fun c6 => ?_) (fun c6 => ?_)
        · refine wp_n 2 (pc' := 15) (L' := [(2, 127), (0, ((f : Nat) : Int)), (0, ((t : Nat) : Int)), (0, p), (0, q), (0, (((s : Int) - 1) + (-1)))]) (st' := []) (g' := g29) rfl ?_
          refine wp_eq (ih15 (s - 1) (g29) ?_ ?_) (by rw [show ((s - 1 : Nat) : Int) = (s : Int) - 1 by omega]; rfl) (by rfl) (by rfl)
          · omega
          · first | exact tmi_nxt hH (by omega) (by rw [show s - 1 = 0 by omega, bt_0]; rw [show s - 1 = 0 by omega] at hR29; exact hR29) hF29 | exact tmi_nxt hH (by omega) (by rw [show s - 1 = s - 2 + 1 by omega, bt_s]; rw [show s - 1 = s - 2 + 1 by omega] at hR49; exact hR49) (hF29.trans hF49)
        · have hk2 := hH.2.1 (s - 2) (by omega)
          rw [if_pos (by omega)] at hk2
          refine wp_n 4 (pc' := 42) (L' := [(2, 127), (0, ((f : Nat) : Int)), (0, ((t : Nat) : Int)), (0, p), (0, q), (0, ((s : Int) - 1))]) (st' := [(0, (((f : Nat) : Int) + ((s : Int) - 1))), (2, 127)]) (g' := g29) rfl ?_
          refine wp_eq (L' := [(2, 127), (0, ((f : Nat) : Int)), (0, ((t : Nat) : Int)), (0, p), (0, q), (0, ((s : Int) - 1))]) (st' := [(0, (((f + (s - 1)) : Nat) : Int)), (2, 127)]) (g' := g29) ?_ (by rfl) (by rw [show ((f : Nat) : Int) + ((s : Int) - 1) = (((f + (s - 1)) : Nat) : Int) by omega]) (by rfl)
          refine wp_n 3 (pc' := 46) (L' := [(2, 127), (0, ((f : Nat) : Int)), (0, ((t : Nat) : Int)), (0, p), (0, q), (0, ((s : Int) - 1))]) (st' := [(0, (((f : Nat) : Int) + ((s : Int) - 1))), (0, (((f + (s - 1)) : Nat) : Int)), (2, 127)]) (g' := g29) rfl ?_
          refine wp_eq (L' := [(2, 127), (0, ((f : Nat) : Int)), (0, ((t : Nat) : Int)), (0, p), (0, q), (0, ((s : Int) - 1))]) (st' := [(0, (((f + (s - 1)) : Nat) : Int)), (0, (((f + (s - 1)) : Nat) : Int)), (2, 127)]) (g' := g29) ?_ (by rfl) (by rw [show ((f : Nat) : Int) + ((s : Int) - 1) = (((f + (s - 1)) : Nat) : Int) by omega]) (by rfl)
          refine wp_n 2 (pc' := 48) (L' := [(2, 127), (0, ((f : Nat) : Int)), (0, ((t : Nat) : Int)), (0, p), (0, q), (0, ((s : Int) - 1))]) (st' := [(0, ((((f + (s - 1)) : Nat) : Int) - 1)), (0, (((f + (s - 1)) : Nat) : Int)), (2, 127)]) (g' := g29) rfl ?_
          refine wp_eq (L' := [(2, 127), (0, ((f : Nat) : Int)), (0, ((t : Nat) : Int)), (0, p), (0, q), (0, ((s : Int) - 1))]) (st' := [(0, (((f + (s - 2)) : Nat) : Int)), (0, (((f + (s - 1)) : Nat) : Int)), (2, 127)]) (g' := g29) ?_ (by rfl) (by rw [show (((f + (s - 1)) : Nat) : Int) - 1 = (((f + (s - 2)) : Nat) : Int) by omega]) (by rfl)
          refine wp_n 1 (pc' := 49) (L' := [(2, 127), (0, ((f : Nat) : Int)), (0, ((t : Nat) : Int)), (0, p), (0, q), (0, ((s : Int) - 1))]) (st' := [(0, p), (0, (((f + (s - 2)) : Nat) : Int)), (0, (((f + (s - 1)) : Nat) : Int)), (2, 127)]) (g' := g29) rfl ?_
          refine wp_cv (as := [(2, 127), (0, (((f + (s - 1)) : Nat) : Int)), (0, (((f + (s - 2)) : Nat) : Int)), (0, p)]) (rest := []) rfl rfl rfl (Nat.le_of_ble_eq_true rfl) rfl (m_add (r := ((f + (s - 1)))) (s := ((f + (s - 2)))) (by omega) (by omega) (by omega) hR29 (hk2.fr hF29 (by omega)) (by omega) (by omega)) (by decide) (fun r7 h8 => ?_)
          obtain ⟨g49, rfl, hR49, hF49⟩ := h8
          refine wp_eq (L' := [(2, 127), (0, ((f : Nat) : Int)), (0, ((t : Nat) : Int)), (0, p), (0, q), (0, ((s : Int) - 1))]) (st' := []) (g' := g49) ?_
          refine wp_n 2 (pc' := 15) (L' := [(2, 127), (0, ((f : Nat) : Int)), (0, ((t : Nat) : Int)), (0, p), (0, q), (0, (((s : Int) - 1) + (-1)))]) (st' := []) (g' := g49) rfl ?_
          refine wp_eq (ih15 (s - 1) (g49) ?_ ?_) (by rw [show ((s - 1 : Nat) : Int) = (s : Int) - 1 by omega]; rfl) (by rfl) (by rfl)
          · omega
          · first | exact tmi_nxt hH (by omega) (by rw [show s - 1 = 0 by omega, bt_0]; rw [show s - 1 = 0 by omega] at hR29; exact hR29) hF29 | exact tmi_nxt hH (by omega) (by rw [show s - 1 = s - 2 + 1 by omega, bt_s]; rw [show s - 1 = s - 2 + 1 by omega] at hR49; exact hR49) (hF29.trans hF49)
  refine wp_eq (L15 (_ + 1) (t + 2) (g7) (Nat.lt_succ_self _) ?_) (by rw [show ((t + 2 : Nat) : Int) - 1 = ((t : Nat) : Int) + 1 by omega]) (by rfl) (by rfl)
  · exact tmi_zero hB hR7 hF7
