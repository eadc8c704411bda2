/-! A RUN OF A WAY: both sides -/
theorem rstep_c {c c' : am_G} {P : Nat} {t f : Int} {S : Nat → Int} (h : ∀ a j, 6 ≤ a → a ≤ 9 → c' a j = c a j) (h10 : c' 10 16 = c 10 16) : rstep c' P t f S = rstep c P t f S := by
  have e7 : c' 7 = c 7 := funext fun j => h 7 j (by omega) (by omega)
  have e8 : c' 8 = c 8 := funext fun j => h 8 j (by omega) (by omega)
  have e9 : c' 9 = c 9 := funext fun j => h 9 j (by omega) (by omega)
  have a1 : rst c' P t S = rst c P t S := tv_c e7 e8 e9
  have a2 : ron c' P t S = ron c P t S := tv_c e7 e8 e9
  have a3 : rsk c' P t S = rsk c P t S := by unfold rsk; rw [a1, a2]
  have b1 : rpu c' P t f S = rpu c P t f S := by unfold rpu; rw [a2, a3, h10]
  have b2 : rlo c' P t f S = rlo c P t f S := by unfold rlo; rw [a2, a3]
  have b3 : rwo c' P t f S = rwo c P t f S := by unfold rwo; rw [a2, a3]
  funext i
  unfold rstep
  rw [b1, b2, b3]
theorem rs_s (c : am_G) (P : Nat) (t e a p : Int) (n : Nat) : rs c P t e a p (n + 1) = if c 11 n = e ∧ c 12 n = a ∧ c 14 n ≠ -1 then rstep c P t (c 14 n) (rs c P t e a p n) else rs c P t e a p n := rfl
theorem rini_j (p : Int) (j : Nat) : rini p (100 + j) = 0 := by unfold rini; rw [if_neg (by omega), if_neg (by omega), if_neg (by omega)]
def RuD (c : am_G) (t e a p x : Int) : Prop := 0 ≤ t ∧ t < c 6 3 ∧ 0 ≤ e ∧ e ≤ 3 ∧ 0 ≤ a ∧ a ≤ 2 ∧ 1 ≤ p ∧ p ≤ 9999 ∧ 0 ≤ x ∧ x ≤ 2
def ruV (c : am_G) (P : Nat) (t e a p x : Int) : Int := if x = 0 then rs c P t e a p (c 10 4).toNat 5 else if x = 1 then rs c P t e a p (c 10 4).toNat 11 else rs c P t e a p (c 10 4).toNat 10
def RuA (c : am_G) (P : Nat) (t e a p x v : Int) : Prop := (RuD c t e a p x ∧ v = ruV c P t e a p x) ∨ (¬ RuD c t e a p x ∧ v = -1)
set_option maxHeartbeats 400000 in
set_option maxRecDepth 20000 in
theorem e_play {sn : Nat} {sx : Nat → Int} {b : Nat} {g : am_G} {P : Nat} {t e a p : Int} (hI : CInv P g) (ht : 0 ≤ t ∧ t < g 6 3) (he : R32 e) (ha : R32 a) (hp : 1 ≤ p ∧ p ≤ 9999) : Ev sn sx 7 52 [(2, 54), (2, 10), (0, t), (0, e), (0, a), (0, p)] (SH b) g (fun r => ∃ g', r = (none, SH b, g') ∧ PRep g' (rs g P t e a p (g 10 4).toNat) ∧ FrQ g g') := by
  have h5 := hI.ck.1
  have hn := hI.rg.r10_6 4 rfl
  refine ev_of (K := 6) T52 (by decide) rfl rfl (Nat.le_of_ble_eq_true rfl) ?_
  refine wp_eq (L' := [(2, 54), (2, 10), (0, t), (0, e), (0, a), (0, p), (9, 0)]) (st' := []) (g' := g) ?_
  refine wp_n 28 (pc' := 50) (L' := [(2, 54), (2, 10), (0, t), (0, e), (0, a), (0, p), (9, 0)]) (st' := [(0, 0), (2, 55)]) (g' := (am_up (am_up (am_up (am_up (am_up (am_up (am_up (am_up g 54 4 t) 54 5 (g 10 16)) 54 9 p) 54 10 p) 54 11 0) 54 8 0) 54 6 0) 54 7 (-1))) rfl ?_
  refine wp_cs (as := [(2, 55), (0, 0)]) (rest := []) rfl (by decide) rfl (Nat.le_of_ble_eq_true rfl) (e_fill (k := 55) rfl) (by decide) (fun r1 h2 => ?_)
  obtain ⟨g50, rfl, hZ50, hF50⟩ := h2
  refine wp_eq (L' := [(2, 54), (2, 10), (0, t), (0, e), (0, a), (0, p), (9, 0)]) (st' := []) (g' := g50) ?_
  refine wp_n 2 (pc' := 56) (L' := [(2, 54), (2, 10), (0, t), (0, e), (0, a), (0, p), (0, 0)]) (st' := []) (g' := g50) rfl ?_
  have L56 : ∀ (lf : Nat) (i : Nat) (h : am_G), (g 10 4).toNat - i < lf → (i ≤ (g 10 4).toNat) → (PRep h (rs g P t e a p i)) → (h 54 4 = t) → (h 54 5 = g 10 16) → (FrQ g h) → Wp sn sx 6 T52 56 [(2, 54), (2, 10), (0, t), (0, e), (0, a), (0, p), (0, ((i : Nat) : Int))] [] (SH b) h (fun r => ∃ g', r = (none, SH b, g') ∧ PRep g' (rs g P t e a p (g 10 4).toNat) ∧ FrQ g g') := by
    intro lf
    induction lf with
    | zero => intro i h hlf; exact absurd hlf (Nat.not_lt_zero _)
    | succ lf ih56 =>
      intro i h hlf hi hR h4 h55 hF
      refine wp_n 3 (pc' := 62) (L' := [(2, 54), (2, 10), (0, t), (0, e), (0, a), (0, p), (0, ((i : Nat) : Int))]) (st' := [(0, (h 10 4)), (0, ((i : Nat) : Int))]) (g' := h) rfl ?_
      refine wp_eq (L' := [(2, 54), (2, 10), (0, t), (0, e), (0, a), (0, p), (0, ((i : Nat) : Int))]) (st' := [(0, (g 10 4)), (0, ((i : Nat) : Int))]) (g' := h) ?_ (by rfl) (by rw [hF 10 4 (by unfold Sq; omega)]) (by rfl)
      refine wp_ic_ge rfl (fun c3 => ?_) (fun c3 => ?_)
      · have hk2 : i = (g 10 4).toNat := by omega
        exact wp_ret rfl rfl rfl ⟨_, rfl, by rw [← hk2]; exact hR, hF⟩
      · have hRg : Rng P 0 h := hI.rg.same fun c j q1 q2 => hF c j (by unfold Sq; omega)
        have hIh := hI.keepQ hF
        have hri := rs_in (t := t) (e := e) (a := a) hI hp i (by omega)
        have hfr := hI.rg.r14_13 i (by omega)
        refine wp_n 4 (pc' := 71) (L' := [(2, 54), (2, 10), (0, t), (0, e), (0, a), (0, p), (0, ((i : Nat) : Int))]) (st' := [(0, a), (0, e), (0, ((i : Nat) : Int)), (2, 10)]) (g' := h) rfl ?_
        refine wp_cv (as := [(2, 10), (0, ((i : Nat) : Int)), (0, e), (0, a)]) (rest := []) rfl rfl rfl (Nat.le_of_ble_eq_true rfl) rfl (e_fellAt (P := P) (i := i) hRg h5 (by omega) (by omega) (by omega)) (by decide) (fun r4 h5 => ?_)
        rcases h5 with ⟨rfl, p71⟩ | ⟨rfl, p71⟩
        · rw [hF 11 i (by unfold Sq; omega), hF 12 i (by unfold Sq; omega), hF 14 i (by unfold Sq; omega)] at p71
          refine wp_eq (L' := [(2, 54), (2, 10), (0, t), (0, e), (0, a), (0, p), (0, ((i : Nat) : Int))]) (st' := [(0, 1)]) (g' := h) ?_
          refine wp_n 5 (pc' := 84) (L' := [(2, 54), (2, 10), (0, t), (0, e), (0, a), (0, p), (0, ((i : Nat) : Int))]) (st' := [(0, ((i : Nat) : Int)), (2, 14), (2, 54)]) (g' := h) rfl ?_
          refine wp_iald (k := 14) (i) rfl rfl (by omega) (by omega) (by decide) ?_
          refine wp_eq (L' := [(2, 54), (2, 10), (0, t), (0, e), (0, a), (0, p), (0, ((i : Nat) : Int))]) (st' := [(0, (g 14 i)), (2, 54)]) (g' := h) ?_ (by rfl) (by rw [hF 14 i (by unfold Sq; omega)]) (by rfl)
          refine wp_cv (as := [(2, 54), (0, (g 14 i))]) (rest := []) rfl rfl rfl (Nat.le_of_ble_eq_true rfl) rfl (e_stakeOn (P := P) (n := i) (S := rs g P t e a p i) (t := t) hIh (by omega) hri hR (by omega) h4 (by rw [hF 6 3 (by unfold Sq; omega)]; exact ht) (by rw [h55, hF 10 16 (by unfold Sq; omega)])) (by decide) (fun r6 h7 => ?_)
          obtain ⟨g85, rfl, hA85, hT85, hY85, hF85⟩ := h7
          refine wp_eq (L' := [(2, 54), (2, 10), (0, t), (0, e), (0, a), (0, p), (0, ((i : Nat) : Int))]) (st' := []) (g' := g85) ?_
          refine wp_n 2 (pc' := 56) (L' := [(2, 54), (2, 10), (0, t), (0, e), (0, a), (0, p), (0, (((i : Nat) : Int) + 1))]) (st' := []) (g' := g85) rfl ?_
          refine wp_eq (ih56 (i + 1) (g85) ?_ ?_ ?_ ?_ ?_ ?_) (by first | rfl | (simp; done) | (simp; omega)) (by rfl) (by rfl)
          · omega
          · omega
          · first
            | (rw [rs_s, if_pos p71, ← rstep_c (fun a j q1 q2 => hF a j (by unfold Sq; omega)) (hF 10 16 (by unfold Sq; omega))]; exact hA85)
            | (rw [rs_s, if_neg p71]; exact hR)
          · first | exact hT85 | exact h4
          · first | (rw [hY85]; exact hF 10 16 (by unfold Sq; omega)) | exact h55
          · first | exact hF | exact hF.trans hF85
        · rw [hF 11 i (by unfold Sq; omega), hF 12 i (by unfold Sq; omega), hF 14 i (by unfold Sq; omega)] at p71
          refine wp_eq (L' := [(2, 54), (2, 10), (0, t), (0, e), (0, a), (0, p), (0, ((i : Nat) : Int))]) (st' := [(0, 0)]) (g' := h) ?_
          refine wp_n 3 (pc' := 56) (L' := [(2, 54), (2, 10), (0, t), (0, e), (0, a), (0, p), (0, (((i : Nat) : Int) + 1))]) (st' := []) (g' := h) rfl ?_
          refine wp_eq (ih56 (i + 1) (h) ?_ ?_ ?_ ?_ ?_ ?_) (by first | rfl | (simp; done) | (simp; omega)) (by rfl) (by rfl)
          · omega
          · omega
          · first
            | (rw [rs_s, if_pos p71, ← rstep_c (fun a j q1 q2 => hF a j (by unfold Sq; omega)) (hF 10 16 (by unfold Sq; omega))]; exact hA85)
            | (rw [rs_s, if_neg p71]; exact hR)
          · first | exact hT85 | exact h4
          · first | (rw [hY85]; exact hF 10 16 (by unfold Sq; omega)) | exact h55
          · first | exact hF | exact hF.trans hF85
  refine wp_eq (L56 (_ + 1) (0) (g50) (Nat.lt_succ_self _) ?_ ?_ ?_ ?_ ?_) (by first | rfl | (simp; done) | (simp; omega)) (by rfl) (by rfl)
  · exact Nat.zero_le _
  · exact ⟨by rw [hF50 _ _ (by decide), up_no (by omega), up_no (by omega), up_no (by omega), up_no (by omega), up_no (by omega), up_eq]; rfl, by rw [hF50 _ _ (by decide), up_no (by omega), up_eq]; rfl, by rw [hF50 _ _ (by decide), up_eq]; rfl, by rw [hF50 _ _ (by decide), up_no (by omega), up_no (by omega), up_eq]; rfl, by rw [hF50 _ _ (by decide), up_no (by omega), up_no (by omega), up_no (by omega), up_eq]; rfl, by rw [hF50 _ _ (by decide), up_no (by omega), up_no (by omega), up_no (by omega), up_no (by omega), up_eq]; rfl, fun j hj => by rw [hZ50 j hj]; exact (rini_j p j).symm⟩
  · rw [hF50 _ _ (by decide)]; (repeat rw [up_no (by omega)]); rw [up_eq]
  · rw [hF50 _ _ (by decide)]; (repeat rw [up_no (by omega)]); rw [up_eq]
  · exact ((((((((FrQ.rfl.up (by unfold Sq; omega)).up (by unfold Sq; omega)).up (by unfold Sq; omega)).up (by unfold Sq; omega)).up (by unfold Sq; omega)).up (by unfold Sq; omega)).up (by unfold Sq; omega)).up (by unfold Sq; omega)).trans (hF50.q (by decide))
set_option maxHeartbeats 400000 in
set_option maxRecDepth 20000 in
theorem e_run {sn : Nat} {sx : Nat → Int} {b : Nat} {g : am_G} {P : Nat} {t e a p x : Int} (h_t : R32 t) (h_e : R32 e) (h_a : R32 a) (h_p : R32 p) (h_x : R32 x) (hI : CInv P g) : Ev sn sx 8 122 [(2, 0), (0, t), (0, e), (0, a), (0, p), (0, x)] (SH b) g (fun y => ∃ g' v, y = (some (0, v), SH b, g') ∧ RuA g P t e a p x v ∧ FrQ g g') := by
  have hP := hI.ck.2.1
  have h5 := hI.ck.1
  have hn0 := hI.tx.n0
  refine ev_of (K := 7) T122 (by decide) rfl rfl (Nat.le_of_ble_eq_true rfl) ?_
  refine wp_eq (L' := [(2, 0), (0, t), (0, e), (0, a), (0, p), (0, x), (9, 0)]) (st' := []) (g' := g) ?_
  refine wp_n 7 (pc' := 11) (L' := [(2, 0), (0, t), (0, e), (0, a), (0, p), (0, x), (9, 0)]) (st' := [(0, ((g 6 3) - 1)), (0, 0), (0, t)]) (g' := g) rfl ?_
  refine wp_cs (as := [(0, t), (0, 0), (0, ((g 6 3) - 1))]) (rest := []) rfl (by decide) rfl (Nat.le_of_ble_eq_true rfl) (e_within (by omega) (by omega) (by omega)) (by decide) (fun r2 h3 => ?_)
  rcases h3 with ⟨rfl, p1⟩ | ⟨rfl, p1⟩
  · refine wp_eq (L' := [(2, 0), (0, t), (0, e), (0, a), (0, p), (0, x), (9, 0)]) (st' := [(0, 1)]) (g' := g) ?_
    refine wp_n 3 (pc' := 19) (L' := [(2, 0), (0, t), (0, e), (0, a), (0, p), (0, x), (9, 0)]) (st' := [(0, a), (0, e)]) (g' := g) rfl ?_
    refine wp_cs (as := [(0, e), (0, a)]) (rest := []) rfl (by decide) rfl (Nat.le_of_ble_eq_true rfl) (e_isTable (by omega) (by omega)) (by decide) (fun r5 h6 => ?_)
    rcases h6 with ⟨rfl, p4⟩ | ⟨rfl, p4⟩
    · refine wp_eq (L' := [(2, 0), (0, t), (0, e), (0, a), (0, p), (0, x), (9, 0)]) (st' := [(0, 1)]) (g' := g) ?_
      refine wp_n 4 (pc' := 31) (L' := [(2, 0), (0, t), (0, e), (0, a), (0, p), (0, x), (9, 0)]) (st' := [(0, 9999), (0, 1), (0, p)]) (g' := g) rfl ?_
      refine wp_cs (as := [(0, p), (0, 1), (0, 9999)]) (rest := []) rfl (by decide) rfl (Nat.le_of_ble_eq_true rfl) (e_within (by omega) (by omega) (by omega)) (by decide) (fun r8 h9 => ?_)
      rcases h9 with ⟨rfl, p7⟩ | ⟨rfl, p7⟩
      · refine wp_eq (L' := [(2, 0), (0, t), (0, e), (0, a), (0, p), (0, x), (9, 0)]) (st' := [(0, 1)]) (g' := g) ?_
        refine wp_n 4 (pc' := 41) (L' := [(2, 0), (0, t), (0, e), (0, a), (0, p), (0, x), (9, 0)]) (st' := [(0, 2), (0, 0), (0, x)]) (g' := g) rfl ?_
        refine wp_cs (as := [(0, x), (0, 0), (0, 2)]) (rest := []) rfl (by decide) rfl (Nat.le_of_ble_eq_true rfl) (e_within (by omega) (by omega) (by omega)) (by decide) (fun r11 h12 => ?_)
        rcases h12 with ⟨rfl, p10⟩ | ⟨rfl, p10⟩
        · refine wp_eq (L' := [(2, 0), (0, t), (0, e), (0, a), (0, p), (0, x), (9, 0)]) (st' := [(0, 1)]) (g' := g) ?_
          refine wp_n 14 (pc' := 74) (L' := [(2, 0), (0, t), (0, e), (0, a), (0, p), (0, x), (0, 1)]) (st' := [(0, p), (0, a), (0, e), (0, t), (2, 10), (2, 54)]) (g' := g) rfl ?_
          refine wp_cv (as := [(2, 54), (2, 10), (0, t), (0, e), (0, a), (0, p)]) (rest := []) rfl rfl rfl (Nat.le_of_ble_eq_true rfl) rfl (e_play (P := P) hI (by omega) (by omega) (by omega) (by omega)) (by decide) (fun r13 h14 => ?_)
          obtain ⟨g74, rfl, hR74, hF74⟩ := h14
          refine wp_eq (L' := [(2, 0), (0, t), (0, e), (0, a), (0, p), (0, x), (0, 1)]) (st' := []) (g' := g74) ?_
          refine wp_n 1 (pc' := 79) (L' := [(2, 0), (0, t), (0, e), (0, a), (0, p), (0, x), (0, 1)]) (st' := [(0, x)]) (g' := g74) rfl ?_
          refine wp_if_ne rfl (fun c15 => ?_) (fun c15 => ?_)
          · refine wp_n 2 (pc' := 93) (L' := [(2, 0), (0, t), (0, e), (0, a), (0, p), (0, x), (0, 1)]) (st' := [(0, 1), (0, x)]) (g' := g74) rfl ?_
            refine wp_ic_ne rfl (fun c16 => ?_) (fun c16 => ?_)
            · refine wp_n 3 (pc' := 113) (L' := [(2, 0), (0, t), (0, e), (0, a), (0, p), (0, x), (0, 1)]) (st' := [(0, (g74 54 11))]) (g' := g74) rfl ?_
              exact wp_ret rfl rfl rfl ⟨_, _, rfl, Or.inl ⟨by unfold RuD; omega, by unfold ruV; first | (rw [if_pos (by omega)]; exact hR74.1) | (rw [if_neg (by omega), if_pos (by omega)]; exact hR74.2.2.2.2.2.1) | (rw [if_neg (by omega), if_neg (by omega)]; exact hR74.2.2.2.2.1)⟩, hF74⟩
            · refine wp_n 4 (pc' := 113) (L' := [(2, 0), (0, t), (0, e), (0, a), (0, p), (0, x), (0, 1)]) (st' := [(0, (g74 54 10))]) (g' := g74) rfl ?_
              exact wp_ret rfl rfl rfl ⟨_, _, rfl, Or.inl ⟨by unfold RuD; omega, by unfold ruV; first | (rw [if_pos (by omega)]; exact hR74.1) | (rw [if_neg (by omega), if_pos (by omega)]; exact hR74.2.2.2.2.2.1) | (rw [if_neg (by omega), if_neg (by omega)]; exact hR74.2.2.2.2.1)⟩, hF74⟩
          · refine wp_n 3 (pc' := 89) (L' := [(2, 0), (0, t), (0, e), (0, a), (0, p), (0, x), (0, 1)]) (st' := [(0, (g74 54 9))]) (g' := g74) rfl ?_
            exact wp_ret rfl rfl rfl ⟨_, _, rfl, Or.inl ⟨by unfold RuD; omega, by unfold ruV; first | (rw [if_pos (by omega)]; exact hR74.1) | (rw [if_neg (by omega), if_pos (by omega)]; exact hR74.2.2.2.2.2.1) | (rw [if_neg (by omega), if_neg (by omega)]; exact hR74.2.2.2.2.1)⟩, hF74⟩
        · refine wp_eq (L' := [(2, 0), (0, t), (0, e), (0, a), (0, p), (0, x), (9, 0)]) (st' := [(0, 0)]) (g' := g) ?_
          refine wp_n 6 (pc' := 60) (L' := [(2, 0), (0, t), (0, e), (0, a), (0, p), (0, x), (0, 0)]) (st' := [(0, (-1))]) (g' := g) rfl ?_
          exact wp_ret rfl rfl rfl ⟨_, _, rfl, Or.inr ⟨by unfold RuD; omega, rfl⟩, FrQ.rfl⟩
      · refine wp_eq (L' := [(2, 0), (0, t), (0, e), (0, a), (0, p), (0, x), (9, 0)]) (st' := [(0, 0)]) (g' := g) ?_
        refine wp_n 6 (pc' := 60) (L' := [(2, 0), (0, t), (0, e), (0, a), (0, p), (0, x), (0, 0)]) (st' := [(0, (-1))]) (g' := g) rfl ?_
        exact wp_ret rfl rfl rfl ⟨_, _, rfl, Or.inr ⟨by unfold RuD; omega, rfl⟩, FrQ.rfl⟩
    · refine wp_eq (L' := [(2, 0), (0, t), (0, e), (0, a), (0, p), (0, x), (9, 0)]) (st' := [(0, 0)]) (g' := g) ?_
      refine wp_n 6 (pc' := 60) (L' := [(2, 0), (0, t), (0, e), (0, a), (0, p), (0, x), (0, 0)]) (st' := [(0, (-1))]) (g' := g) rfl ?_
      exact wp_ret rfl rfl rfl ⟨_, _, rfl, Or.inr ⟨by unfold RuD; omega, rfl⟩, FrQ.rfl⟩
  · refine wp_eq (L' := [(2, 0), (0, t), (0, e), (0, a), (0, p), (0, x), (9, 0)]) (st' := [(0, 0)]) (g' := g) ?_
    refine wp_n 6 (pc' := 60) (L' := [(2, 0), (0, t), (0, e), (0, a), (0, p), (0, x), (0, 0)]) (st' := [(0, (-1))]) (g' := g) rfl ?_
    exact wp_ret rfl rfl rfl ⟨_, _, rfl, Or.inr ⟨by unfold RuD; omega, rfl⟩, FrQ.rfl⟩
/-- the pocket that came oftenest, as the reference looks for it -/
def bmx (S : Nat → Int) : Nat → Int
  | 0 => -1
  | k + 1 => if 0 < S (100 + k) ∧ (bmx S k < 0 ∨ S (100 + (bmx S k).toNat) < S (100 + k)) then (k : Int) else bmx S k
theorem bmx_s (S : Nat → Int) (k : Nat) : bmx S (k + 1) = if 0 < S (100 + k) ∧ (bmx S k < 0 ∨ S (100 + (bmx S k).toNat) < S (100 + k)) then (k : Int) else bmx S k := rfl
theorem bmx_in (S : Nat → Int) (k : Nat) : -1 ≤ bmx S k ∧ bmx S k < (k : Int) := by
  induction k with
  | zero => exact ⟨Int.le_refl _, by show (-1 : Int) < 0; decide⟩
  | succ k ih => rw [bmx_s]; split <;> omega
theorem bmx_g {S : Nat → Int} (h0 : ∀ j, j < 37 → 0 ≤ S (100 + j)) : ∀ k, k < 37 → (bmx S (k + 1) = -1 ∧ S (100 + gmx (fun j => S (100 + j)) k) = 0 ∧ ∀ j, j ≤ k → S (100 + j) = 0) ∨ (bmx S (k + 1) = (gmx (fun j => S (100 + j)) k : Int) ∧ 0 < S (100 + gmx (fun j => S (100 + j)) k)) := by
  intro k
  induction k with
  | zero =>
    intro _
    have h := h0 0 (by decide)
    rw [bmx_s]
    by_cases q : 0 < S (100 + 0)
    · right
      exact ⟨if_pos ⟨q, Or.inl (by show (-1 : Int) < 0; decide)⟩, q⟩
    · left
      have q0 : S (100 + 0) = 0 := by omega
      exact ⟨if_neg fun e => q e.1, q0, fun j hj => by rw [show j = 0 by omega]; exact q0⟩
  | succ k ih =>
    intro hk
    have h := h0 (k + 1) hk
    rw [bmx_s, gmx_s]
    rcases ih (by omega) with ⟨a1, a2, a3⟩ | ⟨a1, a2⟩
    · rw [a1]
      by_cases q : 0 < S (100 + (k + 1))
      · right
        rw [if_pos ⟨q, Or.inl (by decide)⟩, if_pos (by show S (100 + gmx (fun j => S (100 + j)) k) < S (100 + (k + 1)); omega)]
        exact ⟨rfl, q⟩
      · left
        rw [if_neg fun e => q e.1, if_neg (by show ¬ S (100 + gmx (fun j => S (100 + j)) k) < S (100 + (k + 1)); omega)]
        refine ⟨rfl, a2, fun j hj => ?_⟩
        by_cases e : j = k + 1
        · subst e; omega
        · exact a3 j (by omega)
    · rw [a1, Int.toNat_natCast]
      right
      by_cases q : S (100 + gmx (fun j => S (100 + j)) k) < S (100 + (k + 1))
      · rw [if_pos ⟨by omega, Or.inr q⟩, if_pos (show (fun j => S (100 + j)) (gmx (fun j => S (100 + j)) k) < (fun j => S (100 + j)) (k + 1) from q)]
        exact ⟨rfl, by omega⟩
      · rw [if_neg (fun e => by rcases e.2 with e | e; omega; exact q e), if_neg (show ¬ (fun j => S (100 + j)) (gmx (fun j => S (100 + j)) k) < (fun j => S (100 + j)) (k + 1) from q)]
        exact ⟨rfl, a2⟩
theorem bmx_rmo {P n : Nat} {S : Nat → Int} (h5 : 5 ≤ P ∧ P ≤ 37) (h : RunI P n S) : bmx S P = rmo P S := by
  obtain ⟨a1, a2, a3, a4, a5, a6, a7, a8, a9⟩ := h
  have hg := bmx_g (fun j hj => (a7 j hj).1) (P - 1) (by clear a8 a9; omega)
  rw [show P - 1 + 1 = P by clear a8 a9; omega] at hg
  unfold rmo
  by_cases q : S 6 = 0
  · rw [if_pos q]
    rcases hg with ⟨b1, -⟩ | ⟨b1, b2⟩
    · exact b1
    · have hl := gmx_le (fun j => S (100 + j)) (P - 1)
      have := a9 q (gmx (fun j => S (100 + j)) (P - 1)) (by clear a8 a9; omega)
      clear a8 a9
      omega
  · rw [if_neg q]
    rcases hg with ⟨b1, b2, b3⟩ | ⟨b1, b2⟩
    · obtain ⟨j, j1, j2⟩ := a8 q
      have := b3 j (by clear a8 a9; omega)
      clear a8 a9
      omega
    · exact b1
set_option maxHeartbeats 4000000 in
set_option maxRecDepth 20000 in
theorem m_run {sn : Nat} {sx : Nat → Int} {b : Nat} {g : am_G} {c : am_G} {P : Nat} {t e a p x : Int} (h_t : R32 t) (h_e : R32 e) (h_a : R32 a) (h_p : R32 p) (h_x : R32 x) (hI : CInv P c) (hM : MRel c g) : Ev sn sx 5 243 [(2, 127), (0, t), (0, e), (0, a), (0, p), (0, x)] (SH b) g (fun y => ∃ g' v, y = (some (0, v), SH b, g') ∧ RuA c P t e a p x v ∧ FrN g g') := by
  have h5 := hI.ck.1
  have hP : g 127 0 = (P : Int) := hM.n.trans hI.ck.2.1
  have hn0 := hI.tx.n0
  have hn := hI.rg.r10_6 4 rfl
  obtain ⟨y, hy⟩ : ∃ y, c 10 16 = y := ⟨_, rfl⟩
  have hyr := hI.rg.r10_9 16 rfl
  rw [hy] at hyr
  refine ev_of (K := 4) T243 (by decide) rfl rfl (Nat.le_of_ble_eq_true rfl) ?_
  refine wp_eq (L' := [(2, 127), (0, t), (0, e), (0, a), (0, p), (0, x), (9, 0), (9, 0), (9, 0), (9, 0), (9, 0)]) (st' := []) (g' := g) ?_
  refine wp_n 5 (pc' := 7) (L' := [(2, 127), (0, t), (0, e), (0, a), (0, p), (0, x), (9, 0), (9, 0), (9, 0), (9, 0), (9, 0)]) (st' := [(0, 0), (2, 128), (0, 0), (0, t)]) (g' := g) rfl ?_
  refine wp_iald (k := 128) (0) rfl rfl (by omega) (by omega) (by decide) ?_
  refine wp_eq (L' := [(2, 127), (0, t), (0, e), (0, a), (0, p), (0, x), (9, 0), (9, 0), (9, 0), (9, 0), (9, 0)]) (st' := [(0, (c 6 3)), (0, 0), (0, t)]) (g' := g) ?_ (by rfl) (by rw [hM.texts]) (by rfl)
  refine wp_n 2 (pc' := 10) (L' := [(2, 127), (0, t), (0, e), (0, a), (0, p), (0, x), (9, 0), (9, 0), (9, 0), (9, 0), (9, 0)]) (st' := [(0, ((c 6 3) - 1)), (0, 0), (0, t)]) (g' := g) rfl ?_
  refine wp_cs (as := [(0, t), (0, 0), (0, ((c 6 3) - 1))]) (rest := []) rfl (by decide) rfl (Nat.le_of_ble_eq_true rfl) (e_isIn (by omega) (by omega) (by omega)) (by decide) (fun r2 h3 => ?_)
  rcases h3 with ⟨rfl, p1⟩ | ⟨rfl, p1⟩
  · refine wp_eq (L' := [(2, 127), (0, t), (0, e), (0, a), (0, p), (0, x), (9, 0), (9, 0), (9, 0), (9, 0), (9, 0)]) (st' := [(0, 1)]) (g' := g) ?_
    refine wp_n 4 (pc' := 19) (L' := [(2, 127), (0, t), (0, e), (0, a), (0, p), (0, x), (9, 0), (9, 0), (9, 0), (9, 0), (9, 0)]) (st' := [(0, 3), (0, 0), (0, e)]) (g' := g) rfl ?_
    refine wp_cs (as := [(0, e), (0, 0), (0, 3)]) (rest := []) rfl (by decide) rfl (Nat.le_of_ble_eq_true rfl) (e_isIn (by omega) (by omega) (by omega)) (by decide) (fun r5 h6 => ?_)
    rcases h6 with ⟨rfl, p4⟩ | ⟨rfl, p4⟩
    · refine wp_eq (L' := [(2, 127), (0, t), (0, e), (0, a), (0, p), (0, x), (9, 0), (9, 0), (9, 0), (9, 0), (9, 0)]) (st' := [(0, 1)]) (g' := g) ?_
      refine wp_n 4 (pc' := 28) (L' := [(2, 127), (0, t), (0, e), (0, a), (0, p), (0, x), (9, 0), (9, 0), (9, 0), (9, 0), (9, 0)]) (st' := [(0, 2), (0, 0), (0, a)]) (g' := g) rfl ?_
      refine wp_cs (as := [(0, a), (0, 0), (0, 2)]) (rest := []) rfl (by decide) rfl (Nat.le_of_ble_eq_true rfl) (e_isIn (by omega) (by omega) (by omega)) (by decide) (fun r8 h9 => ?_)
      rcases h9 with ⟨rfl, p7⟩ | ⟨rfl, p7⟩
      · refine wp_eq (L' := [(2, 127), (0, t), (0, e), (0, a), (0, p), (0, x), (9, 0), (9, 0), (9, 0), (9, 0), (9, 0)]) (st' := [(0, 1)]) (g' := g) ?_
        refine wp_n 4 (pc' := 40) (L' := [(2, 127), (0, t), (0, e), (0, a), (0, p), (0, x), (9, 0), (9, 0), (9, 0), (9, 0), (9, 0)]) (st' := [(0, 9999), (0, 1), (0, p)]) (g' := g) rfl ?_
        refine wp_cs (as := [(0, p), (0, 1), (0, 9999)]) (rest := []) rfl (by decide) rfl (Nat.le_of_ble_eq_true rfl) (e_isIn (by omega) (by omega) (by omega)) (by decide) (fun r11 h12 => ?_)
        rcases h12 with ⟨rfl, p10⟩ | ⟨rfl, p10⟩
        · refine wp_eq (L' := [(2, 127), (0, t), (0, e), (0, a), (0, p), (0, x), (9, 0), (9, 0), (9, 0), (9, 0), (9, 0)]) (st' := [(0, 1)]) (g' := g) ?_
          refine wp_n 4 (pc' := 50) (L' := [(2, 127), (0, t), (0, e), (0, a), (0, p), (0, x), (9, 0), (9, 0), (9, 0), (9, 0), (9, 0)]) (st' := [(0, 2), (0, 0), (0, x)]) (g' := g) rfl ?_
          refine wp_cs (as := [(0, x), (0, 0), (0, 2)]) (rest := []) rfl (by decide) rfl (Nat.le_of_ble_eq_true rfl) (e_isIn (by omega) (by omega) (by omega)) (by decide) (fun r14 h15 => ?_)
          rcases h15 with ⟨rfl, p13⟩ | ⟨rfl, p13⟩
          · refine wp_eq (L' := [(2, 127), (0, t), (0, e), (0, a), (0, p), (0, x), (9, 0), (9, 0), (9, 0), (9, 0), (9, 0)]) (st' := [(0, 1)]) (g' := g) ?_
            refine wp_n 3 (pc' := 61) (L' := [(2, 127), (0, t), (0, e), (0, a), (0, p), (0, x), (0, 0), (9, 0), (9, 0), (9, 0), (9, 0)]) (st' := []) (g' := g) rfl ?_
            have L61 : ∀ (lf : Nat) (i : Nat) (h : am_G), 37 - i < lf → (i ≤ 37) → (∀ j, j < i → h 143 j = 0) → (FrN g h) → Wp sn sx 4 T243 61 [(2, 127), (0, t), (0, e), (0, a), (0, p), (0, x), (0, ((i : Nat) : Int)), (9, 0), (9, 0), (9, 0), (9, 0)] [] (SH b) h (fun y => ∃ g' v, y = (some (0, v), SH b, g') ∧ RuA c P t e a p x v ∧ FrN g g') := by
              intro lf
              induction lf with
              | zero => intro i h hlf; exact absurd hlf (Nat.not_lt_zero _)
              | succ lf ih61 =>
                intro i h hlf hi hH hF
                refine wp_n 2 (pc' := 65) (L' := [(2, 127), (0, t), (0, e), (0, a), (0, p), (0, x), (0, ((i : Nat) : Int)), (9, 0), (9, 0), (9, 0), (9, 0)]) (st' := [(0, 37), (0, ((i : Nat) : Int))]) (g' := h) rfl ?_
                refine wp_ic_ge rfl (fun c16 => ?_) (fun c16 => ?_)
                · refine wp_n 6 (pc' := 93) (L' := [(2, 127), (0, t), (0, e), (0, a), (0, p), (0, x), (0, p), (9, 0), (9, 0), (9, 0), (9, 0)]) (st' := [(0, p), (0, 5), (2, 133)]) (g' := h) rfl ?_
                  refine wp_iast (k := 133) (5) rfl rfl (by omega) (by omega) (by decide) ?_
                  refine wp_n 4 (pc' := 101) (L' := [(2, 127), (0, t), (0, e), (0, a), (0, p), (0, x), (0, p), (9, 0), (9, 0), (9, 0), (9, 0)]) (st' := [(0, 0), (0, 6), (2, 133)]) (g' := (am_up h 133 5 p)) rfl ?_
                  refine wp_iast (k := 133) (6) rfl rfl (by omega) (by omega) (by decide) ?_
                  refine wp_n 4 (pc' := 109) (L' := [(2, 127), (0, t), (0, e), (0, a), (0, p), (0, x), (0, p), (9, 0), (9, 0), (9, 0), (9, 0)]) (st' := [(0, (-1)), (0, 7), (2, 133)]) (g' := (am_up (am_up h 133 5 p) 133 6 0)) rfl ?_
                  refine wp_iast (k := 133) (7) rfl rfl (by omega) (by omega) (by decide) ?_
                  refine wp_n 4 (pc' := 117) (L' := [(2, 127), (0, t), (0, e), (0, a), (0, p), (0, x), (0, p), (9, 0), (9, 0), (9, 0), (9, 0)]) (st' := [(0, 0), (0, 8), (2, 133)]) (g' := (am_up (am_up (am_up h 133 5 p) 133 6 0) 133 7 (-1))) rfl ?_
                  refine wp_iast (k := 133) (8) rfl rfl (by omega) (by omega) (by decide) ?_
                  refine wp_n 4 (pc' := 125) (L' := [(2, 127), (0, t), (0, e), (0, a), (0, p), (0, x), (0, p), (9, 0), (9, 0), (9, 0), (9, 0)]) (st' := [(0, 0), (0, 10), (2, 133)]) (g' := (am_up (am_up (am_up (am_up h 133 5 p) 133 6 0) 133 7 (-1)) 133 8 0)) rfl ?_
                  refine wp_iast (k := 133) (10) rfl rfl (by omega) (by omega) (by decide) ?_
                  refine wp_n 2 (pc' := 129) (L' := [(2, 127), (0, t), (0, e), (0, a), (0, p), (0, x), (0, p), (0, 0), (9, 0), (9, 0), (9, 0)]) (st' := []) (g' := (am_up (am_up (am_up (am_up (am_up h 133 5 p) 133 6 0) 133 7 (-1)) 133 8 0) 133 10 0)) rfl ?_
                  have L129 : ∀ (lf : Nat) (i : Nat) (h : am_G) (w8 w9 w10 : am_V), (c 10 4).toNat - i < lf → (i ≤ (c 10 4).toNat) → (h 133 5 = rs c P t e a p i 5) → (h 133 6 = rs c P t e a p i 6) → (h 133 7 = rs c P t e a p i 7) → (h 133 8 = rs c P t e a p i 8) → (h 133 10 = rs c P t e a p i 10) → (∀ j, j < 37 → h 143 j = rs c P t e a p i (100 + j)) → (FrN g h) → Wp sn sx 4 T243 129 [(2, 127), (0, t), (0, e), (0, a), (0, p), (0, x), (0, (rs c P t e a p i 11)), (0, ((i : Nat) : Int)), w8, w9, w10] [] (SH b) h (fun y => ∃ g' v, y = (some (0, v), SH b, g') ∧ RuA c P t e a p x v ∧ FrN g g') := by
                    intro lf
                    induction lf with
                    | zero => intro i h w8 w9 w10 hlf; exact absurd hlf (Nat.not_lt_zero _)
                    | succ lf ih129 =>
                      intro i h w8 w9 w10 hlf hi n5 n6 n7 n8 n10 hc hF
                      have hMh := hM.g_same hF
                      refine wp_n 4 (pc' := 136) (L' := [(2, 127), (0, t), (0, e), (0, a), (0, p), (0, x), (0, (rs c P t e a p i 11)), (0, ((i : Nat) : Int)), w8, w9, w10]) (st' := [(0, 2), (2, 128), (0, ((i : Nat) : Int))]) (g' := h) rfl ?_
                      refine wp_iald (k := 128) (2) rfl rfl (by omega) (by omega) (by decide) ?_
                      refine wp_eq (L' := [(2, 127), (0, t), (0, e), (0, a), (0, p), (0, x), (0, (rs c P t e a p i 11)), (0, ((i : Nat) : Int)), w8, w9, w10]) (st' := [(0, (c 10 4)), (0, ((i : Nat) : Int))]) (g' := h) ?_ (by rfl) (by rw [hMh.written]) (by rfl)
                      refine wp_ic_ge rfl (fun c17 => ?_) (fun c17 => ?_)
                      · have hk2 : i = (c 10 4).toNat := by omega
                        refine wp_n 1 (pc' := 473) (L' := [(2, 127), (0, t), (0, e), (0, a), (0, p), (0, x), (0, (rs c P t e a p i 11)), (0, ((i : Nat) : Int)), w8, w9, w10]) (st' := [(0, x)]) (g' := h) rfl ?_
                        refine wp_if_ne rfl (fun c18 => ?_) (fun c18 => ?_)
                        · refine wp_n 2 (pc' := 488) (L' := [(2, 127), (0, t), (0, e), (0, a), (0, p), (0, x), (0, (rs c P t e a p i 11)), (0, ((i : Nat) : Int)), w8, w9, w10]) (st' := [(0, 1), (0, x)]) (g' := h) rfl ?_
                          refine wp_ic_ne rfl (fun c19 => ?_) (fun c19 => ?_)
                          · refine wp_n 3 (pc' := 502) (L' := [(2, 127), (0, t), (0, e), (0, a), (0, p), (0, x), (0, (rs c P t e a p i 11)), (0, ((i : Nat) : Int)), w8, w9, w10]) (st' := [(0, 10), (2, 133)]) (g' := h) rfl ?_
                            refine wp_iald (k := 133) (10) rfl rfl (by omega) (by omega) (by decide) ?_
                            refine wp_eq (L' := [(2, 127), (0, t), (0, e), (0, a), (0, p), (0, x), (0, (rs c P t e a p i 11)), (0, ((i : Nat) : Int)), w8, w9, w10]) (st' := [(0, (rs c P t e a p (c 10 4).toNat 10))]) (g' := h) ?_ (by rfl) (by rw [← hk2]; rw [n10]) (by rfl)
                            exact wp_ret rfl rfl rfl ⟨_, _, rfl, Or.inl ⟨by unfold RuD; omega, by unfold ruV; first | (rw [if_pos (by omega)]; done) | (rw [if_neg (by omega), if_pos (by omega), ← hk2]; done) | (rw [if_neg (by omega), if_neg (by omega)]; done)⟩, hF⟩
                          · refine wp_n 2 (pc' := 503) (L' := [(2, 127), (0, t), (0, e), (0, a), (0, p), (0, x), (0, (rs c P t e a p i 11)), (0, ((i : Nat) : Int)), w8, w9, w10]) (st' := [(0, (rs c P t e a p i 11))]) (g' := h) rfl ?_
                            exact wp_ret rfl rfl rfl ⟨_, _, rfl, Or.inl ⟨by unfold RuD; omega, by unfold ruV; first | (rw [if_pos (by omega)]; done) | (rw [if_neg (by omega), if_pos (by omega), ← hk2]; done) | (rw [if_neg (by omega), if_neg (by omega)]; done)⟩, hF⟩
                        · refine wp_n 3 (pc' := 481) (L' := [(2, 127), (0, t), (0, e), (0, a), (0, p), (0, x), (0, (rs c P t e a p i 11)), (0, ((i : Nat) : Int)), w8, w9, w10]) (st' := [(0, 5), (2, 133)]) (g' := h) rfl ?_
                          refine wp_iald (k := 133) (5) rfl rfl (by omega) (by omega) (by decide) ?_
                          refine wp_eq (L' := [(2, 127), (0, t), (0, e), (0, a), (0, p), (0, x), (0, (rs c P t e a p i 11)), (0, ((i : Nat) : Int)), w8, w9, w10]) (st' := [(0, (rs c P t e a p (c 10 4).toNat 5))]) (g' := h) ?_ (by rfl) (by rw [← hk2]; rw [n5]) (by rfl)
                          refine wp_n 1 (pc' := 503) (L' := [(2, 127), (0, t), (0, e), (0, a), (0, p), (0, x), (0, (rs c P t e a p i 11)), (0, ((i : Nat) : Int)), w8, w9, w10]) (st' := [(0, (rs c P t e a p (c 10 4).toNat 5))]) (g' := h) rfl ?_
                          exact wp_ret rfl rfl rfl ⟨_, _, rfl, Or.inl ⟨by unfold RuD; omega, by unfold ruV; first | (rw [if_pos (by omega)]; done) | (rw [if_neg (by omega), if_pos (by omega), ← hk2]; done) | (rw [if_neg (by omega), if_neg (by omega)]; done)⟩, hF⟩
                      · have hri := rs_in (t := t) (e := e) (a := a) hI (show 1 ≤ p ∧ p ≤ 9999 by omega) i (by omega)
                        have hfr := hI.rg.r14_13 i (by omega)
                        have hr0 := hri
                        obtain ⟨s1, s2, s3, s4, s5, s6, s7, -, -⟩ := hr0
                        refine wp_n 4 (pc' := 145) (L' := [(2, 127), (0, t), (0, e), (0, a), (0, p), (0, x), (0, (rs c P t e a p i 11)), (0, ((i : Nat) : Int)), w8, w9, w10]) (st' := [(0, a), (0, e), (0, ((i : Nat) : Int)), (2, 127)]) (g' := h) rfl ?_
                        refine wp_cv (as := [(2, 127), (0, ((i : Nat) : Int)), (0, e), (0, a)]) (rest := []) rfl rfl rfl (Nat.le_of_ble_eq_true rfl) rfl (m_isSpin (c := c) (P := P) (i := i) hI.rg hMh h5 (by omega) (by omega) (by omega)) (by decide) (fun r20 h21 => ?_)
                        rcases h21 with ⟨rfl, p145⟩ | ⟨rfl, p145⟩
                        · refine wp_eq (L' := [(2, 127), (0, t), (0, e), (0, a), (0, p), (0, x), (0, (rs c P t e a p i 11)), (0, ((i : Nat) : Int)), w8, w9, w10]) (st' := [(0, 1)]) (g' := h) ?_
                          refine wp_n 5 (pc' := 161) (L' := [(2, 127), (0, t), (0, e), (0, a), (0, p), (0, x), (0, (rs c P t e a p i 11)), (0, ((i : Nat) : Int)), w8, w9, w10]) (st' := [(0, (-1)), (0, 9), (2, 133)]) (g' := h) rfl ?_
                          refine wp_iast (k := 133) (9) rfl rfl (by omega) (by omega) (by decide) ?_
                          refine wp_n 2 (pc' := 165) (L' := [(2, 127), (0, t), (0, e), (0, a), (0, p), (0, x), (0, (rs c P t e a p i 11)), (0, ((i : Nat) : Int)), (0, 0), w9, w10]) (st' := []) (g' := (am_up h 133 9 (-1))) rfl ?_
                          have L165 : ∀ (lf : Nat) (k : Nat) (f : am_G), P - k < lf → (k ≤ P) → (f 133 9 = bmx (rs c P t e a p i) k) → (∀ q j, ¬ (q = 133 ∧ j = 9) → f q j = h q j) → Wp sn sx 4 T243 165 [(2, 127), (0, t), (0, e), (0, a), (0, p), (0, x), (0, (rs c P t e a p i 11)), (0, ((i : Nat) : Int)), (0, ((k : Nat) : Int)), w9, w10] [] (SH b) f (fun y => ∃ g' v, y = (some (0, v), SH b, g') ∧ RuA c P t e a p x v ∧ FrN g g') := by
                            intro lf
                            induction lf with
                            | zero => intro k f hlf; exact absurd hlf (Nat.not_lt_zero _)
                            | succ lf ih165 =>
                              intro k f hlf hk h9 hf
                              refine wp_n 3 (pc' := 171) (L' := [(2, 127), (0, t), (0, e), (0, a), (0, p), (0, x), (0, (rs c P t e a p i 11)), (0, ((i : Nat) : Int)), (0, ((k : Nat) : Int)), w9, w10]) (st' := [(0, (f 127 0)), (0, ((k : Nat) : Int))]) (g' := f) rfl ?_
                              refine wp_eq (L' := [(2, 127), (0, t), (0, e), (0, a), (0, p), (0, x), (0, (rs c P t e a p i 11)), (0, ((i : Nat) : Int)), (0, ((k : Nat) : Int)), w9, w10]) (st' := [(0, ((P : Nat) : Int)), (0, ((k : Nat) : Int))]) (g' := f) ?_ (by rfl) (by rw [hf _ _ (by omega), hF _ _ (by unfold Sm; omega), hP]) (by rfl)
                              refine wp_ic_ge rfl (fun c22 => ?_) (fun c22 => ?_)
                              · have hkP : k = P := by omega
                                have hmo : f 133 9 = rmo P (rs c P t e a p i) := by rw [h9, hkP, bmx_rmo h5 hri]
                                have hFf : FrN g f := fun q j hq => (hf q j (by unfold Sm at hq; omega)).trans (hF q j hq)
                                have hMf := hM.g_same hFf
                                have hNf : ∀ q, 5 ≤ q → q ≤ 10 → f 133 q = rN P (rs c P t e a p i) q := by
                                  intro q a1 a2
                                  rcases (show q = 5 ∨ q = 6 ∨ q = 7 ∨ q = 8 ∨ q = 9 ∨ q = 10 by omega) with e1 | e1 | e1 | e1 | e1 | e1 <;> subst e1
                                  · rw [hf 133 5 (by omega)]; exact n5
                                  · rw [hf 133 6 (by omega)]; exact n6
                                  · rw [hf 133 7 (by omega)]; exact n7
                                  · rw [hf 133 8 (by omega)]; exact n8
                                  · rw [hmo]; rfl
                                  · rw [hf 133 10 (by omega)]; exact n10
                                have hmr := rmo_in (n := i) (S := (rs c P t e a p i)) h5
                                refine wp_n 4 (pc' := 235) (L' := [(2, 127), (0, t), (0, e), (0, a), (0, p), (0, x), (0, (rs c P t e a p i 11)), (0, ((i : Nat) : Int)), (0, ((k : Nat) : Int)), w9, w10]) (st' := [(0, 1), (0, 2), (0, t), (2, 127)]) (g' := f) rfl ?_
                                refine wp_cv (as := [(2, 127), (0, t), (0, 2), (0, 1)]) (rest := []) rfl rfl rfl (Nat.le_of_ble_eq_true rfl) rfl (m_value (c := c) (k := 2) hI.tx hMf.tr (by omega) (by decide) (rN_nb h5 (by omega) (by decide) hri hNf)) (by decide) (fun r23 h24 => ?_)
                                obtain ⟨g235, rfl, hE235⟩ := h24
                                have hv235 := tv_go2 (c := c) (h := c) (k := 2) (t := t) (w := 1) hI.tx (by omega) (by decide) (fun _ _ _ _ => rfl) hNf
                                have hb235 := tv_in (g := c) (N := rN P (rs c P t e a p i)) (t := t) (k := 2) (w := 1) hI.tx (by omega) (by decide) (rN_nb h5 (by omega) (by decide) hri (fun _ _ _ => rfl)) (by decide)
                                unfold MB at hb235
                                obtain ⟨z, hz⟩ : ∃ z, tv c (rN P (rs c P t e a p i)) t 2 1 = z := ⟨_, rfl⟩
                                rw [hz] at hv235 hb235
                                have hN235 : ∀ q, 5 ≤ q → q ≤ 10 → g235 133 q = rN P (rs c P t e a p i) q := fun q a1 a2 => (hE235 133 q (by decide)).trans (hNf q a1 a2)
                                have hM235 := hMf.g_same (hE235.n (by decide))
                                refine wp_eq (L' := [(2, 127), (0, t), (0, e), (0, a), (0, p), (0, x), (0, (rs c P t e a p i 11)), (0, ((i : Nat) : Int)), (0, ((k : Nat) : Int)), w9, w10]) (st' := [(0, (tv c (f 133) t 2 1))]) (g' := g235) ?_
                                refine wp_eq (L' := [(2, 127), (0, t), (0, e), (0, a), (0, p), (0, x), (0, (rs c P t e a p i 11)), (0, ((i : Nat) : Int)), (0, ((k : Nat) : Int)), w9, w10]) (st' := [(0, z)]) (g' := g235) ?_ (by rfl) (by rw [hv235]) (by rfl)
                                refine wp_n 7 (pc' := 249) (L' := [(2, 127), (0, t), (0, e), (0, a), (0, p), (0, x), (0, (rs c P t e a p i 11)), (0, ((i : Nat) : Int)), (0, z), w9, w10]) (st' := [(0, 9), (2, 133), (0, 3), (0, t), (2, 127)]) (g' := g235) rfl ?_
                                refine wp_iald (k := 133) (9) rfl rfl (by omega) (by omega) (by decide) ?_
                                refine wp_eq (L' := [(2, 127), (0, t), (0, e), (0, a), (0, p), (0, x), (0, (rs c P t e a p i 11)), (0, ((i : Nat) : Int)), (0, z), w9, w10]) (st' := [(0, (rmo P (rs c P t e a p i))), (0, 3), (0, t), (2, 127)]) (g' := g235) ?_ (by rfl) (by rw [hE235 133 9 (by decide), hmo]) (by rfl)
                                refine wp_cv (as := [(2, 127), (0, t), (0, 3), (0, (rmo P (rs c P t e a p i)))]) (rest := []) rfl rfl rfl (Nat.le_of_ble_eq_true rfl) rfl (m_value (c := c) (k := 3) hI.tx hM235.tr (by omega) (by decide) (rN_nb h5 (by omega) (by decide) hri hN235)) (by decide) (fun r25 h26 => ?_)
                                obtain ⟨g250, rfl, hE250⟩ := h26
                                have hv250 := tv_go2 (c := c) (h := c) (k := 3) (t := t) (w := rmo P (rs c P t e a p i)) hI.tx (by omega) (by decide) (fun _ _ _ _ => rfl) hN235
                                have hb250 := tv_in (g := c) (N := rN P (rs c P t e a p i)) (t := t) (k := 3) (w := rmo P (rs c P t e a p i)) hI.tx (by omega) (by decide) (rN_nb h5 (by omega) (by decide) hri (fun _ _ _ => rfl)) (by unfold MB; omega)
                                unfold MB at hb250
                                obtain ⟨x2, hx⟩ : ∃ x2, tv c (rN P (rs c P t e a p i)) t 3 (rmo P (rs c P t e a p i)) = x2 := ⟨_, rfl⟩
                                rw [hx] at hv250 hb250
                                have hron : ron c P t (rs c P t e a p i) = x2 := hx
                                have hG : ∀ q j, q ≠ 134 → ¬ (q = 133 ∧ j = 9) → g250 q j = h q j := fun q j a1 a2 => (hE250 q j a1).trans ((hE235 q j a1).trans (hf q j a2))
                                have hF250 : FrN g g250 := (hFf.trans (hE235.n (by decide))).trans (hE250.n (by decide))
                                have hM250 := hM.g_same hF250
                                have q5 : g250 133 5 = rs c P t e a p i 5 := (hG 133 5 (by decide) (by omega)).trans n5
                                have q6 : g250 133 6 = rs c P t e a p i 6 := (hG 133 6 (by decide) (by omega)).trans n6
                                have q8 : g250 133 8 = rs c P t e a p i 8 := (hG 133 8 (by decide) (by omega)).trans n8
                                have q10 : g250 133 10 = rs c P t e a p i 10 := (hG 133 10 (by decide) (by omega)).trans n10
                                refine wp_eq (L' := [(2, 127), (0, t), (0, e), (0, a), (0, p), (0, x), (0, (rs c P t e a p i 11)), (0, ((i : Nat) : Int)), (0, z), w9, w10]) (st' := [(0, (tv c (g235 133) t 3 (rmo P (rs c P t e a p i))))]) (g' := g250) ?_
                                refine wp_eq (L' := [(2, 127), (0, t), (0, e), (0, a), (0, p), (0, x), (0, (rs c P t e a p i 11)), (0, ((i : Nat) : Int)), (0, z), w9, w10]) (st' := [(0, x2)]) (g' := g250) ?_ (by rfl) (by rw [hv250]) (by rfl)
                                refine wp_n 1 (pc' := 255) (L' := [(2, 127), (0, t), (0, e), (0, a), (0, p), (0, x), (0, (rs c P t e a p i 11)), (0, ((i : Nat) : Int)), (0, z), (0, x2), w10]) (st' := []) (g' := g250) rfl ?_
                                have J291 : ∀ (k : Int), (k = rsk c P t (rs c P t e a p i)) → Wp sn sx 4 T243 291 [(2, 127), (0, t), (0, e), (0, a), (0, p), (0, x), (0, (rs c P t e a p i 11)), (0, ((i : Nat) : Int)), (0, z), (0, x2), w10] [(0, k)] (SH b) g250 (fun y => ∃ g' v, y = (some (0, v), SH b, g') ∧ RuA c P t e a p x v ∧ FrN g g') := by
                                  intro k hk
                                  have hkr := rsk_in (c := c) (t := t) hri
                                  rw [← hk] at hkr
                                  have hyk := payk_in hyr (k := k) (by omega)
                                  have hkx : 0 < k → 0 ≤ x2 := fun q => by
                                    have hk3 := hk
                                    unfold rsk rst ron at hk3
                                    rw [hz, hx] at hk3
                                    by_cases q2 : x2 < 0
                                    · rw [if_pos (Or.inr q2)] at hk3; omega
                                    · omega
                                  refine wp_n 1 (pc' := 293) (L' := [(2, 127), (0, t), (0, e), (0, a), (0, p), (0, x), (0, (rs c P t e a p i 11)), (0, ((i : Nat) : Int)), (0, k), (0, x2), w10]) (st' := []) (g' := g250) rfl ?_
                                  have J415 : ∀ (h2 : am_G), (h2 133 5 = rpu c P t (c 14 i) (rs c P t e a p i)) → (h2 133 8 = rlo c P t (c 14 i) (rs c P t e a p i)) → (h2 133 10 = rwo c P t (c 14 i) (rs c P t e a p i)) → (∀ q j, ¬ (q = 133 ∧ (j = 5 ∨ j = 8 ∨ j = 10)) → h2 q j = g250 q j) → Wp sn sx 4 T243 415 [(2, 127), (0, t), (0, e), (0, a), (0, p), (0, x), (0, (rs c P t e a p i 11)), (0, ((i : Nat) : Int)), (0, k), (0, x2), (0, (c 14 i))] [] (SH b) h2 (fun y => ∃ g' v, y = (some (0, v), SH b, g') ∧ RuA c P t e a p x v ∧ FrN g g') := by
                                    intro h2 e5 e8 e10 hq2
                                    have hpr : 0 ≤ rpu c P t (c 14 i) (rs c P t e a p i) ∧ rpu c P t (c 14 i) (rs c P t e a p i) ≤ 999999 := (hri.next (t := t) hI (by omega)).1
                                    have hQ : FrN g h2 := fun q j hq => (hq2 q j (by unfold Sm at hq; omega)).trans (hF250 q j hq)
                                    refine wp_n 3 (pc' := 420) (L' := [(2, 127), (0, t), (0, e), (0, a), (0, p), (0, x), (0, (rs c P t e a p i 11)), (0, ((i : Nat) : Int)), (0, k), (0, x2), (0, (c 14 i))]) (st' := [(0, 5), (2, 133)]) (g' := h2) rfl ?_
                                    refine wp_iald (k := 133) (5) rfl rfl (by omega) (by omega) (by decide) ?_
                                    refine wp_eq (L' := [(2, 127), (0, t), (0, e), (0, a), (0, p), (0, x), (0, (rs c P t e a p i 11)), (0, ((i : Nat) : Int)), (0, k), (0, x2), (0, (c 14 i))]) (st' := [(0, (rpu c P t (c 14 i) (rs c P t e a p i)))]) (g' := h2) ?_ (by rfl) (by rw [e5]) (by rfl)
                                    refine wp_n 1 (pc' := 423) (L' := [(2, 127), (0, t), (0, e), (0, a), (0, p), (0, x), (0, (rs c P t e a p i 11)), (0, ((i : Nat) : Int)), (0, k), (0, x2), (0, (c 14 i))]) (st' := [(0, (rs c P t e a p i 11)), (0, (rpu c P t (c 14 i) (rs c P t e a p i)))]) (g' := h2) rfl ?_
                                    refine wp_ic_ge rfl (fun c27 => ?_) (fun c27 => ?_)
                                    · have hle11 : rstep c P t (c 14 i) (rs c P t e a p i) 11 = rs c P t e a p i 11 := if_neg (show ¬ rpu c P t (c 14 i) (rs c P t e a p i) < rs c P t e a p i 11 by omega)
                                      refine wp_n 4 (pc' := 441) (L' := [(2, 127), (0, t), (0, e), (0, a), (0, p), (0, x), (0, (rs c P t e a p i 11)), (0, ((i : Nat) : Int)), (0, k), (0, x2), (0, (c 14 i))]) (st' := [(0, (c 14 i)), (2, 143), (0, (c 14 i)), (2, 143)]) (g' := h2) rfl ?_
                                      refine wp_iald (k := 143) ((c 14 i).toNat) rfl rfl (by omega) (by omega) (by decide) ?_
                                      refine wp_n 2 (pc' := 444) (L' := [(2, 127), (0, t), (0, e), (0, a), (0, p), (0, x), (0, (rs c P t e a p i 11)), (0, ((i : Nat) : Int)), (0, k), (0, x2), (0, (c 14 i))]) (st' := [(0, ((h2 143 (c 14 i).toNat) + 1)), (0, (c 14 i)), (2, 143)]) (g' := h2) rfl ?_
                                      refine wp_iast (k := 143) ((c 14 i).toNat) rfl rfl (by omega) (by omega) (by decide) ?_
                                      refine wp_n 4 (pc' := 452) (L' := [(2, 127), (0, t), (0, e), (0, a), (0, p), (0, x), (0, (rs c P t e a p i 11)), (0, ((i : Nat) : Int)), (0, k), (0, x2), (0, (c 14 i))]) (st' := [(0, 6), (2, 133), (0, 6), (2, 133)]) (g' := (am_up h2 143 ((c 14 i).toNat) ((h2 143 (c 14 i).toNat) + 1))) rfl ?_
                                      refine wp_iald (k := 133) (6) rfl rfl (by omega) (by omega) (by decide) ?_
                                      refine wp_n 2 (pc' := 455) (L' := [(2, 127), (0, t), (0, e), (0, a), (0, p), (0, x), (0, (rs c P t e a p i 11)), (0, ((i : Nat) : Int)), (0, k), (0, x2), (0, (c 14 i))]) (st' := [(0, ((h2 133 6) + 1)), (0, 6), (2, 133)]) (g' := (am_up h2 143 ((c 14 i).toNat) ((h2 143 (c 14 i).toNat) + 1))) rfl ?_
                                      refine wp_iast (k := 133) (6) rfl rfl (by omega) (by omega) (by decide) ?_
                                      refine wp_n 4 (pc' := 464) (L' := [(2, 127), (0, t), (0, e), (0, a), (0, p), (0, x), (0, (rs c P t e a p i 11)), (0, ((i : Nat) : Int)), (0, k), (0, x2), (0, (c 14 i))]) (st' := [(0, (c 14 i)), (0, 7), (2, 133)]) (g' := (am_up (am_up h2 143 ((c 14 i).toNat) ((h2 143 (c 14 i).toNat) + 1)) 133 6 ((h2 133 6) + 1))) rfl ?_
                                      refine wp_iast (k := 133) (7) rfl rfl (by omega) (by omega) (by decide) ?_
                                      refine wp_n 2 (pc' := 129) (L' := [(2, 127), (0, t), (0, e), (0, a), (0, p), (0, x), (0, (rs c P t e a p i 11)), (0, (((i : Nat) : Int) + 1)), (0, k), (0, x2), (0, (c 14 i))]) (st' := []) (g' := (am_up (am_up (am_up h2 143 ((c 14 i).toNat) ((h2 143 (c 14 i).toNat) + 1)) 133 6 ((h2 133 6) + 1)) 133 7 (c 14 i))) rfl ?_
                                      refine wp_eq (ih129 (i + 1) ((am_up (am_up (am_up h2 143 ((c 14 i).toNat) ((h2 143 (c 14 i).toNat) + 1)) 133 6 ((h2 133 6) + 1)) 133 7 (c 14 i))) ((0, k)) ((0, x2)) ((0, (c 14 i))) ?_ ?_ ?_ ?_ ?_ ?_ ?_ ?_ ?_) (by first | (rw [rs_s, if_neg p145]; rfl) | (rw [rs_s, if_pos p145, hle11]; rfl)) (by rfl) (by rfl)
                                      · omega
                                      · omega
                                      · first | (rw [rs_s, if_neg p145]; exact n5) | (rw [rs_s, if_pos p145]; (repeat rw [up_no (by omega)]); exact e5)
                                      · first | (rw [rs_s, if_neg p145]; exact n6) | (rw [rs_s, if_pos p145]; rw [up_no (by omega), up_eq, hq2 133 6 (by omega), q6]; rfl)
                                      · first | (rw [rs_s, if_neg p145]; exact n7) | (rw [rs_s, if_pos p145]; exact up_eq)
                                      · first | (rw [rs_s, if_neg p145]; exact n8) | (rw [rs_s, if_pos p145]; (repeat rw [up_no (by omega)]); exact e8)
                                      · first | (rw [rs_s, if_neg p145]; exact n10) | (rw [rs_s, if_pos p145]; (repeat rw [up_no (by omega)]); exact e10)
                                      · first
                                        | (rw [rs_s, if_neg p145]; exact hc)
                                        | (intro j hj
                                           rw [rs_s, if_pos p145, rstep_j (by omega), up_no (by omega), up_no (by omega)]
                                           have hj5 : h2 143 j = rs c P t e a p i (100 + j) := by rw [hq2 143 j (by omega), hG 143 j (by decide) (by omega)]; exact hc j hj
                                           by_cases q : j = (c 14 i).toNat
                                           · rw [if_pos q, ← q, up_eq, hj5]
                                           · rw [if_neg q, up_nj q]; exact hj5)
                                      · first | exact hF | exact ((hQ.up (by unfold Sm; omega)).up (by unfold Sm; omega)).up (by unfold Sm; omega)
                                    · have hle11 : rstep c P t (c 14 i) (rs c P t e a p i) 11 = rpu c P t (c 14 i) (rs c P t e a p i) := if_pos (show rpu c P t (c 14 i) (rs c P t e a p i) < rs c P t e a p i 11 by omega)
                                      refine wp_n 3 (pc' := 431) (L' := [(2, 127), (0, t), (0, e), (0, a), (0, p), (0, x), (0, (rs c P t e a p i 11)), (0, ((i : Nat) : Int)), (0, k), (0, x2), (0, (c 14 i))]) (st' := [(0, 5), (2, 133)]) (g' := h2) rfl ?_
                                      refine wp_iald (k := 133) (5) rfl rfl (by omega) (by omega) (by decide) ?_
                                      refine wp_eq (L' := [(2, 127), (0, t), (0, e), (0, a), (0, p), (0, x), (0, (rs c P t e a p i 11)), (0, ((i : Nat) : Int)), (0, k), (0, x2), (0, (c 14 i))]) (st' := [(0, (rpu c P t (c 14 i) (rs c P t e a p i)))]) (g' := h2) ?_ (by rfl) (by rw [e5]) (by rfl)
                                      refine wp_n 5 (pc' := 441) (L' := [(2, 127), (0, t), (0, e), (0, a), (0, p), (0, x), (0, (rpu c P t (c 14 i) (rs c P t e a p i))), (0, ((i : Nat) : Int)), (0, k), (0, x2), (0, (c 14 i))]) (st' := [(0, (c 14 i)), (2, 143), (0, (c 14 i)), (2, 143)]) (g' := h2) rfl ?_
                                      refine wp_iald (k := 143) ((c 14 i).toNat) rfl rfl (by omega) (by omega) (by decide) ?_
                                      refine wp_n 2 (pc' := 444) (L' := [(2, 127), (0, t), (0, e), (0, a), (0, p), (0, x), (0, (rpu c P t (c 14 i) (rs c P t e a p i))), (0, ((i : Nat) : Int)), (0, k), (0, x2), (0, (c 14 i))]) (st' := [(0, ((h2 143 (c 14 i).toNat) + 1)), (0, (c 14 i)), (2, 143)]) (g' := h2) rfl ?_
                                      refine wp_iast (k := 143) ((c 14 i).toNat) rfl rfl (by omega) (by omega) (by decide) ?_
                                      refine wp_n 4 (pc' := 452) (L' := [(2, 127), (0, t), (0, e), (0, a), (0, p), (0, x), (0, (rpu c P t (c 14 i) (rs c P t e a p i))), (0, ((i : Nat) : Int)), (0, k), (0, x2), (0, (c 14 i))]) (st' := [(0, 6), (2, 133), (0, 6), (2, 133)]) (g' := (am_up h2 143 ((c 14 i).toNat) ((h2 143 (c 14 i).toNat) + 1))) rfl ?_
                                      refine wp_iald (k := 133) (6) rfl rfl (by omega) (by omega) (by decide) ?_
                                      refine wp_n 2 (pc' := 455) (L' := [(2, 127), (0, t), (0, e), (0, a), (0, p), (0, x), (0, (rpu c P t (c 14 i) (rs c P t e a p i))), (0, ((i : Nat) : Int)), (0, k), (0, x2), (0, (c 14 i))]) (st' := [(0, ((h2 133 6) + 1)), (0, 6), (2, 133)]) (g' := (am_up h2 143 ((c 14 i).toNat) ((h2 143 (c 14 i).toNat) + 1))) rfl ?_
                                      refine wp_iast (k := 133) (6) rfl rfl (by omega) (by omega) (by decide) ?_
                                      refine wp_n 4 (pc' := 464) (L' := [(2, 127), (0, t), (0, e), (0, a), (0, p), (0, x), (0, (rpu c P t (c 14 i) (rs c P t e a p i))), (0, ((i : Nat) : Int)), (0, k), (0, x2), (0, (c 14 i))]) (st' := [(0, (c 14 i)), (0, 7), (2, 133)]) (g' := (am_up (am_up h2 143 ((c 14 i).toNat) ((h2 143 (c 14 i).toNat) + 1)) 133 6 ((h2 133 6) + 1))) rfl ?_
                                      refine wp_iast (k := 133) (7) rfl rfl (by omega) (by omega) (by decide) ?_
                                      refine wp_n 2 (pc' := 129) (L' := [(2, 127), (0, t), (0, e), (0, a), (0, p), (0, x), (0, (rpu c P t (c 14 i) (rs c P t e a p i))), (0, (((i : Nat) : Int) + 1)), (0, k), (0, x2), (0, (c 14 i))]) (st' := []) (g' := (am_up (am_up (am_up h2 143 ((c 14 i).toNat) ((h2 143 (c 14 i).toNat) + 1)) 133 6 ((h2 133 6) + 1)) 133 7 (c 14 i))) rfl ?_
                                      refine wp_eq (ih129 (i + 1) ((am_up (am_up (am_up h2 143 ((c 14 i).toNat) ((h2 143 (c 14 i).toNat) + 1)) 133 6 ((h2 133 6) + 1)) 133 7 (c 14 i))) ((0, k)) ((0, x2)) ((0, (c 14 i))) ?_ ?_ ?_ ?_ ?_ ?_ ?_ ?_ ?_) (by first | (rw [rs_s, if_neg p145]; rfl) | (rw [rs_s, if_pos p145, hle11]; rfl)) (by rfl) (by rfl)
                                      · omega
                                      · omega
                                      · first | (rw [rs_s, if_neg p145]; exact n5) | (rw [rs_s, if_pos p145]; (repeat rw [up_no (by omega)]); exact e5)
                                      · first | (rw [rs_s, if_neg p145]; exact n6) | (rw [rs_s, if_pos p145]; rw [up_no (by omega), up_eq, hq2 133 6 (by omega), q6]; rfl)
                                      · first | (rw [rs_s, if_neg p145]; exact n7) | (rw [rs_s, if_pos p145]; exact up_eq)
                                      · first | (rw [rs_s, if_neg p145]; exact n8) | (rw [rs_s, if_pos p145]; (repeat rw [up_no (by omega)]); exact e8)
                                      · first | (rw [rs_s, if_neg p145]; exact n10) | (rw [rs_s, if_pos p145]; (repeat rw [up_no (by omega)]); exact e10)
                                      · first
                                        | (rw [rs_s, if_neg p145]; exact hc)
                                        | (intro j hj
                                           rw [rs_s, if_pos p145, rstep_j (by omega), up_no (by omega), up_no (by omega)]
                                           have hj5 : h2 143 j = rs c P t e a p i (100 + j) := by rw [hq2 143 j (by omega), hG 143 j (by decide) (by omega)]; exact hc j hj
                                           by_cases q : j = (c 14 i).toNat
                                           · rw [if_pos q, ← q, up_eq, hj5]
                                           · rw [if_neg q, up_nj q]; exact hj5)
                                      · first | exact hF | exact ((hQ.up (by unfold Sm; omega)).up (by unfold Sm; omega)).up (by unfold Sm; omega)
                                  refine wp_n 9 (pc' := 307) (L' := [(2, 127), (0, t), (0, e), (0, a), (0, p), (0, x), (0, (rs c P t e a p i 11)), (0, ((i : Nat) : Int)), (0, k), (0, x2), w10]) (st' := [(0, ((580 + (4 * ((i : Nat) : Int))) + 3)), (2, 128)]) (g' := g250) rfl ?_
                                  refine wp_iald (k := 128) ((580 + 4 * i + 3)) rfl rfl (by omega) (by omega) (by decide) ?_
                                  refine wp_eq (L' := [(2, 127), (0, t), (0, e), (0, a), (0, p), (0, x), (0, (rs c P t e a p i 11)), (0, ((i : Nat) : Int)), (0, k), (0, x2), w10]) (st' := [(0, (c 14 i))]) (g' := g250) ?_ (by rfl) (by rw [hM250.fl _ (by omega)]) (by rfl)
                                  refine wp_n 2 (pc' := 312) (L' := [(2, 127), (0, t), (0, e), (0, a), (0, p), (0, x), (0, (rs c P t e a p i 11)), (0, ((i : Nat) : Int)), (0, k), (0, x2), (0, (c 14 i))]) (st' := [(0, k)]) (g' := g250) rfl ?_
                                  refine wp_if_le rfl (fun c28 => ?_) (fun c28 => ?_)
                                  · refine wp_n 1 (pc' := 390) (L' := [(2, 127), (0, t), (0, e), (0, a), (0, p), (0, x), (0, (rs c P t e a p i 11)), (0, ((i : Nat) : Int)), (0, k), (0, x2), (0, (c 14 i))]) (st' := [(0, k)]) (g' := g250) rfl ?_
                                    refine wp_if_le rfl (fun c29 => ?_) (fun c29 => ?_)
                                    · refine wp_eq (J415 (g250) ?_ ?_ ?_ ?_) (by first | rfl | (simp; done) | (simp; omega)) (by rfl) (by rfl)
                                      · first
                                        | (rw [q5]; unfold rpu; rw [← hk, if_neg (show ¬ 0 < k by omega)]; done)
                                        | (rw [up_no (by omega), up_no (by omega), up_eq]; unfold rpu; rw [← hk, if_pos (show 0 < k by omega), hron, if_pos hxf]; rw [hy]; split <;> omega)
                                        | (rw [up_no (by omega), up_eq]; unfold rpu; rw [← hk, if_pos (show 0 < k by omega), hron, if_neg hxf])
                                        | (exfalso; omega)
                                      · first
                                        | (rw [q8]; unfold rlo; rw [← hk, if_neg (show ¬ 0 < k by omega)]; done)
                                        | (rw [up_eq]; unfold rlo; rw [← hk, if_pos (show 0 < k by omega), hron, if_pos hxf])
                                        | (rw [up_eq]; unfold rlo; rw [← hk, if_pos (show 0 < k by omega), hron, if_neg hxf])
                                        | (exfalso; omega)
                                      · first
                                        | (rw [q10]; unfold rwo; rw [← hk, if_neg (show ¬ 0 < k by omega)]; done)
                                        | (rw [up_no (by omega), up_eq]; unfold rwo; rw [← hk, if_pos (show 0 < k by omega), hron, if_pos hxf])
                                        | (rw [up_no (by omega), up_no (by omega), q10]; unfold rwo; rw [← hk, if_pos (show 0 < k by omega), hron, if_neg hxf])
                                        | (exfalso; omega)
                                      · intro q j hq; first | rfl | (repeat rw [up_no (by omega)])
                                    · refine wp_n 4 (pc' := 399) (L' := [(2, 127), (0, t), (0, e), (0, a), (0, p), (0, x), (0, (rs c P t e a p i 11)), (0, ((i : Nat) : Int)), (0, k), (0, x2), (0, (c 14 i))]) (st' := [(0, 5), (2, 133), (0, 5), (2, 133)]) (g' := g250) rfl ?_
                                      refine wp_iald (k := 133) (5) rfl rfl (by omega) (by omega) (by decide) ?_
                                      refine wp_eq (L' := [(2, 127), (0, t), (0, e), (0, a), (0, p), (0, x), (0, (rs c P t e a p i 11)), (0, ((i : Nat) : Int)), (0, k), (0, x2), (0, (c 14 i))]) (st' := [(0, (rs c P t e a p i 5)), (0, 5), (2, 133)]) (g' := g250) ?_ (by rfl) (by rw [q5]) (by rfl)
                                      refine wp_n 2 (pc' := 403) (L' := [(2, 127), (0, t), (0, e), (0, a), (0, p), (0, x), (0, (rs c P t e a p i 11)), (0, ((i : Nat) : Int)), (0, k), (0, x2), (0, (c 14 i))]) (st' := [(0, ((rs c P t e a p i 5) - k)), (0, 5), (2, 133)]) (g' := g250) rfl ?_
                                      refine wp_iast (k := 133) (5) rfl rfl (by omega) (by omega) (by decide) ?_
                                      refine wp_n 4 (pc' := 411) (L' := [(2, 127), (0, t), (0, e), (0, a), (0, p), (0, x), (0, (rs c P t e a p i 11)), (0, ((i : Nat) : Int)), (0, k), (0, x2), (0, (c 14 i))]) (st' := [(0, 8), (2, 133), (0, 8), (2, 133)]) (g' := (am_up g250 133 5 ((rs c P t e a p i 5) - k))) rfl ?_
                                      refine wp_iald (k := 133) (8) rfl rfl (by omega) (by omega) (by decide) ?_
                                      refine wp_eq (L' := [(2, 127), (0, t), (0, e), (0, a), (0, p), (0, x), (0, (rs c P t e a p i 11)), (0, ((i : Nat) : Int)), (0, k), (0, x2), (0, (c 14 i))]) (st' := [(0, (rs c P t e a p i 8)), (0, 8), (2, 133)]) (g' := (am_up g250 133 5 ((rs c P t e a p i 5) - k))) ?_ (by rfl) (by (repeat rw [up_no (by omega)]); rw [q8]) (by rfl)
                                      refine wp_n 2 (pc' := 414) (L' := [(2, 127), (0, t), (0, e), (0, a), (0, p), (0, x), (0, (rs c P t e a p i 11)), (0, ((i : Nat) : Int)), (0, k), (0, x2), (0, (c 14 i))]) (st' := [(0, ((rs c P t e a p i 8) + 1)), (0, 8), (2, 133)]) (g' := (am_up g250 133 5 ((rs c P t e a p i 5) - k))) rfl ?_
                                      refine wp_iast (k := 133) (8) rfl rfl (by omega) (by omega) (by decide) ?_
                                      refine wp_eq (J415 ((am_up (am_up g250 133 5 ((rs c P t e a p i 5) - k)) 133 8 ((rs c P t e a p i 8) + 1))) ?_ ?_ ?_ ?_) (by first | rfl | (simp; done) | (simp; omega)) (by rfl) (by rfl)
                                      · first
                                        | (rw [q5]; unfold rpu; rw [← hk, if_neg (show ¬ 0 < k by omega)]; done)
                                        | (rw [up_no (by omega), up_no (by omega), up_eq]; unfold rpu; rw [← hk, if_pos (show 0 < k by omega), hron, if_pos hxf]; rw [hy]; split <;> omega)
                                        | (rw [up_no (by omega), up_eq]; unfold rpu; rw [← hk, if_pos (show 0 < k by omega), hron, if_neg hxf])
                                        | (exfalso; omega)
                                      · first
                                        | (rw [q8]; unfold rlo; rw [← hk, if_neg (show ¬ 0 < k by omega)]; done)
                                        | (rw [up_eq]; unfold rlo; rw [← hk, if_pos (show 0 < k by omega), hron, if_pos hxf])
                                        | (rw [up_eq]; unfold rlo; rw [← hk, if_pos (show 0 < k by omega), hron, if_neg hxf])
                                        | (exfalso; omega)
                                      · first
                                        | (rw [q10]; unfold rwo; rw [← hk, if_neg (show ¬ 0 < k by omega)]; done)
                                        | (rw [up_no (by omega), up_eq]; unfold rwo; rw [← hk, if_pos (show 0 < k by omega), hron, if_pos hxf])
                                        | (rw [up_no (by omega), up_no (by omega), q10]; unfold rwo; rw [← hk, if_pos (show 0 < k by omega), hron, if_neg hxf])
                                        | (exfalso; omega)
                                      · intro q j hq; first | rfl | (repeat rw [up_no (by omega)])
                                  · have hx0 := hkx (by omega)
                                    have hem0 := Int.emod_nonneg x2 (show (P : Int) ≠ 0 by omega)
                                    have hem1 := Int.emod_lt_of_pos x2 (show (0 : Int) < (P : Int) by omega)
                                    refine wp_n 3 (pc' := 321) (L' := [(2, 127), (0, t), (0, e), (0, a), (0, p), (0, x), (0, (rs c P t e a p i 11)), (0, ((i : Nat) : Int)), (0, k), (0, x2), (0, (c 14 i))]) (st' := [(0, (g250 127 0)), (0, x2)]) (g' := g250) rfl ?_
                                    refine wp_eq (L' := [(2, 127), (0, t), (0, e), (0, a), (0, p), (0, x), (0, (rs c P t e a p i 11)), (0, ((i : Nat) : Int)), (0, k), (0, x2), (0, (c 14 i))]) (st' := [(0, ((P : Nat) : Int)), (0, x2)]) (g' := g250) ?_ (by rfl) (by rw [hF250 _ _ (by unfold Sm; omega), hP]) (by rfl)
                                    refine wp_irem rfl (by omega) (by omega) (by omega) ?_
                                    refine wp_eq (L' := [(2, 127), (0, t), (0, e), (0, a), (0, p), (0, x), (0, (rs c P t e a p i 11)), (0, ((i : Nat) : Int)), (0, k), (0, x2), (0, (c 14 i))]) (st' := [(0, (x2 % ((P : Nat) : Int)))]) (g' := g250) ?_ (by rfl) (by rw [Int.tmod_eq_emod_of_nonneg hx0]) (by rfl)
                                    refine wp_n 1 (pc' := 324) (L' := [(2, 127), (0, t), (0, e), (0, a), (0, p), (0, x), (0, (rs c P t e a p i 11)), (0, ((i : Nat) : Int)), (0, k), (0, x2), (0, (c 14 i))]) (st' := [(0, (c 14 i)), (0, (x2 % ((P : Nat) : Int)))]) (g' := g250) rfl ?_
                                    refine wp_ic_ne rfl (fun c30 => ?_) (fun c30 => ?_)
                                    · have hxf : ¬ x2 % (P : Int) = c 14 i := by omega
                                      refine wp_n 1 (pc' := 390) (L' := [(2, 127), (0, t), (0, e), (0, a), (0, p), (0, x), (0, (rs c P t e a p i 11)), (0, ((i : Nat) : Int)), (0, k), (0, x2), (0, (c 14 i))]) (st' := [(0, k)]) (g' := g250) rfl ?_
                                      refine wp_if_le rfl (fun c31 => ?_) (fun c31 => ?_)
                                      · refine wp_eq (J415 (g250) ?_ ?_ ?_ ?_) (by first | rfl | (simp; done) | (simp; omega)) (by rfl) (by rfl)
                                        · first
                                          | (rw [q5]; unfold rpu; rw [← hk, if_neg (show ¬ 0 < k by omega)]; done)
                                          | (rw [up_no (by omega), up_no (by omega), up_eq]; unfold rpu; rw [← hk, if_pos (show 0 < k by omega), hron, if_pos hxf]; rw [hy]; split <;> omega)
                                          | (rw [up_no (by omega), up_eq]; unfold rpu; rw [← hk, if_pos (show 0 < k by omega), hron, if_neg hxf])
                                          | (exfalso; omega)
                                        · first
                                          | (rw [q8]; unfold rlo; rw [← hk, if_neg (show ¬ 0 < k by omega)]; done)
                                          | (rw [up_eq]; unfold rlo; rw [← hk, if_pos (show 0 < k by omega), hron, if_pos hxf])
                                          | (rw [up_eq]; unfold rlo; rw [← hk, if_pos (show 0 < k by omega), hron, if_neg hxf])
                                          | (exfalso; omega)
                                        · first
                                          | (rw [q10]; unfold rwo; rw [← hk, if_neg (show ¬ 0 < k by omega)]; done)
                                          | (rw [up_no (by omega), up_eq]; unfold rwo; rw [← hk, if_pos (show 0 < k by omega), hron, if_pos hxf])
                                          | (rw [up_no (by omega), up_no (by omega), q10]; unfold rwo; rw [← hk, if_pos (show 0 < k by omega), hron, if_neg hxf])
                                          | (exfalso; omega)
                                        · intro q j hq; first | rfl | (repeat rw [up_no (by omega)])
                                      · refine wp_n 4 (pc' := 399) (L' := [(2, 127), (0, t), (0, e), (0, a), (0, p), (0, x), (0, (rs c P t e a p i 11)), (0, ((i : Nat) : Int)), (0, k), (0, x2), (0, (c 14 i))]) (st' := [(0, 5), (2, 133), (0, 5), (2, 133)]) (g' := g250) rfl ?_
                                        refine wp_iald (k := 133) (5) rfl rfl (by omega) (by omega) (by decide) ?_
                                        refine wp_eq (L' := [(2, 127), (0, t), (0, e), (0, a), (0, p), (0, x), (0, (rs c P t e a p i 11)), (0, ((i : Nat) : Int)), (0, k), (0, x2), (0, (c 14 i))]) (st' := [(0, (rs c P t e a p i 5)), (0, 5), (2, 133)]) (g' := g250) ?_ (by rfl) (by rw [q5]) (by rfl)
                                        refine wp_n 2 (pc' := 403) (L' := [(2, 127), (0, t), (0, e), (0, a), (0, p), (0, x), (0, (rs c P t e a p i 11)), (0, ((i : Nat) : Int)), (0, k), (0, x2), (0, (c 14 i))]) (st' := [(0, ((rs c P t e a p i 5) - k)), (0, 5), (2, 133)]) (g' := g250) rfl ?_
                                        refine wp_iast (k := 133) (5) rfl rfl (by omega) (by omega) (by decide) ?_
                                        refine wp_n 4 (pc' := 411) (L' := [(2, 127), (0, t), (0, e), (0, a), (0, p), (0, x), (0, (rs c P t e a p i 11)), (0, ((i : Nat) : Int)), (0, k), (0, x2), (0, (c 14 i))]) (st' := [(0, 8), (2, 133), (0, 8), (2, 133)]) (g' := (am_up g250 133 5 ((rs c P t e a p i 5) - k))) rfl ?_
                                        refine wp_iald (k := 133) (8) rfl rfl (by omega) (by omega) (by decide) ?_
                                        refine wp_eq (L' := [(2, 127), (0, t), (0, e), (0, a), (0, p), (0, x), (0, (rs c P t e a p i 11)), (0, ((i : Nat) : Int)), (0, k), (0, x2), (0, (c 14 i))]) (st' := [(0, (rs c P t e a p i 8)), (0, 8), (2, 133)]) (g' := (am_up g250 133 5 ((rs c P t e a p i 5) - k))) ?_ (by rfl) (by (repeat rw [up_no (by omega)]); rw [q8]) (by rfl)
                                        refine wp_n 2 (pc' := 414) (L' := [(2, 127), (0, t), (0, e), (0, a), (0, p), (0, x), (0, (rs c P t e a p i 11)), (0, ((i : Nat) : Int)), (0, k), (0, x2), (0, (c 14 i))]) (st' := [(0, ((rs c P t e a p i 8) + 1)), (0, 8), (2, 133)]) (g' := (am_up g250 133 5 ((rs c P t e a p i 5) - k))) rfl ?_
                                        refine wp_iast (k := 133) (8) rfl rfl (by omega) (by omega) (by decide) ?_
                                        refine wp_eq (J415 ((am_up (am_up g250 133 5 ((rs c P t e a p i 5) - k)) 133 8 ((rs c P t e a p i 8) + 1))) ?_ ?_ ?_ ?_) (by first | rfl | (simp; done) | (simp; omega)) (by rfl) (by rfl)
                                        · first
                                          | (rw [q5]; unfold rpu; rw [← hk, if_neg (show ¬ 0 < k by omega)]; done)
                                          | (rw [up_no (by omega), up_no (by omega), up_eq]; unfold rpu; rw [← hk, if_pos (show 0 < k by omega), hron, if_pos hxf]; rw [hy]; split <;> omega)
                                          | (rw [up_no (by omega), up_eq]; unfold rpu; rw [← hk, if_pos (show 0 < k by omega), hron, if_neg hxf])
                                          | (exfalso; omega)
                                        · first
                                          | (rw [q8]; unfold rlo; rw [← hk, if_neg (show ¬ 0 < k by omega)]; done)
                                          | (rw [up_eq]; unfold rlo; rw [← hk, if_pos (show 0 < k by omega), hron, if_pos hxf])
                                          | (rw [up_eq]; unfold rlo; rw [← hk, if_pos (show 0 < k by omega), hron, if_neg hxf])
                                          | (exfalso; omega)
                                        · first
                                          | (rw [q10]; unfold rwo; rw [← hk, if_neg (show ¬ 0 < k by omega)]; done)
                                          | (rw [up_no (by omega), up_eq]; unfold rwo; rw [← hk, if_pos (show 0 < k by omega), hron, if_pos hxf])
                                          | (rw [up_no (by omega), up_no (by omega), q10]; unfold rwo; rw [← hk, if_pos (show 0 < k by omega), hron, if_neg hxf])
                                          | (exfalso; omega)
                                        · intro q j hq; first | rfl | (repeat rw [up_no (by omega)])
                                    · have hxf : x2 % (P : Int) = c 14 i := by omega
                                      refine wp_n 4 (pc' := 333) (L' := [(2, 127), (0, t), (0, e), (0, a), (0, p), (0, x), (0, (rs c P t e a p i 11)), (0, ((i : Nat) : Int)), (0, k), (0, x2), (0, (c 14 i))]) (st' := [(0, 5), (2, 133), (0, 5), (2, 133)]) (g' := g250) rfl ?_
                                      refine wp_iald (k := 133) (5) rfl rfl (by omega) (by omega) (by decide) ?_
                                      refine wp_eq (L' := [(2, 127), (0, t), (0, e), (0, a), (0, p), (0, x), (0, (rs c P t e a p i 11)), (0, ((i : Nat) : Int)), (0, k), (0, x2), (0, (c 14 i))]) (st' := [(0, (rs c P t e a p i 5)), (0, 5), (2, 133)]) (g' := g250) ?_ (by rfl) (by rw [q5]) (by rfl)
                                      refine wp_n 3 (pc' := 339) (L' := [(2, 127), (0, t), (0, e), (0, a), (0, p), (0, x), (0, (rs c P t e a p i 11)), (0, ((i : Nat) : Int)), (0, k), (0, x2), (0, (c 14 i))]) (st' := [(0, 5), (2, 128), (0, (rs c P t e a p i 5)), (0, 5), (2, 133)]) (g' := g250) rfl ?_
                                      refine wp_iald (k := 128) (5) rfl rfl (by omega) (by omega) (by decide) ?_
                                      refine wp_eq (L' := [(2, 127), (0, t), (0, e), (0, a), (0, p), (0, x), (0, (rs c P t e a p i 11)), (0, ((i : Nat) : Int)), (0, k), (0, x2), (0, (c 14 i))]) (st' := [(0, y), (0, (rs c P t e a p i 5)), (0, 5), (2, 133)]) (g' := g250) ?_ (by rfl) (by rw [hM250.pay, hy]) (by rfl)
                                      refine wp_n 3 (pc' := 344) (L' := [(2, 127), (0, t), (0, e), (0, a), (0, p), (0, x), (0, (rs c P t e a p i 11)), (0, ((i : Nat) : Int)), (0, k), (0, x2), (0, (c 14 i))]) (st' := [(0, ((rs c P t e a p i 5) + (y * k))), (0, 5), (2, 133)]) (g' := g250) rfl ?_
                                      refine wp_iast (k := 133) (5) rfl rfl (by omega) (by omega) (by decide) ?_
                                      refine wp_n 3 (pc' := 350) (L' := [(2, 127), (0, t), (0, e), (0, a), (0, p), (0, x), (0, (rs c P t e a p i 11)), (0, ((i : Nat) : Int)), (0, k), (0, x2), (0, (c 14 i))]) (st' := [(0, 5), (2, 133)]) (g' := (am_up g250 133 5 ((rs c P t e a p i 5) + (y * k)))) rfl ?_
                                      refine wp_iald (k := 133) (5) rfl rfl (by omega) (by omega) (by decide) ?_
                                      refine wp_n 1 (pc' := 354) (L' := [(2, 127), (0, t), (0, e), (0, a), (0, p), (0, x), (0, (rs c P t e a p i 11)), (0, ((i : Nat) : Int)), (0, k), (0, x2), (0, (c 14 i))]) (st' := [(0, 999999), (0, ((rs c P t e a p i 5) + (y * k)))]) (g' := (am_up g250 133 5 ((rs c P t e a p i 5) + (y * k)))) rfl ?_
                                      refine wp_ic_le rfl (fun c32 => ?_) (fun c32 => ?_)
                                      · refine wp_n 4 (pc' := 373) (L' := [(2, 127), (0, t), (0, e), (0, a), (0, p), (0, x), (0, (rs c P t e a p i 11)), (0, ((i : Nat) : Int)), (0, k), (0, x2), (0, (c 14 i))]) (st' := [(0, 10), (2, 133), (0, 10), (2, 133)]) (g' := (am_up g250 133 5 ((rs c P t e a p i 5) + (y * k)))) rfl ?_
                                        refine wp_iald (k := 133) (10) rfl rfl (by omega) (by omega) (by decide) ?_
                                        refine wp_eq (L' := [(2, 127), (0, t), (0, e), (0, a), (0, p), (0, x), (0, (rs c P t e a p i 11)), (0, ((i : Nat) : Int)), (0, k), (0, x2), (0, (c 14 i))]) (st' := [(0, (rs c P t e a p i 10)), (0, 10), (2, 133)]) (g' := (am_up g250 133 5 ((rs c P t e a p i 5) + (y * k)))) ?_ (by rfl) (by (repeat rw [up_no (by omega)]); rw [q10]) (by rfl)
                                        refine wp_n 2 (pc' := 376) (L' := [(2, 127), (0, t), (0, e), (0, a), (0, p), (0, x), (0, (rs c P t e a p i 11)), (0, ((i : Nat) : Int)), (0, k), (0, x2), (0, (c 14 i))]) (st' := [(0, ((rs c P t e a p i 10) + 1)), (0, 10), (2, 133)]) (g' := (am_up g250 133 5 ((rs c P t e a p i 5) + (y * k)))) rfl ?_
                                        refine wp_iast (k := 133) (10) rfl rfl (by omega) (by omega) (by decide) ?_
                                        refine wp_n 4 (pc' := 384) (L' := [(2, 127), (0, t), (0, e), (0, a), (0, p), (0, x), (0, (rs c P t e a p i 11)), (0, ((i : Nat) : Int)), (0, k), (0, x2), (0, (c 14 i))]) (st' := [(0, 0), (0, 8), (2, 133)]) (g' := (am_up (am_up g250 133 5 ((rs c P t e a p i 5) + (y * k))) 133 10 ((rs c P t e a p i 10) + 1))) rfl ?_
                                        refine wp_iast (k := 133) (8) rfl rfl (by omega) (by omega) (by decide) ?_
                                        refine wp_n 1 (pc' := 415) (L' := [(2, 127), (0, t), (0, e), (0, a), (0, p), (0, x), (0, (rs c P t e a p i 11)), (0, ((i : Nat) : Int)), (0, k), (0, x2), (0, (c 14 i))]) (st' := []) (g' := (am_up (am_up (am_up g250 133 5 ((rs c P t e a p i 5) + (y * k))) 133 10 ((rs c P t e a p i 10) + 1)) 133 8 0)) rfl ?_
                                        refine wp_eq (J415 ((am_up (am_up (am_up g250 133 5 ((rs c P t e a p i 5) + (y * k))) 133 10 ((rs c P t e a p i 10) + 1)) 133 8 0)) ?_ ?_ ?_ ?_) (by first | rfl | (simp; done) | (simp; omega)) (by rfl) (by rfl)
                                        · first
                                          | (rw [q5]; unfold rpu; rw [← hk, if_neg (show ¬ 0 < k by omega)]; done)
                                          | (rw [up_no (by omega), up_no (by omega), up_eq]; unfold rpu; rw [← hk, if_pos (show 0 < k by omega), hron, if_pos hxf]; rw [hy]; split <;> omega)
                                          | (rw [up_no (by omega), up_eq]; unfold rpu; rw [← hk, if_pos (show 0 < k by omega), hron, if_neg hxf])
                                          | (exfalso; omega)
                                        · first
                                          | (rw [q8]; unfold rlo; rw [← hk, if_neg (show ¬ 0 < k by omega)]; done)
                                          | (rw [up_eq]; unfold rlo; rw [← hk, if_pos (show 0 < k by omega), hron, if_pos hxf])
                                          | (rw [up_eq]; unfold rlo; rw [← hk, if_pos (show 0 < k by omega), hron, if_neg hxf])
                                          | (exfalso; omega)
                                        · first
                                          | (rw [q10]; unfold rwo; rw [← hk, if_neg (show ¬ 0 < k by omega)]; done)
                                          | (rw [up_no (by omega), up_eq]; unfold rwo; rw [← hk, if_pos (show 0 < k by omega), hron, if_pos hxf])
                                          | (rw [up_no (by omega), up_no (by omega), q10]; unfold rwo; rw [← hk, if_pos (show 0 < k by omega), hron, if_neg hxf])
                                          | (exfalso; omega)
                                        · intro q j hq; first | rfl | (repeat rw [up_no (by omega)])
                                      · refine wp_n 4 (pc' := 365) (L' := [(2, 127), (0, t), (0, e), (0, a), (0, p), (0, x), (0, (rs c P t e a p i 11)), (0, ((i : Nat) : Int)), (0, k), (0, x2), (0, (c 14 i))]) (st' := [(0, 999999), (0, 5), (2, 133)]) (g' := (am_up g250 133 5 ((rs c P t e a p i 5) + (y * k)))) rfl ?_
                                        refine wp_iast (k := 133) (5) rfl rfl (by omega) (by omega) (by decide) ?_
                                        refine wp_n 4 (pc' := 373) (L' := [(2, 127), (0, t), (0, e), (0, a), (0, p), (0, x), (0, (rs c P t e a p i 11)), (0, ((i : Nat) : Int)), (0, k), (0, x2), (0, (c 14 i))]) (st' := [(0, 10), (2, 133), (0, 10), (2, 133)]) (g' := (am_up (am_up g250 133 5 ((rs c P t e a p i 5) + (y * k))) 133 5 999999)) rfl ?_
                                        refine wp_iald (k := 133) (10) rfl rfl (by omega) (by omega) (by decide) ?_
                                        refine wp_eq (L' := [(2, 127), (0, t), (0, e), (0, a), (0, p), (0, x), (0, (rs c P t e a p i 11)), (0, ((i : Nat) : Int)), (0, k), (0, x2), (0, (c 14 i))]) (st' := [(0, (rs c P t e a p i 10)), (0, 10), (2, 133)]) (g' := (am_up (am_up g250 133 5 ((rs c P t e a p i 5) + (y * k))) 133 5 999999)) ?_ (by rfl) (by (repeat rw [up_no (by omega)]); rw [q10]) (by rfl)
                                        refine wp_n 2 (pc' := 376) (L' := [(2, 127), (0, t), (0, e), (0, a), (0, p), (0, x), (0, (rs c P t e a p i 11)), (0, ((i : Nat) : Int)), (0, k), (0, x2), (0, (c 14 i))]) (st' := [(0, ((rs c P t e a p i 10) + 1)), (0, 10), (2, 133)]) (g' := (am_up (am_up g250 133 5 ((rs c P t e a p i 5) + (y * k))) 133 5 999999)) rfl ?_
                                        refine wp_iast (k := 133) (10) rfl rfl (by omega) (by omega) (by decide) ?_
                                        refine wp_n 4 (pc' := 384) (L' := [(2, 127), (0, t), (0, e), (0, a), (0, p), (0, x), (0, (rs c P t e a p i 11)), (0, ((i : Nat) : Int)), (0, k), (0, x2), (0, (c 14 i))]) (st' := [(0, 0), (0, 8), (2, 133)]) (g' := (am_up (am_up (am_up g250 133 5 ((rs c P t e a p i 5) + (y * k))) 133 5 999999) 133 10 ((rs c P t e a p i 10) + 1))) rfl ?_
                                        refine wp_iast (k := 133) (8) rfl rfl (by omega) (by omega) (by decide) ?_
                                        refine wp_n 1 (pc' := 415) (L' := [(2, 127), (0, t), (0, e), (0, a), (0, p), (0, x), (0, (rs c P t e a p i 11)), (0, ((i : Nat) : Int)), (0, k), (0, x2), (0, (c 14 i))]) (st' := []) (g' := (am_up (am_up (am_up (am_up g250 133 5 ((rs c P t e a p i 5) + (y * k))) 133 5 999999) 133 10 ((rs c P t e a p i 10) + 1)) 133 8 0)) rfl ?_
                                        refine wp_eq (J415 ((am_up (am_up (am_up (am_up g250 133 5 ((rs c P t e a p i 5) + (y * k))) 133 5 999999) 133 10 ((rs c P t e a p i 10) + 1)) 133 8 0)) ?_ ?_ ?_ ?_) (by first | rfl | (simp; done) | (simp; omega)) (by rfl) (by rfl)
                                        · first
                                          | (rw [q5]; unfold rpu; rw [← hk, if_neg (show ¬ 0 < k by omega)]; done)
                                          | (rw [up_no (by omega), up_no (by omega), up_eq]; unfold rpu; rw [← hk, if_pos (show 0 < k by omega), hron, if_pos hxf]; rw [hy]; split <;> omega)
                                          | (rw [up_no (by omega), up_eq]; unfold rpu; rw [← hk, if_pos (show 0 < k by omega), hron, if_neg hxf])
                                          | (exfalso; omega)
                                        · first
                                          | (rw [q8]; unfold rlo; rw [← hk, if_neg (show ¬ 0 < k by omega)]; done)
                                          | (rw [up_eq]; unfold rlo; rw [← hk, if_pos (show 0 < k by omega), hron, if_pos hxf])
                                          | (rw [up_eq]; unfold rlo; rw [← hk, if_pos (show 0 < k by omega), hron, if_neg hxf])
                                          | (exfalso; omega)
                                        · first
                                          | (rw [q10]; unfold rwo; rw [← hk, if_neg (show ¬ 0 < k by omega)]; done)
                                          | (rw [up_no (by omega), up_eq]; unfold rwo; rw [← hk, if_pos (show 0 < k by omega), hron, if_pos hxf])
                                          | (rw [up_no (by omega), up_no (by omega), q10]; unfold rwo; rw [← hk, if_pos (show 0 < k by omega), hron, if_neg hxf])
                                          | (exfalso; omega)
                                        · intro q j hq; first | rfl | (repeat rw [up_no (by omega)])
                                refine wp_n 1 (pc' := 257) (L' := [(2, 127), (0, t), (0, e), (0, a), (0, p), (0, x), (0, (rs c P t e a p i 11)), (0, ((i : Nat) : Int)), (0, z), (0, x2), w10]) (st' := [(0, z)]) (g' := g250) rfl ?_
                                refine wp_if_lt rfl (fun c33 => ?_) (fun c33 => ?_)
                                · refine wp_n 2 (pc' := 291) (L' := [(2, 127), (0, t), (0, e), (0, a), (0, p), (0, x), (0, (rs c P t e a p i 11)), (0, ((i : Nat) : Int)), (0, z), (0, x2), w10]) (st' := [(0, 0)]) (g' := g250) rfl ?_
                                  refine wp_eq (J291 (0) ?_) (by first | rfl | (simp; done) | (simp; omega)) (by rfl) (by rfl)
                                  · unfold rsk rst ron; rw [hz, hx]; first | (rw [if_pos (by omega)]; done) | (rw [if_neg (by omega), if_pos (by omega)]; done) | (rw [if_neg (by omega), if_neg (by omega)])
                                · refine wp_n 1 (pc' := 262) (L' := [(2, 127), (0, t), (0, e), (0, a), (0, p), (0, x), (0, (rs c P t e a p i 11)), (0, ((i : Nat) : Int)), (0, z), (0, x2), w10]) (st' := [(0, x2)]) (g' := g250) rfl ?_
                                  refine wp_if_ge rfl (fun c34 => ?_) (fun c34 => ?_)
                                  · refine wp_n 4 (pc' := 276) (L' := [(2, 127), (0, t), (0, e), (0, a), (0, p), (0, x), (0, (rs c P t e a p i 11)), (0, ((i : Nat) : Int)), (0, z), (0, x2), w10]) (st' := [(0, 5), (2, 133), (0, z)]) (g' := g250) rfl ?_
                                    refine wp_iald (k := 133) (5) rfl rfl (by omega) (by omega) (by decide) ?_
                                    refine wp_eq (L' := [(2, 127), (0, t), (0, e), (0, a), (0, p), (0, x), (0, (rs c P t e a p i 11)), (0, ((i : Nat) : Int)), (0, z), (0, x2), w10]) (st' := [(0, (rs c P t e a p i 5)), (0, z)]) (g' := g250) ?_ (by rfl) (by rw [q5]) (by rfl)
                                    refine wp_ic_le rfl (fun c35 => ?_) (fun c35 => ?_)
                                    · refine wp_n 1 (pc' := 291) (L' := [(2, 127), (0, t), (0, e), (0, a), (0, p), (0, x), (0, (rs c P t e a p i 11)), (0, ((i : Nat) : Int)), (0, z), (0, x2), w10]) (st' := [(0, z)]) (g' := g250) rfl ?_
                                      refine wp_eq (J291 (z) ?_) (by first | rfl | (simp; done) | (simp; omega)) (by rfl) (by rfl)
                                      · unfold rsk rst ron; rw [hz, hx]; first | (rw [if_pos (by omega)]; done) | (rw [if_neg (by omega), if_pos (by omega)]; done) | (rw [if_neg (by omega), if_neg (by omega)])
                                    · refine wp_n 3 (pc' := 285) (L' := [(2, 127), (0, t), (0, e), (0, a), (0, p), (0, x), (0, (rs c P t e a p i 11)), (0, ((i : Nat) : Int)), (0, z), (0, x2), w10]) (st' := [(0, 5), (2, 133)]) (g' := g250) rfl ?_
                                      refine wp_iald (k := 133) (5) rfl rfl (by omega) (by omega) (by decide) ?_
                                      refine wp_eq (L' := [(2, 127), (0, t), (0, e), (0, a), (0, p), (0, x), (0, (rs c P t e a p i 11)), (0, ((i : Nat) : Int)), (0, z), (0, x2), w10]) (st' := [(0, (rs c P t e a p i 5))]) (g' := g250) ?_ (by rfl) (by rw [q5]) (by rfl)
                                      refine wp_n 1 (pc' := 291) (L' := [(2, 127), (0, t), (0, e), (0, a), (0, p), (0, x), (0, (rs c P t e a p i 11)), (0, ((i : Nat) : Int)), (0, z), (0, x2), w10]) (st' := [(0, (rs c P t e a p i 5))]) (g' := g250) rfl ?_
                                      refine wp_eq (J291 ((rs c P t e a p i 5)) ?_) (by first | rfl | (simp; done) | (simp; omega)) (by rfl) (by rfl)
                                      · unfold rsk rst ron; rw [hz, hx]; first | (rw [if_pos (by omega)]; done) | (rw [if_neg (by omega), if_pos (by omega)]; done) | (rw [if_neg (by omega), if_neg (by omega)])
                                  · refine wp_n 2 (pc' := 291) (L' := [(2, 127), (0, t), (0, e), (0, a), (0, p), (0, x), (0, (rs c P t e a p i 11)), (0, ((i : Nat) : Int)), (0, z), (0, x2), w10]) (st' := [(0, 0)]) (g' := g250) rfl ?_
                                    refine wp_eq (J291 (0) ?_) (by first | rfl | (simp; done) | (simp; omega)) (by rfl) (by rfl)
                                    · unfold rsk rst ron; rw [hz, hx]; first | (rw [if_pos (by omega)]; done) | (rw [if_neg (by omega), if_pos (by omega)]; done) | (rw [if_neg (by omega), if_neg (by omega)])
                              · have hbi := bmx_in (rs c P t e a p i) k
                                have hck := s7 k (by omega)
                                refine wp_n 3 (pc' := 180) (L' := [(2, 127), (0, t), (0, e), (0, a), (0, p), (0, x), (0, (rs c P t e a p i 11)), (0, ((i : Nat) : Int)), (0, ((k : Nat) : Int)), w9, w10]) (st' := [(0, ((k : Nat) : Int)), (2, 143)]) (g' := f) rfl ?_
                                refine wp_iald (k := 143) (k) rfl rfl (by omega) (by omega) (by decide) ?_
                                refine wp_eq (L' := [(2, 127), (0, t), (0, e), (0, a), (0, p), (0, x), (0, (rs c P t e a p i 11)), (0, ((i : Nat) : Int)), (0, ((k : Nat) : Int)), w9, w10]) (st' := [(0, (rs c P t e a p i (100 + k)))]) (g' := f) ?_ (by rfl) (by rw [hf 143 _ (by omega), hc _ (by omega)]) (by rfl)
                                refine wp_if_le rfl (fun c36 => ?_) (fun c36 => ?_)
                                · have hbq : ¬ (0 < rs c P t e a p i (100 + k) ∧ (bmx (rs c P t e a p i) k < 0 ∨ rs c P t e a p i (100 + (bmx (rs c P t e a p i) k).toNat) < rs c P t e a p i (100 + k))) := fun q => by have := q.1; omega
                                  refine wp_n 2 (pc' := 165) (L' := [(2, 127), (0, t), (0, e), (0, a), (0, p), (0, x), (0, (rs c P t e a p i 11)), (0, ((i : Nat) : Int)), (0, (((k : Nat) : Int) + 1)), w9, w10]) (st' := []) (g' := f) rfl ?_
                                  refine wp_eq (ih165 (k + 1) (f) ?_ ?_ ?_ ?_) (by first | rfl | (simp; done) | (simp; omega)) (by rfl) (by rfl)
                                  · omega
                                  · omega
                                  · first
                                    | (rw [bmx_s, if_neg hbq]; exact h9)
                                    | (rw [bmx_s, if_pos hbq]; exact up_eq)
                                  · first | exact hf | exact fun q j hq => by rw [up_no (by omega)]; exact hf q j hq
                                · refine wp_n 3 (pc' := 190) (L' := [(2, 127), (0, t), (0, e), (0, a), (0, p), (0, x), (0, (rs c P t e a p i 11)), (0, ((i : Nat) : Int)), (0, ((k : Nat) : Int)), w9, w10]) (st' := [(0, 9), (2, 133)]) (g' := f) rfl ?_
                                  refine wp_iald (k := 133) (9) rfl rfl (by omega) (by omega) (by decide) ?_
                                  refine wp_eq (L' := [(2, 127), (0, t), (0, e), (0, a), (0, p), (0, x), (0, (rs c P t e a p i 11)), (0, ((i : Nat) : Int)), (0, ((k : Nat) : Int)), w9, w10]) (st' := [(0, (bmx (rs c P t e a p i) k))]) (g' := f) ?_ (by rfl) (by rw [h9]) (by rfl)
                                  refine wp_if_lt rfl (fun c37 => ?_) (fun c37 => ?_)
                                  · have hbq : 0 < rs c P t e a p i (100 + k) ∧ (bmx (rs c P t e a p i) k < 0 ∨ rs c P t e a p i (100 + (bmx (rs c P t e a p i) k).toNat) < rs c P t e a p i (100 + k)) := ⟨by omega, Or.inl (by omega)⟩
                                    refine wp_n 4 (pc' := 224) (L' := [(2, 127), (0, t), (0, e), (0, a), (0, p), (0, x), (0, (rs c P t e a p i 11)), (0, ((i : Nat) : Int)), (0, ((k : Nat) : Int)), w9, w10]) (st' := [(0, ((k : Nat) : Int)), (0, 9), (2, 133)]) (g' := f) rfl ?_
                                    refine wp_iast (k := 133) (9) rfl rfl (by omega) (by omega) (by decide) ?_
                                    refine wp_n 2 (pc' := 165) (L' := [(2, 127), (0, t), (0, e), (0, a), (0, p), (0, x), (0, (rs c P t e a p i 11)), (0, ((i : Nat) : Int)), (0, (((k : Nat) : Int) + 1)), w9, w10]) (st' := []) (g' := (am_up f 133 9 ((k : Nat) : Int))) rfl ?_
                                    refine wp_eq (ih165 (k + 1) ((am_up f 133 9 ((k : Nat) : Int))) ?_ ?_ ?_ ?_) (by first | rfl | (simp; done) | (simp; omega)) (by rfl) (by rfl)
                                    · omega
                                    · omega
                                    · first
                                      | (rw [bmx_s, if_neg hbq]; exact h9)
                                      | (rw [bmx_s, if_pos hbq]; exact up_eq)
                                    · first | exact hf | exact fun q j hq => by rw [up_no (by omega)]; exact hf q j hq
                                  · have hcb := s7 (bmx (rs c P t e a p i) k).toNat (by omega)
                                    refine wp_n 3 (pc' := 200) (L' := [(2, 127), (0, t), (0, e), (0, a), (0, p), (0, x), (0, (rs c P t e a p i 11)), (0, ((i : Nat) : Int)), (0, ((k : Nat) : Int)), w9, w10]) (st' := [(0, ((k : Nat) : Int)), (2, 143)]) (g' := f) rfl ?_
                                    refine wp_iald (k := 143) (k) rfl rfl (by omega) (by omega) (by decide) ?_
                                    refine wp_eq (L' := [(2, 127), (0, t), (0, e), (0, a), (0, p), (0, x), (0, (rs c P t e a p i 11)), (0, ((i : Nat) : Int)), (0, ((k : Nat) : Int)), w9, w10]) (st' := [(0, (rs c P t e a p i (100 + k)))]) (g' := f) ?_ (by rfl) (by rw [hf 143 _ (by omega), hc _ (by omega)]) (by rfl)
                                    refine wp_n 5 (pc' := 211) (L' := [(2, 127), (0, t), (0, e), (0, a), (0, p), (0, x), (0, (rs c P t e a p i 11)), (0, ((i : Nat) : Int)), (0, ((k : Nat) : Int)), w9, w10]) (st' := [(0, 9), (2, 133), (2, 143), (0, (rs c P t e a p i (100 + k)))]) (g' := f) rfl ?_
                                    refine wp_iald (k := 133) (9) rfl rfl (by omega) (by omega) (by decide) ?_
                                    refine wp_eq (L' := [(2, 127), (0, t), (0, e), (0, a), (0, p), (0, x), (0, (rs c P t e a p i 11)), (0, ((i : Nat) : Int)), (0, ((k : Nat) : Int)), w9, w10]) (st' := [(0, (bmx (rs c P t e a p i) k)), (2, 143), (0, (rs c P t e a p i (100 + k)))]) (g' := f) ?_ (by rfl) (by rw [h9]) (by rfl)
                                    refine wp_iald (k := 143) ((bmx (rs c P t e a p i) k).toNat) rfl rfl (by omega) (by omega) (by decide) ?_
                                    refine wp_eq (L' := [(2, 127), (0, t), (0, e), (0, a), (0, p), (0, x), (0, (rs c P t e a p i 11)), (0, ((i : Nat) : Int)), (0, ((k : Nat) : Int)), w9, w10]) (st' := [(0, (rs c P t e a p i (100 + (bmx (rs c P t e a p i) k).toNat))), (0, (rs c P t e a p i (100 + k)))]) (g' := f) ?_ (by rfl) (by rw [hf 143 _ (by omega), hc _ (by omega)]) (by rfl)
                                    refine wp_ic_le rfl (fun c38 => ?_) (fun c38 => ?_)
                                    · have hbq : ¬ (0 < rs c P t e a p i (100 + k) ∧ (bmx (rs c P t e a p i) k < 0 ∨ rs c P t e a p i (100 + (bmx (rs c P t e a p i) k).toNat) < rs c P t e a p i (100 + k))) := fun q => by rcases q.2 with q | q <;> omega
                                      refine wp_n 2 (pc' := 165) (L' := [(2, 127), (0, t), (0, e), (0, a), (0, p), (0, x), (0, (rs c P t e a p i 11)), (0, ((i : Nat) : Int)), (0, (((k : Nat) : Int) + 1)), w9, w10]) (st' := []) (g' := f) rfl ?_
                                      refine wp_eq (ih165 (k + 1) (f) ?_ ?_ ?_ ?_) (by first | rfl | (simp; done) | (simp; omega)) (by rfl) (by rfl)
                                      · omega
                                      · omega
                                      · first
                                        | (rw [bmx_s, if_neg hbq]; exact h9)
                                        | (rw [bmx_s, if_pos hbq]; exact up_eq)
                                      · first | exact hf | exact fun q j hq => by rw [up_no (by omega)]; exact hf q j hq
                                    · have hbq : 0 < rs c P t e a p i (100 + k) ∧ (bmx (rs c P t e a p i) k < 0 ∨ rs c P t e a p i (100 + (bmx (rs c P t e a p i) k).toNat) < rs c P t e a p i (100 + k)) := ⟨by omega, Or.inr (by omega)⟩
                                      refine wp_n 4 (pc' := 224) (L' := [(2, 127), (0, t), (0, e), (0, a), (0, p), (0, x), (0, (rs c P t e a p i 11)), (0, ((i : Nat) : Int)), (0, ((k : Nat) : Int)), w9, w10]) (st' := [(0, ((k : Nat) : Int)), (0, 9), (2, 133)]) (g' := f) rfl ?_
                                      refine wp_iast (k := 133) (9) rfl rfl (by omega) (by omega) (by decide) ?_
                                      refine wp_n 2 (pc' := 165) (L' := [(2, 127), (0, t), (0, e), (0, a), (0, p), (0, x), (0, (rs c P t e a p i 11)), (0, ((i : Nat) : Int)), (0, (((k : Nat) : Int) + 1)), w9, w10]) (st' := []) (g' := (am_up f 133 9 ((k : Nat) : Int))) rfl ?_
                                      refine wp_eq (ih165 (k + 1) ((am_up f 133 9 ((k : Nat) : Int))) ?_ ?_ ?_ ?_) (by first | rfl | (simp; done) | (simp; omega)) (by rfl) (by rfl)
                                      · omega
                                      · omega
                                      · first
                                        | (rw [bmx_s, if_neg hbq]; exact h9)
                                        | (rw [bmx_s, if_pos hbq]; exact up_eq)
                                      · first | exact hf | exact fun q j hq => by rw [up_no (by omega)]; exact hf q j hq
                          refine wp_eq (L165 (_ + 1) (0) ((am_up h 133 9 (-1))) (Nat.lt_succ_self _) ?_ ?_ ?_) (by first | rfl | (simp; done) | (simp; omega)) (by rfl) (by rfl)
                          · exact Nat.zero_le _
                          · exact up_eq
                          · exact fun q j hq => up_no (by omega)
                        · refine wp_eq (L' := [(2, 127), (0, t), (0, e), (0, a), (0, p), (0, x), (0, (rs c P t e a p i 11)), (0, ((i : Nat) : Int)), w8, w9, w10]) (st' := [(0, 0)]) (g' := h) ?_
                          refine wp_n 4 (pc' := 129) (L' := [(2, 127), (0, t), (0, e), (0, a), (0, p), (0, x), (0, (rs c P t e a p i 11)), (0, (((i : Nat) : Int) + 1)), w8, w9, w10]) (st' := []) (g' := h) rfl ?_
                          refine wp_eq (ih129 (i + 1) (h) (w8) (w9) (w10) ?_ ?_ ?_ ?_ ?_ ?_ ?_ ?_ ?_) (by first | (rw [rs_s, if_neg p145]; rfl) | (rw [rs_s, if_pos p145, hle11]; rfl)) (by rfl) (by rfl)
                          · omega
                          · omega
                          · first | (rw [rs_s, if_neg p145]; exact n5) | (rw [rs_s, if_pos p145]; (repeat rw [up_no (by omega)]); exact e5)
                          · first | (rw [rs_s, if_neg p145]; exact n6) | (rw [rs_s, if_pos p145]; rw [up_no (by omega), up_eq, hq2 133 6 (by omega), q6]; rfl)
                          · first | (rw [rs_s, if_neg p145]; exact n7) | (rw [rs_s, if_pos p145]; exact up_eq)
                          · first | (rw [rs_s, if_neg p145]; exact n8) | (rw [rs_s, if_pos p145]; (repeat rw [up_no (by omega)]); exact e8)
                          · first | (rw [rs_s, if_neg p145]; exact n10) | (rw [rs_s, if_pos p145]; (repeat rw [up_no (by omega)]); exact e10)
                          · first
                            | (rw [rs_s, if_neg p145]; exact hc)
                            | (intro j hj
                               rw [rs_s, if_pos p145, rstep_j (by omega), up_no (by omega), up_no (by omega)]
                               have hj5 : h2 143 j = rs c P t e a p i (100 + j) := by rw [hq2 143 j (by omega), hG 143 j (by decide) (by omega)]; exact hc j hj
                               by_cases q : j = (c 14 i).toNat
                               · rw [if_pos q, ← q, up_eq, hj5]
                               · rw [if_neg q, up_nj q]; exact hj5)
                          · first | exact hF | exact ((hQ.up (by unfold Sm; omega)).up (by unfold Sm; omega)).up (by unfold Sm; omega)
                  refine wp_eq (L129 (_ + 1) (0) ((am_up (am_up (am_up (am_up (am_up h 133 5 p) 133 6 0) 133 7 (-1)) 133 8 0) 133 10 0)) ((9, 0)) ((9, 0)) ((9, 0)) (Nat.lt_succ_self _) ?_ ?_ ?_ ?_ ?_ ?_ ?_ ?_) (by rfl) (by rfl) (by rfl)
                  · exact Nat.zero_le _
                  · (repeat rw [up_no (by omega)]); rw [up_eq]; rfl
                  · (repeat rw [up_no (by omega)]); rw [up_eq]; rfl
                  · (repeat rw [up_no (by omega)]); rw [up_eq]; rfl
                  · (repeat rw [up_no (by omega)]); rw [up_eq]; rfl
                  · rw [up_eq]; rfl
                  · intro j hj; (repeat rw [up_no (by omega)]); rw [hH j (by omega)]; exact (rini_j p j).symm
                  · exact (((((hF.up (by unfold Sm; omega)).up (by unfold Sm; omega)).up (by unfold Sm; omega)).up (by unfold Sm; omega)).up (by unfold Sm; omega))
                · refine wp_n 4 (pc' := 75) (L' := [(2, 127), (0, t), (0, e), (0, a), (0, p), (0, x), (0, ((i : Nat) : Int)), (9, 0), (9, 0), (9, 0), (9, 0)]) (st' := [(0, 0), (0, ((i : Nat) : Int)), (2, 143)]) (g' := h) rfl ?_
                  refine wp_iast (k := 143) (i) rfl rfl (by omega) (by omega) (by decide) ?_
                  refine wp_n 2 (pc' := 61) (L' := [(2, 127), (0, t), (0, e), (0, a), (0, p), (0, x), (0, (((i : Nat) : Int) + 1)), (9, 0), (9, 0), (9, 0), (9, 0)]) (st' := []) (g' := (am_up h 143 i 0)) rfl ?_
                  refine wp_eq (ih61 (i + 1) ((am_up h 143 i 0)) ?_ ?_ ?_ ?_) (by first | rfl | (simp; done) | (simp; omega)) (by rfl) (by rfl)
                  · omega
                  · omega
                  · intro j hj
                    by_cases e : j = i
                    · subst e; exact up_eq
                    · rw [up_nj e]; exact hH j (by omega)
                  · exact hF.up (by unfold Sm; omega)
            refine wp_eq (L61 (_ + 1) (0) (g) (Nat.lt_succ_self _) ?_ ?_ ?_) (by first | rfl | (simp; done) | (simp; omega)) (by rfl) (by rfl)
            · exact Nat.zero_le _
            · exact fun j hj => absurd hj (Nat.not_lt_zero _)
            · exact FrN.rfl
          · refine wp_eq (L' := [(2, 127), (0, t), (0, e), (0, a), (0, p), (0, x), (9, 0), (9, 0), (9, 0), (9, 0), (9, 0)]) (st' := [(0, 0)]) (g' := g) ?_
            refine wp_n 2 (pc' := 57) (L' := [(2, 127), (0, t), (0, e), (0, a), (0, p), (0, x), (9, 0), (9, 0), (9, 0), (9, 0), (9, 0)]) (st' := [(0, (-1))]) (g' := g) rfl ?_
            exact wp_ret rfl rfl rfl ⟨_, _, rfl, Or.inr ⟨by unfold RuD; omega, rfl⟩, FrN.rfl⟩
        · refine wp_eq (L' := [(2, 127), (0, t), (0, e), (0, a), (0, p), (0, x), (9, 0), (9, 0), (9, 0), (9, 0), (9, 0)]) (st' := [(0, 0)]) (g' := g) ?_
          refine wp_n 2 (pc' := 57) (L' := [(2, 127), (0, t), (0, e), (0, a), (0, p), (0, x), (9, 0), (9, 0), (9, 0), (9, 0), (9, 0)]) (st' := [(0, (-1))]) (g' := g) rfl ?_
          exact wp_ret rfl rfl rfl ⟨_, _, rfl, Or.inr ⟨by unfold RuD; omega, rfl⟩, FrN.rfl⟩
      · refine wp_eq (L' := [(2, 127), (0, t), (0, e), (0, a), (0, p), (0, x), (9, 0), (9, 0), (9, 0), (9, 0), (9, 0)]) (st' := [(0, 0)]) (g' := g) ?_
        refine wp_n 2 (pc' := 57) (L' := [(2, 127), (0, t), (0, e), (0, a), (0, p), (0, x), (9, 0), (9, 0), (9, 0), (9, 0), (9, 0)]) (st' := [(0, (-1))]) (g' := g) rfl ?_
        exact wp_ret rfl rfl rfl ⟨_, _, rfl, Or.inr ⟨by unfold RuD; omega, rfl⟩, FrN.rfl⟩
    · refine wp_eq (L' := [(2, 127), (0, t), (0, e), (0, a), (0, p), (0, x), (9, 0), (9, 0), (9, 0), (9, 0), (9, 0)]) (st' := [(0, 0)]) (g' := g) ?_
      refine wp_n 2 (pc' := 57) (L' := [(2, 127), (0, t), (0, e), (0, a), (0, p), (0, x), (9, 0), (9, 0), (9, 0), (9, 0), (9, 0)]) (st' := [(0, (-1))]) (g' := g) rfl ?_
      exact wp_ret rfl rfl rfl ⟨_, _, rfl, Or.inr ⟨by unfold RuD; omega, rfl⟩, FrN.rfl⟩
  · refine wp_eq (L' := [(2, 127), (0, t), (0, e), (0, a), (0, p), (0, x), (9, 0), (9, 0), (9, 0), (9, 0), (9, 0)]) (st' := [(0, 0)]) (g' := g) ?_
    refine wp_n 2 (pc' := 57) (L' := [(2, 127), (0, t), (0, e), (0, a), (0, p), (0, x), (9, 0), (9, 0), (9, 0), (9, 0), (9, 0)]) (st' := [(0, (-1))]) (g' := g) rfl ?_
    exact wp_ret rfl rfl rfl ⟨_, _, rfl, Or.inr ⟨by unfold RuD; omega, rfl⟩, FrN.rfl⟩
theorem C_run {sn : Nat} {sx : Nat → Int} {b : Nat} {g : am_G} {P : Nat} {t e a p x : Int} (h_t : R32 t) (h_e : R32 e) (h_a : R32 a) (h_p : R32 p) (h_x : R32 x) (hI : CInv P g) : Ev sn sx 8 122 [(2, 0), (0, t), (0, e), (0, a), (0, p), (0, x)] (SH b) g (CPost P g (fun c1 v1 => RuA g P t e a p x v1 ∧ CoE g c1)) := (e_run h_t h_e h_a h_p h_x hI).mono fun r hh => cpost_q (A := RuA g P t e a p x) hI hh
theorem M_run {sn : Nat} {sx : Nat → Int} {b : Nat} {g c : am_G} {P : Nat} {t e a p x : Int} (h_t : R32 t) (h_e : R32 e) (h_a : R32 a) (h_p : R32 p) (h_x : R32 x) (hI : CInv P c) (hM : MRel c g) : Ev sn sx 5 243 [(2, 127), (0, t), (0, e), (0, a), (0, p), (0, x)] (SH b) g (MPost b g (fun c1 v1 => RuA c P t e a p x v1 ∧ CoE c c1)) := (m_run h_t h_e h_a h_p h_x hI hM).mono fun r hh => mpost_n (A := RuA c P t e a p x) hM (fun x y h h' => by
  rcases h with h | h <;> rcases h' with h' | h'
  · exact h.2.trans h'.2.symm
  · exact absurd h.1 h'.1
  · exact absurd h'.1 h.1
  · exact h.2.trans h'.2.symm) hh
