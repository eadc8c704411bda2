/-! PUBLIC METHODS: foretold, odds -/
theorem rollF_t {c : am_G} {P : Nat} {tl : Int} : ∀ (n : Nat) (p v t : Int), t ≤ (rollF c P tl n p v t).2 ∧ (rollF c P tl n p v t).2 ≤ t + (n : Int) := by
  intro n
  induction n with
  | zero => intro p v t; show t ≤ t ∧ t ≤ t + 0; omega
  | succ n ih =>
    intro p v t
    rw [rollF]
    split
    · show t ≤ t ∧ t ≤ t + _
      omega
    · have := ih ((p + v) % (8 * (P : Int))) (v - clL (tv c (NL P tl v p t) (c 6 4) 0 1)) (t + 1)
      omega
theorem rOff_in (c : am_G) (P w : Nat) (p s : Int) : 0 ≤ rOff c P w p s ∧ rOff c P w p s ≤ 600 := by
  have := rollF_t (c := c) (P := P) (tl := c 5 w) 600 (p % (8 * (P : Int))) s 0
  unfold rOff
  omega
def FtD (P : Nat) (w p s d u x : Int) : Prop := 0 ≤ w ∧ w ≤ 3 ∧ 0 ≤ p ∧ p < 8 * (P : Int) ∧ 1 ≤ s ∧ s ≤ 999 ∧ 0 ≤ d ∧ d < 8 * (P : Int) ∧ 0 ≤ u ∧ u ≤ 99 ∧ ((0 ≤ x ∧ x ≤ 2) ∨ (100 ≤ x ∧ x < 100 + (P : Int)) ∨ (200 ≤ x ∧ x ≤ 800))
def foF (c : am_G) (P : Nat) (w p s d u : Int) (j : Nat) : Int := fore c P w.toNat p s d u j 5
def ftV (c : am_G) (P : Nat) (w p s d u x : Int) : Int := if 200 ≤ x then (if x - 200 ≤ rOff c P w.toNat p s then 1 else 0) else if 100 ≤ x then foF c P w p s d u (x - 100).toNat else if x = 0 then (gmx (foF c P w p s d u) (P - 1) : Int) else if x = 1 then foF c P w p s d u (gmx (foF c P w p s d u) (P - 1)) else foF c P w p s d u (gmx (foF c P w p s d u) (P - 1)) * (c 10 16 + 1) - 10000
def FtA (c : am_G) (P : Nat) (w p s d u x v : Int) : Prop := (FtD P w p s d u x ∧ v = ftV c P w p s d u x) ∨ (¬ FtD P w p s d u x ∧ v = -1000000)
set_option maxHeartbeats 400000 in
set_option maxRecDepth 20000 in
theorem e_greatest {sn : Nat} {sx : Nat → Int} {b : Nat} {g : am_G} {P : Nat} (hP : g 0 0 = (P : Int)) (h5 : 5 ≤ P ∧ P ≤ 37) (hr : ∀ j, j < P → 0 ≤ g 126 j ∧ g 126 j ≤ 600000) : Ev sn sx 1 142 [(2, 0), (2, 126)] (SH b) g (fun r => r = (some (0, ((gmx (g 126) (P - 1) : Nat) : Int)), SH b, g)) := by
  refine ev_of (K := 0) T142 (by decide) rfl rfl (Nat.le_of_ble_eq_true rfl) ?_
  refine wp_eq (L' := [(2, 0), (2, 126), (9, 0), (9, 0)]) (st' := []) (g' := g) ?_
  refine wp_n 4 (pc' := 4) (L' := [(2, 0), (2, 126), (0, 0), (0, 1)]) (st' := []) (g' := g) rfl ?_
  have L4 : ∀ (lf : Nat) (i : Nat), P - i < lf → (i + 1 ≤ P) → Wp sn sx 0 T142 4 [(2, 0), (2, 126), (0, (((gmx (g 126) i) : Nat) : Int)), (0, (((i + 1) : Nat) : Int))] [] (SH b) g (fun r => r = (some (0, ((gmx (g 126) (P - 1) : Nat) : Int)), SH b, g)) := by
    intro lf
    induction lf with
    | zero => intro i hlf; exact absurd hlf (Nat.not_lt_zero _)
    | succ lf ih4 =>
      intro i hlf hi
      refine wp_n 3 (pc' := 9) (L' := [(2, 0), (2, 126), (0, (((gmx (g 126) i) : Nat) : Int)), (0, (((i + 1) : Nat) : Int))]) (st' := [(0, (g 0 0)), (0, (((i + 1) : Nat) : Int))]) (g' := g) rfl ?_
      refine wp_eq (L' := [(2, 0), (2, 126), (0, (((gmx (g 126) i) : Nat) : Int)), (0, (((i + 1) : Nat) : Int))]) (st' := [(0, ((P : Nat) : Int)), (0, (((i + 1) : Nat) : Int))]) (g' := g) ?_ (by rfl) (by rw [hP]) (by rfl)
      refine wp_ic_ge rfl (fun c1 => ?_) (fun c1 => ?_)
      · have hk2 : P - 1 = i := by omega
        refine wp_n 1 (pc' := 36) (L' := [(2, 0), (2, 126), (0, (((gmx (g 126) i) : Nat) : Int)), (0, (((i + 1) : Nat) : Int))]) (st' := [(0, (((gmx (g 126) i) : Nat) : Int))]) (g' := g) rfl ?_
        exact wp_ret rfl rfl rfl (by rw [hk2])
      · have hg1 := gmx_le (g 126) i
        have hr1 := hr (i + 1) (by omega)
        have hr2 := hr (gmx (g 126) i) (by omega)
        refine wp_n 3 (pc' := 15) (L' := [(2, 0), (2, 126), (0, (((gmx (g 126) i) : Nat) : Int)), (0, (((i + 1) : Nat) : Int))]) (st' := [(0, 37), (0, (((i + 1) : Nat) : Int))]) (g' := g) rfl ?_
        refine wp_ic_ge rfl (fun c2 => ?_) (fun c2 => ?_)
        · exfalso; omega
        · refine wp_n 2 (pc' := 20) (L' := [(2, 0), (2, 126), (0, (((gmx (g 126) i) : Nat) : Int)), (0, (((i + 1) : Nat) : Int))]) (st' := [(0, (((i + 1) : Nat) : Int)), (2, 126)]) (g' := g) rfl ?_
          refine wp_iald (k := 126) (((i + 1))) rfl rfl (by omega) (by omega) (by decide) ?_
          refine wp_n 2 (pc' := 23) (L' := [(2, 0), (2, 126), (0, (((gmx (g 126) i) : Nat) : Int)), (0, (((i + 1) : Nat) : Int))]) (st' := [(0, (((gmx (g 126) i) : Nat) : Int)), (2, 126), (0, (g 126 ((i + 1))))]) (g' := g) rfl ?_
          refine wp_iald (k := 126) (((gmx (g 126) i))) rfl rfl (by omega) (by omega) (by decide) ?_
          refine wp_ic_le rfl (fun c3 => ?_) (fun c3 => ?_)
          · have hq : ¬ g 126 (gmx (g 126) i) < g 126 (i + 1) := by omega
            refine wp_n 2 (pc' := 4) (L' := [(2, 0), (2, 126), (0, (((gmx (g 126) i) : Nat) : Int)), (0, ((((i + 1) : Nat) : Int) + 1))]) (st' := []) (g' := g) rfl ?_
            refine wp_eq (ih4 (i + 1) ?_ ?_) (by first | (rw [gmx_s, if_pos hq]; rfl) | (rw [gmx_s, if_neg hq]; rfl)) (by rfl) (by rfl)
            · omega
            · omega
          · have hq : g 126 (gmx (g 126) i) < g 126 (i + 1) := by omega
            refine wp_n 4 (pc' := 4) (L' := [(2, 0), (2, 126), (0, (((i + 1) : Nat) : Int)), (0, ((((i + 1) : Nat) : Int) + 1))]) (st' := []) (g' := g) rfl ?_
            refine wp_eq (ih4 (i + 1) ?_ ?_) (by first | (rw [gmx_s, if_pos hq]; rfl) | (rw [gmx_s, if_neg hq]; rfl)) (by rfl) (by rfl)
            · omega
            · omega
  refine wp_eq (L4 (_ + 1) (0) (Nat.lt_succ_self _) ?_) (by first | rfl | (simp; done) | (simp; omega)) (by rfl) (by rfl)
  · omega
set_option maxHeartbeats 400000 in
set_option maxRecDepth 20000 in
theorem m_best {sn : Nat} {sx : Nat → Int} {b : Nat} {g : am_G} {P : Nat} (hP : g 127 0 = (P : Int)) (h5 : 5 ≤ P ∧ P ≤ 37) (hr : ∀ j, j < P → 0 ≤ g 135 j ∧ g 135 j ≤ 600000) : Ev sn sx 1 199 [(2, 127)] (SH b) g (fun r => r = (some (0, ((gmx (g 135) (P - 1) : Nat) : Int)), SH b, g)) := by
  refine ev_of (K := 0) T199 (by decide) rfl rfl (Nat.le_of_ble_eq_true rfl) ?_
  refine wp_eq (L' := [(2, 127), (9, 0), (9, 0)]) (st' := []) (g' := g) ?_
  refine wp_n 4 (pc' := 4) (L' := [(2, 127), (0, 0), (0, 1)]) (st' := []) (g' := g) rfl ?_
  have L4 : ∀ (lf : Nat) (i : Nat), P - i < lf → (i + 1 ≤ P) → Wp sn sx 0 T199 4 [(2, 127), (0, (((gmx (g 135) i) : Nat) : Int)), (0, (((i + 1) : Nat) : Int))] [] (SH b) g (fun r => r = (some (0, ((gmx (g 135) (P - 1) : Nat) : Int)), SH b, g)) := by
    intro lf
    induction lf with
    | zero => intro i hlf; exact absurd hlf (Nat.not_lt_zero _)
    | succ lf ih4 =>
      intro i hlf hi
      refine wp_n 3 (pc' := 9) (L' := [(2, 127), (0, (((gmx (g 135) i) : Nat) : Int)), (0, (((i + 1) : Nat) : Int))]) (st' := [(0, (g 127 0)), (0, (((i + 1) : Nat) : Int))]) (g' := g) rfl ?_
      refine wp_eq (L' := [(2, 127), (0, (((gmx (g 135) i) : Nat) : Int)), (0, (((i + 1) : Nat) : Int))]) (st' := [(0, ((P : Nat) : Int)), (0, (((i + 1) : Nat) : Int))]) (g' := g) ?_ (by rfl) (by rw [hP]) (by rfl)
      refine wp_ic_ge rfl (fun c1 => ?_) (fun c1 => ?_)
      · have hk2 : P - 1 = i := by omega
        refine wp_n 1 (pc' := 36) (L' := [(2, 127), (0, (((gmx (g 135) i) : Nat) : Int)), (0, (((i + 1) : Nat) : Int))]) (st' := [(0, (((gmx (g 135) i) : Nat) : Int))]) (g' := g) rfl ?_
        exact wp_ret rfl rfl rfl (by rw [hk2])
      · have hg1 := gmx_le (g 135) i
        have hr1 := hr (i + 1) (by omega)
        have hr2 := hr (gmx (g 135) i) (by omega)
        refine wp_n 3 (pc' := 17) (L' := [(2, 127), (0, (((gmx (g 135) i) : Nat) : Int)), (0, (((i + 1) : Nat) : Int))]) (st' := [(0, (((i + 1) : Nat) : Int)), (2, 135)]) (g' := g) rfl ?_
        refine wp_iald (k := 135) (((i + 1))) rfl rfl (by omega) (by omega) (by decide) ?_
        refine wp_n 3 (pc' := 23) (L' := [(2, 127), (0, (((gmx (g 135) i) : Nat) : Int)), (0, (((i + 1) : Nat) : Int))]) (st' := [(0, (((gmx (g 135) i) : Nat) : Int)), (2, 135), (0, (g 135 ((i + 1))))]) (g' := g) rfl ?_
        refine wp_iald (k := 135) (((gmx (g 135) i))) rfl rfl (by omega) (by omega) (by decide) ?_
        refine wp_ic_le rfl (fun c2 => ?_) (fun c2 => ?_)
        · have hq : ¬ g 135 (gmx (g 135) i) < g 135 (i + 1) := by omega
          refine wp_n 2 (pc' := 4) (L' := [(2, 127), (0, (((gmx (g 135) i) : Nat) : Int)), (0, ((((i + 1) : Nat) : Int) + 1))]) (st' := []) (g' := g) rfl ?_
          refine wp_eq (ih4 (i + 1) ?_ ?_) (by first | (rw [gmx_s, if_pos hq]; rfl) | (rw [gmx_s, if_neg hq]; rfl)) (by rfl) (by rfl)
          · omega
          · omega
        · have hq : g 135 (gmx (g 135) i) < g 135 (i + 1) := by omega
          refine wp_n 4 (pc' := 4) (L' := [(2, 127), (0, (((i + 1) : Nat) : Int)), (0, ((((i + 1) : Nat) : Int) + 1))]) (st' := []) (g' := g) rfl ?_
          refine wp_eq (ih4 (i + 1) ?_ ?_) (by first | (rw [gmx_s, if_pos hq]; rfl) | (rw [gmx_s, if_neg hq]; rfl)) (by rfl) (by rfl)
          · omega
          · omega
  refine wp_eq (L4 (_ + 1) (0) (Nat.lt_succ_self _) ?_) (by first | rfl | (simp; done) | (simp; omega)) (by rfl) (by rfl)
  · omega
set_option maxHeartbeats 400000 in
set_option maxRecDepth 20000 in
theorem e_foretold {sn : Nat} {sx : Nat → Int} {b : Nat} {g : am_G} {P : Nat} {w p s d u x : Int} (h_w : R32 w) (h_p : R32 p) (h_s : R32 s) (h_d : R32 d) (h_u : R32 u) (h_x : R32 x) (hI : CInv P g) : Ev sn sx 8 107 [(2, 0), (0, w), (0, p), (0, s), (0, d), (0, u), (0, x)] (SH b) g (fun y => ∃ g' v, y = (some (0, v), SH b, g') ∧ FtA g P w p s d u x v ∧ FrQ g g') := by
  have hP := hI.ck.2.1
  have h5 := hI.ck.1
  have hro := rOff_in g P w.toNat p s
  refine ev_of (K := 7) T107 (by decide) rfl rfl (Nat.le_of_ble_eq_true rfl) ?_
  refine wp_eq (L' := [(2, 0), (0, w), (0, p), (0, s), (0, d), (0, u), (0, x), (9, 0), (9, 0)]) (st' := []) (g' := g) ?_
  refine wp_n 1 (pc' := 1) (L' := [(2, 0), (0, w), (0, p), (0, s), (0, d), (0, u), (0, x), (9, 0), (9, 0)]) (st' := [(0, w)]) (g' := g) rfl ?_
  refine wp_cs (as := [(0, w)]) (rest := []) rfl (by decide) rfl (Nat.le_of_ble_eq_true rfl) (e_isWheel (by omega)) (by decide) (fun r2 h3 => ?_)
  rcases h3 with ⟨rfl, p1⟩ | ⟨rfl, p1⟩
  · refine wp_eq (L' := [(2, 0), (0, w), (0, p), (0, s), (0, d), (0, u), (0, x), (9, 0), (9, 0)]) (st' := [(0, 1)]) (g' := g) ?_
    refine wp_n 6 (pc' := 14) (L' := [(2, 0), (0, w), (0, p), (0, s), (0, d), (0, u), (0, x), (9, 0), (9, 0)]) (st' := [(0, u), (0, d), (0, s), (0, p), (2, 0)]) (g' := g) rfl ?_
    refine wp_cv (as := [(2, 0), (0, p), (0, s), (0, d), (0, u)]) (rest := []) rfl rfl rfl (Nat.le_of_ble_eq_true rfl) rfl (e_isRelease (by omega) (by omega) (by omega) (by omega) (by assumption) (by omega)) (by decide) (fun r4 h5 => ?_)
    rcases h5 with ⟨rfl, p14⟩ | ⟨rfl, p14⟩
    · refine wp_eq (L' := [(2, 0), (0, w), (0, p), (0, s), (0, d), (0, u), (0, x), (9, 0), (9, 0)]) (st' := [(0, 1)]) (g' := g) ?_
      refine wp_n 4 (pc' := 31) (L' := [(2, 0), (0, w), (0, p), (0, s), (0, d), (0, u), (0, x), (9, 0), (9, 0)]) (st' := [(0, 800), (0, 200), (0, x)]) (g' := g) rfl ?_
      refine wp_cs (as := [(0, x), (0, 200), (0, 800)]) (rest := []) rfl (by decide) rfl (Nat.le_of_ble_eq_true rfl) (e_within (by omega) (by omega) (by omega)) (by decide) (fun r7 h8 => ?_)
      rcases h8 with ⟨rfl, p6⟩ | ⟨rfl, p6⟩
      · refine wp_eq (L' := [(2, 0), (0, w), (0, p), (0, s), (0, d), (0, u), (0, x), (9, 0), (9, 0)]) (st' := [(0, 1)]) (g' := g) ?_
        refine wp_n 4 (pc' := 42) (L' := [(2, 0), (0, w), (0, p), (0, s), (0, d), (0, u), (0, x), (9, 0), (9, 0)]) (st' := [(0, w), (2, 52)]) (g' := g) rfl ?_
        refine wp_eq (L' := [(2, 0), (0, w), (0, p), (0, s), (0, d), (0, u), (0, x), (9, 0), (9, 0)]) (st' := [(0, ((w.toNat : Nat) : Int)), (2, 52)]) (g' := g) ?_ (by rfl) (by rw [Int.toNat_of_nonneg (by omega)]) (by rfl)
        refine wp_n 4 (pc' := 48) (L' := [(2, 0), (0, w), (0, p), (0, s), (0, d), (0, u), (0, x), (9, 0), (9, 0)]) (st' := [(0, u), (0, d), (0, s), (0, p), (0, ((w.toNat : Nat) : Int)), (2, 52)]) (g' := g) rfl ?_
        refine wp_cv (as := [(2, 52), (0, ((w.toNat : Nat) : Int)), (0, p), (0, s), (0, d), (0, u)]) (rest := []) rfl rfl rfl (Nat.le_of_ble_eq_true rfl) rfl (e_roll (P := P) (w := (w.toNat)) hI (by omega) (by omega) (by omega) (by omega) (by omega)) (by decide) (fun r9 h10 => ?_)
        obtain ⟨g48, rfl, hC48, hF48⟩ := h10
        refine wp_eq (L' := [(2, 0), (0, w), (0, p), (0, s), (0, d), (0, u), (0, x), (9, 0), (9, 0)]) (st' := []) (g' := g48) ?_
        refine wp_n 3 (pc' := 58) (L' := [(2, 0), (0, w), (0, p), (0, s), (0, d), (0, u), (0, x), (9, 0), (9, 0)]) (st' := [(0, (g48 52 5))]) (g' := g48) rfl ?_
        refine wp_eq (L' := [(2, 0), (0, w), (0, p), (0, s), (0, d), (0, u), (0, x), (9, 0), (9, 0)]) (st' := [(0, (rOff g P w.toNat p s))]) (g' := g48) ?_ (by rfl) (by rw [hC48.1]) (by rfl)
        refine wp_n 3 (pc' := 64) (L' := [(2, 0), (0, w), (0, p), (0, s), (0, d), (0, u), (0, x), (9, 0), (9, 0)]) (st' := [(0, (x - 200)), (0, (rOff g P w.toNat p s))]) (g' := g48) rfl ?_
        refine wp_ic_lt rfl (fun c11 => ?_) (fun c11 => ?_)
        · refine wp_n 1 (pc' := 72) (L' := [(2, 0), (0, w), (0, p), (0, s), (0, d), (0, u), (0, x), (9, 0), (9, 0)]) (st' := [(0, 0)]) (g' := g48) rfl ?_
          exact wp_ret rfl rfl rfl ⟨_, _, rfl, Or.inl ⟨by unfold FtD; omega, by unfold ftV; (repeat first | rw [if_pos (by omega)] | rw [if_neg (by omega)]); first | done | rfl | exact hO115 _ (by omega) | (exfalso; omega)⟩, hF48.q⟩
        · refine wp_n 2 (pc' := 72) (L' := [(2, 0), (0, w), (0, p), (0, s), (0, d), (0, u), (0, x), (9, 0), (9, 0)]) (st' := [(0, 1)]) (g' := g48) rfl ?_
          exact wp_ret rfl rfl rfl ⟨_, _, rfl, Or.inl ⟨by unfold FtD; omega, by unfold ftV; (repeat first | rw [if_pos (by omega)] | rw [if_neg (by omega)]); first | done | rfl | exact hO115 _ (by omega) | (exfalso; omega)⟩, hF48.q⟩
      · refine wp_eq (L' := [(2, 0), (0, w), (0, p), (0, s), (0, d), (0, u), (0, x), (9, 0), (9, 0)]) (st' := [(0, 0)]) (g' := g) ?_
        refine wp_n 6 (pc' := 83) (L' := [(2, 0), (0, w), (0, p), (0, s), (0, d), (0, u), (0, x), (9, 0), (9, 0)]) (st' := [(0, (g 0 0)), (0, 99), (0, 100), (0, x)]) (g' := g) rfl ?_
        refine wp_eq (L' := [(2, 0), (0, w), (0, p), (0, s), (0, d), (0, u), (0, x), (9, 0), (9, 0)]) (st' := [(0, ((P : Nat) : Int)), (0, 99), (0, 100), (0, x)]) (g' := g) ?_ (by rfl) (by rw [hP]) (by rfl)
        refine wp_n 1 (pc' := 84) (L' := [(2, 0), (0, w), (0, p), (0, s), (0, d), (0, u), (0, x), (9, 0), (9, 0)]) (st' := [(0, (99 + ((P : Nat) : Int))), (0, 100), (0, x)]) (g' := g) rfl ?_
        refine wp_cs (as := [(0, x), (0, 100), (0, (99 + ((P : Nat) : Int)))]) (rest := []) rfl (by decide) rfl (Nat.le_of_ble_eq_true rfl) (e_within (by omega) (by omega) (by omega)) (by decide) (fun r13 h14 => ?_)
        rcases h14 with ⟨rfl, p12⟩ | ⟨rfl, p12⟩
        · refine wp_eq (L' := [(2, 0), (0, w), (0, p), (0, s), (0, d), (0, u), (0, x), (9, 0), (9, 0)]) (st' := [(0, 1)]) (g' := g) ?_
          refine wp_n 4 (pc' := 93) (L' := [(2, 0), (0, w), (0, p), (0, s), (0, d), (0, u), (0, x), (0, 1), (9, 0)]) (st' := [(0, 2), (0, 0), (0, x)]) (g' := g) rfl ?_
          refine wp_cs (as := [(0, x), (0, 0), (0, 2)]) (rest := []) rfl (by decide) rfl (Nat.le_of_ble_eq_true rfl) (e_within (by omega) (by omega) (by omega)) (by decide) (fun r16 h17 => ?_)
          rcases h17 with ⟨rfl, p15⟩ | ⟨rfl, p15⟩
          · refine wp_eq (L' := [(2, 0), (0, w), (0, p), (0, s), (0, d), (0, u), (0, x), (0, 1), (9, 0)]) (st' := [(0, 1)]) (g' := g) ?_
            refine wp_n 3 (pc' := 109) (L' := [(2, 0), (0, w), (0, p), (0, s), (0, d), (0, u), (0, x), (0, 1), (9, 0)]) (st' := [(0, w), (2, 0)]) (g' := g) rfl ?_
            refine wp_eq (L' := [(2, 0), (0, w), (0, p), (0, s), (0, d), (0, u), (0, x), (0, 1), (9, 0)]) (st' := [(0, ((w.toNat : Nat) : Int)), (2, 0)]) (g' := g) ?_ (by rfl) (by rw [Int.toNat_of_nonneg (by omega)]) (by rfl)
            refine wp_n 4 (pc' := 115) (L' := [(2, 0), (0, w), (0, p), (0, s), (0, d), (0, u), (0, x), (0, 1), (9, 0)]) (st' := [(0, u), (0, d), (0, s), (0, p), (0, ((w.toNat : Nat) : Int)), (2, 0)]) (g' := g) rfl ?_
            refine wp_cv (as := [(2, 0), (0, ((w.toNat : Nat) : Int)), (0, p), (0, s), (0, d), (0, u)]) (rest := []) rfl rfl rfl (Nat.le_of_ble_eq_true rfl) rfl (e_foresee (P := P) (w := (w.toNat)) hI (by omega) (by omega) (by omega) (by omega) (by omega)) (by decide) (fun r18 h19 => ?_)
            obtain ⟨g115, rfl, hO115, hF115⟩ := h19
            have hO_ : ∀ j, j < P → g115 126 j = foF g P w p s d u j := hO115
            have hgm : gmx (g115 126) (P - 1) = gmx (foF g P w p s d u) (P - 1) := gmx_eq fun j hj => hO_ j (by omega)
            have hgl := gmx_le (foF g P w p s d u) (P - 1)
            have hgr : ∀ j, j < P → 0 ≤ g115 126 j ∧ g115 126 j ≤ 600000 := fun j hj => by rw [hO_ j hj]; exact fore_in hI (by omega) 5 (by decide)
            refine wp_eq (L' := [(2, 0), (0, w), (0, p), (0, s), (0, d), (0, u), (0, x), (0, 1), (9, 0)]) (st' := []) (g' := g115) ?_
            refine wp_n 7 (pc' := 132) (L' := [(2, 0), (0, w), (0, p), (0, s), (0, d), (0, u), (0, x), (0, 1), (9, 0)]) (st' := [(0, (x - 100)), (2, 126)]) (g' := g115) rfl ?_
            refine wp_iald (k := 126) ((x - 100).toNat) rfl rfl (by omega) (by omega) (by decide) ?_
            exact wp_ret rfl rfl rfl ⟨_, _, rfl, Or.inl ⟨by unfold FtD; omega, by unfold ftV; (repeat first | rw [if_pos (by omega)] | rw [if_neg (by omega)]); first | done | rfl | exact hO115 _ (by omega) | (exfalso; omega)⟩, hF115⟩
          · refine wp_eq (L' := [(2, 0), (0, w), (0, p), (0, s), (0, d), (0, u), (0, x), (0, 1), (9, 0)]) (st' := [(0, 0)]) (g' := g) ?_
            refine wp_n 5 (pc' := 109) (L' := [(2, 0), (0, w), (0, p), (0, s), (0, d), (0, u), (0, x), (0, 1), (9, 0)]) (st' := [(0, w), (2, 0)]) (g' := g) rfl ?_
            refine wp_eq (L' := [(2, 0), (0, w), (0, p), (0, s), (0, d), (0, u), (0, x), (0, 1), (9, 0)]) (st' := [(0, ((w.toNat : Nat) : Int)), (2, 0)]) (g' := g) ?_ (by rfl) (by rw [Int.toNat_of_nonneg (by omega)]) (by rfl)
            refine wp_n 4 (pc' := 115) (L' := [(2, 0), (0, w), (0, p), (0, s), (0, d), (0, u), (0, x), (0, 1), (9, 0)]) (st' := [(0, u), (0, d), (0, s), (0, p), (0, ((w.toNat : Nat) : Int)), (2, 0)]) (g' := g) rfl ?_
            refine wp_cv (as := [(2, 0), (0, ((w.toNat : Nat) : Int)), (0, p), (0, s), (0, d), (0, u)]) (rest := []) rfl rfl rfl (Nat.le_of_ble_eq_true rfl) rfl (e_foresee (P := P) (w := (w.toNat)) hI (by omega) (by omega) (by omega) (by omega) (by omega)) (by decide) (fun r20 h21 => ?_)
            obtain ⟨g115, rfl, hO115, hF115⟩ := h21
            have hO_ : ∀ j, j < P → g115 126 j = foF g P w p s d u j := hO115
            have hgm : gmx (g115 126) (P - 1) = gmx (foF g P w p s d u) (P - 1) := gmx_eq fun j hj => hO_ j (by omega)
            have hgl := gmx_le (foF g P w p s d u) (P - 1)
            have hgr : ∀ j, j < P → 0 ≤ g115 126 j ∧ g115 126 j ≤ 600000 := fun j hj => by rw [hO_ j hj]; exact fore_in hI (by omega) 5 (by decide)
            refine wp_eq (L' := [(2, 0), (0, w), (0, p), (0, s), (0, d), (0, u), (0, x), (0, 1), (9, 0)]) (st' := []) (g' := g115) ?_
            refine wp_n 7 (pc' := 132) (L' := [(2, 0), (0, w), (0, p), (0, s), (0, d), (0, u), (0, x), (0, 1), (9, 0)]) (st' := [(0, (x - 100)), (2, 126)]) (g' := g115) rfl ?_
            refine wp_iald (k := 126) ((x - 100).toNat) rfl rfl (by omega) (by omega) (by decide) ?_
            exact wp_ret rfl rfl rfl ⟨_, _, rfl, Or.inl ⟨by unfold FtD; omega, by unfold ftV; (repeat first | rw [if_pos (by omega)] | rw [if_neg (by omega)]); first | done | rfl | exact hO115 _ (by omega) | (exfalso; omega)⟩, hF115⟩
        · refine wp_eq (L' := [(2, 0), (0, w), (0, p), (0, s), (0, d), (0, u), (0, x), (9, 0), (9, 0)]) (st' := [(0, 0)]) (g' := g) ?_
          refine wp_n 4 (pc' := 93) (L' := [(2, 0), (0, w), (0, p), (0, s), (0, d), (0, u), (0, x), (0, 0), (9, 0)]) (st' := [(0, 2), (0, 0), (0, x)]) (g' := g) rfl ?_
          refine wp_cs (as := [(0, x), (0, 0), (0, 2)]) (rest := []) rfl (by decide) rfl (Nat.le_of_ble_eq_true rfl) (e_within (by omega) (by omega) (by omega)) (by decide) (fun r23 h24 => ?_)
          rcases h24 with ⟨rfl, p22⟩ | ⟨rfl, p22⟩
          · refine wp_eq (L' := [(2, 0), (0, w), (0, p), (0, s), (0, d), (0, u), (0, x), (0, 0), (9, 0)]) (st' := [(0, 1)]) (g' := g) ?_
            refine wp_n 3 (pc' := 109) (L' := [(2, 0), (0, w), (0, p), (0, s), (0, d), (0, u), (0, x), (0, 0), (9, 0)]) (st' := [(0, w), (2, 0)]) (g' := g) rfl ?_
            refine wp_eq (L' := [(2, 0), (0, w), (0, p), (0, s), (0, d), (0, u), (0, x), (0, 0), (9, 0)]) (st' := [(0, ((w.toNat : Nat) : Int)), (2, 0)]) (g' := g) ?_ (by rfl) (by rw [Int.toNat_of_nonneg (by omega)]) (by rfl)
            refine wp_n 4 (pc' := 115) (L' := [(2, 0), (0, w), (0, p), (0, s), (0, d), (0, u), (0, x), (0, 0), (9, 0)]) (st' := [(0, u), (0, d), (0, s), (0, p), (0, ((w.toNat : Nat) : Int)), (2, 0)]) (g' := g) rfl ?_
            refine wp_cv (as := [(2, 0), (0, ((w.toNat : Nat) : Int)), (0, p), (0, s), (0, d), (0, u)]) (rest := []) rfl rfl rfl (Nat.le_of_ble_eq_true rfl) rfl (e_foresee (P := P) (w := (w.toNat)) hI (by omega) (by omega) (by omega) (by omega) (by omega)) (by decide) (fun r25 h26 => ?_)
            obtain ⟨g115, rfl, hO115, hF115⟩ := h26
            have hO_ : ∀ j, j < P → g115 126 j = foF g P w p s d u j := hO115
            have hgm : gmx (g115 126) (P - 1) = gmx (foF g P w p s d u) (P - 1) := gmx_eq fun j hj => hO_ j (by omega)
            have hgl := gmx_le (foF g P w p s d u) (P - 1)
            have hgr : ∀ j, j < P → 0 ≤ g115 126 j ∧ g115 126 j ≤ 600000 := fun j hj => by rw [hO_ j hj]; exact fore_in hI (by omega) 5 (by decide)
            refine wp_eq (L' := [(2, 0), (0, w), (0, p), (0, s), (0, d), (0, u), (0, x), (0, 0), (9, 0)]) (st' := []) (g' := g115) ?_
            refine wp_n 5 (pc' := 139) (L' := [(2, 0), (0, w), (0, p), (0, s), (0, d), (0, u), (0, x), (0, 0), (9, 0)]) (st' := [(2, 126), (2, 0)]) (g' := g115) rfl ?_
            refine wp_cv (as := [(2, 0), (2, 126)]) (rest := []) rfl rfl rfl (Nat.le_of_ble_eq_true rfl) rfl (e_greatest (P := P) (by rw [hF115 0 0 (by unfold Sq; omega)]; exact hP) h5 hgr) (by decide) (fun r27 h28 => ?_)
            obtain rfl := h28
            refine wp_eq (L' := [(2, 0), (0, w), (0, p), (0, s), (0, d), (0, u), (0, x), (0, 0), (9, 0)]) (st' := [(0, (((gmx (g115 126) (P - 1)) : Nat) : Int))]) (g' := g115) ?_
            refine wp_eq (L' := [(2, 0), (0, w), (0, p), (0, s), (0, d), (0, u), (0, x), (0, 0), (9, 0)]) (st' := [(0, (((gmx (foF g P w p s d u) (P - 1)) : Nat) : Int))]) (g' := g115) ?_ (by rfl) (by rw [hgm]) (by rfl)
            refine wp_n 2 (pc' := 146) (L' := [(2, 0), (0, w), (0, p), (0, s), (0, d), (0, u), (0, x), (0, 0), (0, (((gmx (foF g P w p s d u) (P - 1)) : Nat) : Int))]) (st' := [(0, x)]) (g' := g115) rfl ?_
            refine wp_if_ne rfl (fun c29 => ?_) (fun c29 => ?_)
            · refine wp_n 2 (pc' := 155) (L' := [(2, 0), (0, w), (0, p), (0, s), (0, d), (0, u), (0, x), (0, 0), (0, (((gmx (foF g P w p s d u) (P - 1)) : Nat) : Int))]) (st' := [(0, 1), (0, x)]) (g' := g115) rfl ?_
              refine wp_ic_ne rfl (fun c30 => ?_) (fun c30 => ?_)
              · refine wp_n 3 (pc' := 174) (L' := [(2, 0), (0, w), (0, p), (0, s), (0, d), (0, u), (0, x), (0, 0), (0, (((gmx (foF g P w p s d u) (P - 1)) : Nat) : Int))]) (st' := [(0, (((gmx (foF g P w p s d u) (P - 1)) : Nat) : Int)), (2, 126)]) (g' := g115) rfl ?_
                refine wp_iald (k := 126) ((gmx (foF g P w p s d u) (P - 1))) rfl rfl (by omega) (by omega) (by decide) ?_
                refine wp_eq (L' := [(2, 0), (0, w), (0, p), (0, s), (0, d), (0, u), (0, x), (0, 0), (0, (((gmx (foF g P w p s d u) (P - 1)) : Nat) : Int))]) (st' := [(0, (foF g P w p s d u (gmx (foF g P w p s d u) (P - 1))))]) (g' := g115) ?_ (by rfl) (by rw [hO_ _ (by omega)]) (by rfl)
                refine wp_n 3 (pc' := 182) (L' := [(2, 0), (0, w), (0, p), (0, s), (0, d), (0, u), (0, x), (0, 0), (0, (((gmx (foF g P w p s d u) (P - 1)) : Nat) : Int))]) (st' := [(0, (g115 10 16)), (0, (foF g P w p s d u (gmx (foF g P w p s d u) (P - 1))))]) (g' := g115) rfl ?_
                refine wp_eq (L' := [(2, 0), (0, w), (0, p), (0, s), (0, d), (0, u), (0, x), (0, 0), (0, (((gmx (foF g P w p s d u) (P - 1)) : Nat) : Int))]) (st' := [(0, (g 10 16)), (0, (foF g P w p s d u (gmx (foF g P w p s d u) (P - 1))))]) (g' := g115) ?_ (by rfl) (by rw [hF115 10 16 (by unfold Sq; omega)]) (by rfl)
                refine wp_n 5 (pc' := 189) (L' := [(2, 0), (0, w), (0, p), (0, s), (0, d), (0, u), (0, x), (0, 0), (0, (((gmx (foF g P w p s d u) (P - 1)) : Nat) : Int))]) (st' := [(0, (((foF g P w p s d u (gmx (foF g P w p s d u) (P - 1))) * ((g 10 16) + 1)) - 10000))]) (g' := g115) rfl ?_
                exact wp_ret rfl rfl rfl ⟨_, _, rfl, Or.inl ⟨by unfold FtD; omega, by unfold ftV; (repeat first | rw [if_pos (by omega)] | rw [if_neg (by omega)]); first | done | rfl | exact hO115 _ (by omega) | (exfalso; omega)⟩, hF115⟩
              · refine wp_n 3 (pc' := 164) (L' := [(2, 0), (0, w), (0, p), (0, s), (0, d), (0, u), (0, x), (0, 0), (0, (((gmx (foF g P w p s d u) (P - 1)) : Nat) : Int))]) (st' := [(0, (((gmx (foF g P w p s d u) (P - 1)) : Nat) : Int)), (2, 126)]) (g' := g115) rfl ?_
                refine wp_iald (k := 126) ((gmx (foF g P w p s d u) (P - 1))) rfl rfl (by omega) (by omega) (by decide) ?_
                refine wp_eq (L' := [(2, 0), (0, w), (0, p), (0, s), (0, d), (0, u), (0, x), (0, 0), (0, (((gmx (foF g P w p s d u) (P - 1)) : Nat) : Int))]) (st' := [(0, (foF g P w p s d u (gmx (foF g P w p s d u) (P - 1))))]) (g' := g115) ?_ (by rfl) (by rw [hO_ _ (by omega)]) (by rfl)
                refine wp_n 1 (pc' := 189) (L' := [(2, 0), (0, w), (0, p), (0, s), (0, d), (0, u), (0, x), (0, 0), (0, (((gmx (foF g P w p s d u) (P - 1)) : Nat) : Int))]) (st' := [(0, (foF g P w p s d u (gmx (foF g P w p s d u) (P - 1))))]) (g' := g115) rfl ?_
                exact wp_ret rfl rfl rfl ⟨_, _, rfl, Or.inl ⟨by unfold FtD; omega, by unfold ftV; (repeat first | rw [if_pos (by omega)] | rw [if_neg (by omega)]); first | done | rfl | exact hO115 _ (by omega) | (exfalso; omega)⟩, hF115⟩
            · refine wp_n 1 (pc' := 151) (L' := [(2, 0), (0, w), (0, p), (0, s), (0, d), (0, u), (0, x), (0, 0), (0, (((gmx (foF g P w p s d u) (P - 1)) : Nat) : Int))]) (st' := [(0, (((gmx (foF g P w p s d u) (P - 1)) : Nat) : Int))]) (g' := g115) rfl ?_
              exact wp_ret rfl rfl rfl ⟨_, _, rfl, Or.inl ⟨by unfold FtD; omega, by unfold ftV; (repeat first | rw [if_pos (by omega)] | rw [if_neg (by omega)]); first | done | rfl | exact hO115 _ (by omega) | (exfalso; omega)⟩, hF115⟩
          · refine wp_eq (L' := [(2, 0), (0, w), (0, p), (0, s), (0, d), (0, u), (0, x), (0, 0), (9, 0)]) (st' := [(0, 0)]) (g' := g) ?_
            refine wp_n 4 (pc' := 106) (L' := [(2, 0), (0, w), (0, p), (0, s), (0, d), (0, u), (0, x), (0, 0), (9, 0)]) (st' := [(0, (-1000000))]) (g' := g) rfl ?_
            exact wp_ret rfl rfl rfl ⟨_, _, rfl, Or.inr ⟨by unfold FtD; omega, rfl⟩, FrQ.rfl⟩
    · refine wp_eq (L' := [(2, 0), (0, w), (0, p), (0, s), (0, d), (0, u), (0, x), (9, 0), (9, 0)]) (st' := [(0, 0)]) (g' := g) ?_
      refine wp_n 2 (pc' := 22) (L' := [(2, 0), (0, w), (0, p), (0, s), (0, d), (0, u), (0, x), (9, 0), (9, 0)]) (st' := [(0, (-1000000))]) (g' := g) rfl ?_
      exact wp_ret rfl rfl rfl ⟨_, _, rfl, Or.inr ⟨by unfold FtD; omega, rfl⟩, FrQ.rfl⟩
  · refine wp_eq (L' := [(2, 0), (0, w), (0, p), (0, s), (0, d), (0, u), (0, x), (9, 0), (9, 0)]) (st' := [(0, 0)]) (g' := g) ?_
    refine wp_n 2 (pc' := 22) (L' := [(2, 0), (0, w), (0, p), (0, s), (0, d), (0, u), (0, x), (9, 0), (9, 0)]) (st' := [(0, (-1000000))]) (g' := g) rfl ?_
    exact wp_ret rfl rfl rfl ⟨_, _, rfl, Or.inr ⟨by unfold FtD; omega, rfl⟩, FrQ.rfl⟩
set_option maxHeartbeats 400000 in
set_option maxRecDepth 20000 in
theorem m_foretold {sn : Nat} {sx : Nat → Int} {b : Nat} {g : am_G} {c : am_G} {P : Nat} {w p s d u x : Int} (h_w : R32 w) (h_p : R32 p) (h_s : R32 s) (h_d : R32 d) (h_u : R32 u) (h_x : R32 x) (hI : CInv P c) (hM : MRel c g) : Ev sn sx 6 200 [(2, 127), (0, w), (0, p), (0, s), (0, d), (0, u), (0, x)] (SH b) g (fun y => ∃ g' v, y = (some (0, v), SH b, g') ∧ FtA c P w p s d u x v ∧ FrN g g') := by
  have h5 := hI.ck.1
  have hP : g 127 0 = (P : Int) := hM.n.trans hI.ck.2.1
  have hro := rOff_in c P w.toNat p s
  refine ev_of (K := 5) T200 (by decide) rfl rfl (Nat.le_of_ble_eq_true rfl) ?_
  refine wp_eq (L' := [(2, 127), (0, w), (0, p), (0, s), (0, d), (0, u), (0, x), (9, 0), (9, 0)]) (st' := []) (g' := g) ?_
  refine wp_n 3 (pc' := 4) (L' := [(2, 127), (0, w), (0, p), (0, s), (0, d), (0, u), (0, x), (9, 0), (9, 0)]) (st' := [(0, 2), (0, 0), (0, x)]) (g' := g) rfl ?_
  refine wp_cs (as := [(0, x), (0, 0), (0, 2)]) (rest := []) rfl (by decide) rfl (Nat.le_of_ble_eq_true rfl) (e_isIn (by omega) (by omega) (by omega)) (by decide) (fun r2 h3 => ?_)
  rcases h3 with ⟨rfl, p1⟩ | ⟨rfl, p1⟩
  · refine wp_eq (L' := [(2, 127), (0, w), (0, p), (0, s), (0, d), (0, u), (0, x), (9, 0), (9, 0)]) (st' := [(0, 1)]) (g' := g) ?_
    refine wp_n 10 (pc' := 51) (L' := [(2, 127), (0, w), (0, p), (0, s), (0, d), (0, u), (0, x), (0, 1), (9, 0)]) (st' := [(0, u), (0, d), (0, s), (0, p), (0, w), (2, 127)]) (g' := g) rfl ?_
    refine wp_cv (as := [(2, 127), (0, w), (0, p), (0, s), (0, d), (0, u)]) (rest := []) rfl rfl rfl (Nat.le_of_ble_eq_true rfl) rfl (m_isDrop (by omega) (by omega) (by omega) (by omega) (by omega) hP h5) (by decide) (fun r4 h5 => ?_)
    rcases h5 with ⟨rfl, p51⟩ | ⟨rfl, p51⟩
    · refine wp_eq (L' := [(2, 127), (0, w), (0, p), (0, s), (0, d), (0, u), (0, x), (0, 1), (9, 0)]) (st' := [(0, 1)]) (g' := g) ?_
      refine wp_n 5 (pc' := 70) (L' := [(2, 127), (0, w), (0, p), (0, s), (0, d), (0, u), (0, x), (0, 1), (9, 0)]) (st' := [(0, 200), (0, x)]) (g' := g) rfl ?_
      refine wp_ic_lt rfl (fun c6 => ?_) (fun c6 => ?_)
      · refine wp_n 1 (pc' := 104) (L' := [(2, 127), (0, w), (0, p), (0, s), (0, d), (0, u), (0, x), (0, 1), (9, 0)]) (st' := [(2, 127)]) (g' := g) rfl ?_
        refine wp_cv (as := [(2, 127)]) (rest := []) rfl rfl rfl (Nat.le_of_ble_eq_true rfl) rfl (m_clearOdds) (by decide) (fun r7 h8 => ?_)
        obtain ⟨g104, rfl, hZ104, hF104⟩ := h8
        refine wp_eq (L' := [(2, 127), (0, w), (0, p), (0, s), (0, d), (0, u), (0, x), (0, 1), (9, 0)]) (st' := []) (g' := g104) ?_
        refine wp_n 2 (pc' := 110) (L' := [(2, 127), (0, w), (0, p), (0, s), (0, d), (0, u), (0, x), (0, 1), (0, 0)]) (st' := []) (g' := g104) rfl ?_
        have L110 : ∀ (lf : Nat) (k : Nat) (h : am_G), 5 - k < lf → (k ≤ 5) → (∀ j, j < 37 → h 135 j = fore c P w.toNat p s d u j k) → (FrN g h) → Wp sn sx 5 T200 110 [(2, 127), (0, w), (0, p), (0, s), (0, d), (0, u), (0, x), (0, 1), (0, ((k : Nat) : Int))] [] (SH b) h (fun y => ∃ g' v, y = (some (0, v), SH b, g') ∧ FtA c P w p s d u x v ∧ FrN g g') := by
          intro lf
          induction lf with
          | zero => intro k h hlf; exact absurd hlf (Nat.not_lt_zero _)
          | succ lf ih110 =>
            intro k h hlf hk hH hF
            refine wp_n 2 (pc' := 113) (L' := [(2, 127), (0, w), (0, p), (0, s), (0, d), (0, u), (0, x), (0, 1), (0, ((k : Nat) : Int))]) (st' := [(0, 5), (0, ((k : Nat) : Int))]) (g' := h) rfl ?_
            refine wp_ic_ge rfl (fun c9 => ?_) (fun c9 => ?_)
            · have hk5 : k = 5 := by omega
              rw [hk5] at hH
              have hO_ : ∀ j, j < P → h 135 j = foF c P w p s d u j := fun j hj => hH j (by omega)
              have hgm : gmx (h 135) (P - 1) = gmx (foF c P w p s d u) (P - 1) := gmx_eq fun j hj => hO_ j (by omega)
              have hgl := gmx_le (foF c P w p s d u) (P - 1)
              have hgr : ∀ j, j < P → 0 ≤ h 135 j ∧ h 135 j ≤ 600000 := fun j hj => by rw [hO_ j hj]; exact fore_in hI (by omega) 5 (by decide)
              refine wp_n 2 (pc' := 179) (L' := [(2, 127), (0, w), (0, p), (0, s), (0, d), (0, u), (0, x), (0, 1), (0, ((k : Nat) : Int))]) (st' := [(0, 100), (0, x)]) (g' := h) rfl ?_
              refine wp_ic_lt rfl (fun c10 => ?_) (fun c10 => ?_)
              · refine wp_n 1 (pc' := 194) (L' := [(2, 127), (0, w), (0, p), (0, s), (0, d), (0, u), (0, x), (0, 1), (0, ((k : Nat) : Int))]) (st' := [(2, 127)]) (g' := h) rfl ?_
                refine wp_cv (as := [(2, 127)]) (rest := []) rfl rfl rfl (Nat.le_of_ble_eq_true rfl) rfl (m_best (P := P) (by rw [hF 127 0 (by unfold Sm; omega)]; exact hP) h5 hgr) (by decide) (fun r11 h12 => ?_)
                obtain rfl := h12
                refine wp_eq (L' := [(2, 127), (0, w), (0, p), (0, s), (0, d), (0, u), (0, x), (0, 1), (0, ((k : Nat) : Int))]) (st' := [(0, (((gmx (h 135) (P - 1)) : Nat) : Int))]) (g' := h) ?_
                refine wp_eq (L' := [(2, 127), (0, w), (0, p), (0, s), (0, d), (0, u), (0, x), (0, 1), (0, ((k : Nat) : Int))]) (st' := [(0, (((gmx (foF c P w p s d u) (P - 1)) : Nat) : Int))]) (g' := h) ?_ (by rfl) (by rw [hgm]) (by rfl)
                refine wp_n 2 (pc' := 201) (L' := [(2, 127), (0, w), (0, p), (0, s), (0, d), (0, u), (0, x), (0, 1), (0, (((gmx (foF c P w p s d u) (P - 1)) : Nat) : Int))]) (st' := [(0, x)]) (g' := h) rfl ?_
                refine wp_if_ne rfl (fun c13 => ?_) (fun c13 => ?_)
                · refine wp_n 2 (pc' := 212) (L' := [(2, 127), (0, w), (0, p), (0, s), (0, d), (0, u), (0, x), (0, 1), (0, (((gmx (foF c P w p s d u) (P - 1)) : Nat) : Int))]) (st' := [(0, 1), (0, x)]) (g' := h) rfl ?_
                  refine wp_ic_ne rfl (fun c14 => ?_) (fun c14 => ?_)
                  · refine wp_n 3 (pc' := 231) (L' := [(2, 127), (0, w), (0, p), (0, s), (0, d), (0, u), (0, x), (0, 1), (0, (((gmx (foF c P w p s d u) (P - 1)) : Nat) : Int))]) (st' := [(0, (((gmx (foF c P w p s d u) (P - 1)) : Nat) : Int)), (2, 135)]) (g' := h) rfl ?_
                    refine wp_iald (k := 135) ((gmx (foF c P w p s d u) (P - 1))) rfl rfl (by omega) (by omega) (by decide) ?_
                    refine wp_eq (L' := [(2, 127), (0, w), (0, p), (0, s), (0, d), (0, u), (0, x), (0, 1), (0, (((gmx (foF c P w p s d u) (P - 1)) : Nat) : Int))]) (st' := [(0, (foF c P w p s d u (gmx (foF c P w p s d u) (P - 1))))]) (g' := h) ?_ (by rfl) (by rw [hO_ _ (by omega)]) (by rfl)
                    refine wp_n 3 (pc' := 237) (L' := [(2, 127), (0, w), (0, p), (0, s), (0, d), (0, u), (0, x), (0, 1), (0, (((gmx (foF c P w p s d u) (P - 1)) : Nat) : Int))]) (st' := [(0, 5), (2, 128), (0, (foF c P w p s d u (gmx (foF c P w p s d u) (P - 1))))]) (g' := h) rfl ?_
                    refine wp_iald (k := 128) (5) rfl rfl (by omega) (by omega) (by decide) ?_
                    refine wp_eq (L' := [(2, 127), (0, w), (0, p), (0, s), (0, d), (0, u), (0, x), (0, 1), (0, (((gmx (foF c P w p s d u) (P - 1)) : Nat) : Int))]) (st' := [(0, (c 10 16)), (0, (foF c P w p s d u (gmx (foF c P w p s d u) (P - 1))))]) (g' := h) ?_ (by rfl) (by rw [(hM.g_same hF).pay]) (by rfl)
                    refine wp_n 5 (pc' := 245) (L' := [(2, 127), (0, w), (0, p), (0, s), (0, d), (0, u), (0, x), (0, 1), (0, (((gmx (foF c P w p s d u) (P - 1)) : Nat) : Int))]) (st' := [(0, (((foF c P w p s d u (gmx (foF c P w p s d u) (P - 1))) * ((c 10 16) + 1)) - 10000))]) (g' := h) rfl ?_
                    exact wp_ret rfl rfl rfl ⟨_, _, rfl, Or.inl ⟨by unfold FtD; omega, by unfold ftV; (repeat first | rw [if_pos (by omega)] | rw [if_neg (by omega)]); first | done | rfl | exact hH _ (by omega) | (exfalso; omega)⟩, hF⟩
                  · refine wp_n 3 (pc' := 221) (L' := [(2, 127), (0, w), (0, p), (0, s), (0, d), (0, u), (0, x), (0, 1), (0, (((gmx (foF c P w p s d u) (P - 1)) : Nat) : Int))]) (st' := [(0, (((gmx (foF c P w p s d u) (P - 1)) : Nat) : Int)), (2, 135)]) (g' := h) rfl ?_
                    refine wp_iald (k := 135) ((gmx (foF c P w p s d u) (P - 1))) rfl rfl (by omega) (by omega) (by decide) ?_
                    refine wp_eq (L' := [(2, 127), (0, w), (0, p), (0, s), (0, d), (0, u), (0, x), (0, 1), (0, (((gmx (foF c P w p s d u) (P - 1)) : Nat) : Int))]) (st' := [(0, (foF c P w p s d u (gmx (foF c P w p s d u) (P - 1))))]) (g' := h) ?_ (by rfl) (by rw [hO_ _ (by omega)]) (by rfl)
                    refine wp_n 1 (pc' := 245) (L' := [(2, 127), (0, w), (0, p), (0, s), (0, d), (0, u), (0, x), (0, 1), (0, (((gmx (foF c P w p s d u) (P - 1)) : Nat) : Int))]) (st' := [(0, (foF c P w p s d u (gmx (foF c P w p s d u) (P - 1))))]) (g' := h) rfl ?_
                    exact wp_ret rfl rfl rfl ⟨_, _, rfl, Or.inl ⟨by unfold FtD; omega, by unfold ftV; (repeat first | rw [if_pos (by omega)] | rw [if_neg (by omega)]); first | done | rfl | exact hH _ (by omega) | (exfalso; omega)⟩, hF⟩
                · refine wp_n 2 (pc' := 245) (L' := [(2, 127), (0, w), (0, p), (0, s), (0, d), (0, u), (0, x), (0, 1), (0, (((gmx (foF c P w p s d u) (P - 1)) : Nat) : Int))]) (st' := [(0, (((gmx (foF c P w p s d u) (P - 1)) : Nat) : Int))]) (g' := h) rfl ?_
                  exact wp_ret rfl rfl rfl ⟨_, _, rfl, Or.inl ⟨by unfold FtD; omega, by unfold ftV; (repeat first | rw [if_pos (by omega)] | rw [if_neg (by omega)]); first | done | rfl | exact hH _ (by omega) | (exfalso; omega)⟩, hF⟩
              · refine wp_n 5 (pc' := 191) (L' := [(2, 127), (0, w), (0, p), (0, s), (0, d), (0, u), (0, x), (0, 1), (0, ((k : Nat) : Int))]) (st' := [(0, (x - 100)), (2, 135)]) (g' := h) rfl ?_
                refine wp_iald (k := 135) ((x - 100).toNat) rfl rfl (by omega) (by omega) (by decide) ?_
                exact wp_ret rfl rfl rfl ⟨_, _, rfl, Or.inl ⟨by unfold FtD; omega, by unfold ftV; (repeat first | rw [if_pos (by omega)] | rw [if_neg (by omega)]); first | done | rfl | exact hH _ (by omega) | (exfalso; omega)⟩, hF⟩
            · have hsk := mulk (x := s) (m := 999) (k := k) (by omega) (by omega)
              have huk := mulk (x := u) (m := 99) (k := k) (by omega) (by omega)
              have hlt := hI.rg.r23_26 k (by omega)
              have hMh := hM.g_same hF
              refine wp_n 5 (pc' := 125) (L' := [(2, 127), (0, w), (0, p), (0, s), (0, d), (0, u), (0, x), (0, 1), (0, ((k : Nat) : Int))]) (st' := [(0, (6 + ((k : Nat) : Int))), (2, 128)]) (g' := h) rfl ?_
              refine wp_iald (k := 128) ((6 + k)) rfl rfl (by omega) (by omega) (by decide) ?_
              refine wp_eq (L' := [(2, 127), (0, w), (0, p), (0, s), (0, d), (0, u), (0, x), (0, 1), (0, ((k : Nat) : Int))]) (st' := [(0, (c 23 k))]) (g' := h) ?_ (by rfl) (by rw [hMh.late _ (by omega)]) (by rfl)
              refine wp_if_ne rfl (fun c15 => ?_) (fun c15 => ?_)
              · refine wp_n 2 (pc' := 134) (L' := [(2, 127), (0, w), (0, p), (0, s), (0, d), (0, u), (0, x), (0, 1), (0, ((k : Nat) : Int))]) (st' := [(0, w), (2, 127)]) (g' := h) rfl ?_
                refine wp_eq (L' := [(2, 127), (0, w), (0, p), (0, s), (0, d), (0, u), (0, x), (0, 1), (0, ((k : Nat) : Int))]) (st' := [(0, ((w.toNat : Nat) : Int)), (2, 127)]) (g' := h) ?_ (by rfl) (by rw [Int.toNat_of_nonneg (by omega)]) (by rfl)
                refine wp_n 12 (pc' := 151) (L' := [(2, 127), (0, w), (0, p), (0, s), (0, d), (0, u), (0, x), (0, 1), (0, ((k : Nat) : Int))]) (st' := [(0, u), (0, (d - (u * ((k : Nat) : Int)))), (0, s), (0, (p + (s * ((k : Nat) : Int)))), (0, ((w.toNat : Nat) : Int)), (2, 127)]) (g' := h) rfl ?_
                refine wp_cv (as := [(2, 127), (0, ((w.toNat : Nat) : Int)), (0, (p + (s * ((k : Nat) : Int)))), (0, s), (0, (d - (u * ((k : Nat) : Int)))), (0, u)]) (rest := []) rfl rfl rfl (Nat.le_of_ble_eq_true rfl) rfl (m_roll (c := c) (w := (w.toNat)) hI hMh (by omega) (by omega) (by omega) (by omega) (by omega)) (by decide) (fun r16 h17 => ?_)
                obtain ⟨g151, rfl, hC151, hF151, hO151⟩ := h17
                refine wp_eq (L' := [(2, 127), (0, w), (0, p), (0, s), (0, d), (0, u), (0, x), (0, 1), (0, ((k : Nat) : Int))]) (st' := []) (g' := g151) ?_
                refine wp_n 2 (pc' := 156) (L' := [(2, 127), (0, w), (0, p), (0, s), (0, d), (0, u), (0, x), (0, 1), (0, ((k : Nat) : Int))]) (st' := [(0, w), (2, 127)]) (g' := g151) rfl ?_
                refine wp_eq (L' := [(2, 127), (0, w), (0, p), (0, s), (0, d), (0, u), (0, x), (0, 1), (0, ((k : Nat) : Int))]) (st' := [(0, ((w.toNat : Nat) : Int)), (2, 127)]) (g' := g151) ?_ (by rfl) (by rw [Int.toNat_of_nonneg (by omega)]) (by rfl)
                refine wp_n 5 (pc' := 165) (L' := [(2, 127), (0, w), (0, p), (0, s), (0, d), (0, u), (0, x), (0, 1), (0, ((k : Nat) : Int))]) (st' := [(0, (6 + ((k : Nat) : Int))), (2, 128), (0, ((w.toNat : Nat) : Int)), (2, 127)]) (g' := g151) rfl ?_
                refine wp_iald (k := 128) ((6 + k)) rfl rfl (by omega) (by omega) (by decide) ?_
                refine wp_eq (L' := [(2, 127), (0, w), (0, p), (0, s), (0, d), (0, u), (0, x), (0, 1), (0, ((k : Nat) : Int))]) (st' := [(0, (c 23 k)), (0, ((w.toNat : Nat) : Int)), (2, 127)]) (g' := g151) ?_ (by rfl) (by rw [(hMh.g_same hF151).late _ (by omega)]) (by rfl)
                refine wp_cv (as := [(2, 127), (0, ((w.toNat : Nat) : Int)), (0, (c 23 k))]) (rest := []) rfl rfl rfl (Nat.le_of_ble_eq_true rfl) rfl (m_addOdds (c := c) (w := (w.toNat)) (st := (rStud c P w.toNat (p + s * (k : Int)) s)) (pk := (rPkt c P w.toNat (p + s * (k : Int)) s (d - u * (k : Int)) u)) hI (hMh.g_same hF151) (by omega) hC151.2.1 hC151.2.2 (rStud_in _ _ _ _ _) (rPkt_in h5)) (by decide) (fun r18 h19 => ?_)
                obtain ⟨g166, rfl, hA166, hF166⟩ := h19
                refine wp_eq (L' := [(2, 127), (0, w), (0, p), (0, s), (0, d), (0, u), (0, x), (0, 1), (0, ((k : Nat) : Int))]) (st' := []) (g' := g166) ?_
                refine wp_n 2 (pc' := 110) (L' := [(2, 127), (0, w), (0, p), (0, s), (0, d), (0, u), (0, x), (0, 1), (0, (((k : Nat) : Int) + 1))]) (st' := []) (g' := g166) rfl ?_
                refine wp_eq (ih110 (k + 1) (g166) ?_ ?_ ?_ ?_) (by first | rfl | (simp; done) | (simp; omega)) (by rfl) (by rfl)
                · omega
                · omega
                · first
                  | (intro j hj; rw [fore, hA166 j hj, show g151 135 j = h 135 j from congrFun hO151 j, hH j hj]; rfl)
                  | (intro j hj; rw [fore, hH j hj, show c 23 k = 0 by omega, Int.zero_mul, Int.add_zero])
                · first | exact hF | exact (hF.trans hF151).trans (hF166.n (by decide))
              · refine wp_n 3 (pc' := 110) (L' := [(2, 127), (0, w), (0, p), (0, s), (0, d), (0, u), (0, x), (0, 1), (0, (((k : Nat) : Int) + 1))]) (st' := []) (g' := h) rfl ?_
                refine wp_eq (ih110 (k + 1) (h) ?_ ?_ ?_ ?_) (by first | rfl | (simp; done) | (simp; omega)) (by rfl) (by rfl)
                · omega
                · omega
                · first
                  | (intro j hj; rw [fore, hA166 j hj, show g151 135 j = h 135 j from congrFun hO151 j, hH j hj]; rfl)
                  | (intro j hj; rw [fore, hH j hj, show c 23 k = 0 by omega, Int.zero_mul, Int.add_zero])
                · first | exact hF | exact (hF.trans hF151).trans (hF166.n (by decide))
        refine wp_eq (L110 (_ + 1) (0) (g104) (Nat.lt_succ_self _) ?_ ?_ ?_) (by first | rfl | (simp; done) | (simp; omega)) (by rfl) (by rfl)
        · exact Nat.zero_le _
        · exact fun j hj => hZ104 j hj
        · exact hF104.n (by decide)
      · refine wp_n 2 (pc' := 75) (L' := [(2, 127), (0, w), (0, p), (0, s), (0, d), (0, u), (0, x), (0, 1), (9, 0)]) (st' := [(0, w), (2, 127)]) (g' := g) rfl ?_
        refine wp_eq (L' := [(2, 127), (0, w), (0, p), (0, s), (0, d), (0, u), (0, x), (0, 1), (9, 0)]) (st' := [(0, ((w.toNat : Nat) : Int)), (2, 127)]) (g' := g) ?_ (by rfl) (by rw [Int.toNat_of_nonneg (by omega)]) (by rfl)
        refine wp_n 4 (pc' := 81) (L' := [(2, 127), (0, w), (0, p), (0, s), (0, d), (0, u), (0, x), (0, 1), (9, 0)]) (st' := [(0, u), (0, d), (0, s), (0, p), (0, ((w.toNat : Nat) : Int)), (2, 127)]) (g' := g) rfl ?_
        refine wp_cv (as := [(2, 127), (0, ((w.toNat : Nat) : Int)), (0, p), (0, s), (0, d), (0, u)]) (rest := []) rfl rfl rfl (Nat.le_of_ble_eq_true rfl) rfl (m_roll (c := c) (w := (w.toNat)) hI hM (by omega) (by omega) (by omega) (by omega) (by omega)) (by decide) (fun r20 h21 => ?_)
        obtain ⟨g81, rfl, hC81, hF81, hO81⟩ := h21
        refine wp_eq (L' := [(2, 127), (0, w), (0, p), (0, s), (0, d), (0, u), (0, x), (0, 1), (9, 0)]) (st' := []) (g' := g81) ?_
        refine wp_n 2 (pc' := 88) (L' := [(2, 127), (0, w), (0, p), (0, s), (0, d), (0, u), (0, x), (0, 1), (9, 0)]) (st' := [(0, (g81 127 24))]) (g' := g81) rfl ?_
        refine wp_eq (L' := [(2, 127), (0, w), (0, p), (0, s), (0, d), (0, u), (0, x), (0, 1), (9, 0)]) (st' := [(0, (rOff c P w.toNat p s))]) (g' := g81) ?_ (by rfl) (by rw [hC81.1]) (by rfl)
        refine wp_n 3 (pc' := 94) (L' := [(2, 127), (0, w), (0, p), (0, s), (0, d), (0, u), (0, x), (0, 1), (9, 0)]) (st' := [(0, (x - 200)), (0, (rOff c P w.toNat p s))]) (g' := g81) rfl ?_
        refine wp_ic_lt rfl (fun c22 => ?_) (fun c22 => ?_)
        · refine wp_n 1 (pc' := 102) (L' := [(2, 127), (0, w), (0, p), (0, s), (0, d), (0, u), (0, x), (0, 1), (9, 0)]) (st' := [(0, 0)]) (g' := g81) rfl ?_
          exact wp_ret rfl rfl rfl ⟨_, _, rfl, Or.inl ⟨by unfold FtD; omega, by unfold ftV; (repeat first | rw [if_pos (by omega)] | rw [if_neg (by omega)]); first | done | rfl | exact hH _ (by omega) | (exfalso; omega)⟩, hF81⟩
        · refine wp_n 2 (pc' := 102) (L' := [(2, 127), (0, w), (0, p), (0, s), (0, d), (0, u), (0, x), (0, 1), (9, 0)]) (st' := [(0, 1)]) (g' := g81) rfl ?_
          exact wp_ret rfl rfl rfl ⟨_, _, rfl, Or.inl ⟨by unfold FtD; omega, by unfold ftV; (repeat first | rw [if_pos (by omega)] | rw [if_neg (by omega)]); first | done | rfl | exact hH _ (by omega) | (exfalso; omega)⟩, hF81⟩
    · refine wp_eq (L' := [(2, 127), (0, w), (0, p), (0, s), (0, d), (0, u), (0, x), (0, 1), (9, 0)]) (st' := [(0, 0)]) (g' := g) ?_
      refine wp_n 2 (pc' := 64) (L' := [(2, 127), (0, w), (0, p), (0, s), (0, d), (0, u), (0, x), (0, 1), (9, 0)]) (st' := [(0, (-1000000))]) (g' := g) rfl ?_
      exact wp_ret rfl rfl rfl ⟨_, _, rfl, Or.inr ⟨by unfold FtD; omega, rfl⟩, FrN.rfl⟩
  · refine wp_eq (L' := [(2, 127), (0, w), (0, p), (0, s), (0, d), (0, u), (0, x), (9, 0), (9, 0)]) (st' := [(0, 0)]) (g' := g) ?_
    refine wp_n 5 (pc' := 16) (L' := [(2, 127), (0, w), (0, p), (0, s), (0, d), (0, u), (0, x), (9, 0), (9, 0)]) (st' := [(0, (x - 100)), (2, 127)]) (g' := g) rfl ?_
    refine wp_cv (as := [(2, 127), (0, (x - 100))]) (rest := []) rfl rfl rfl (Nat.le_of_ble_eq_true rfl) rfl (m_isPocketW (by omega) hP h5) (by decide) (fun r23 h24 => ?_)
    rcases h24 with ⟨rfl, p16⟩ | ⟨rfl, p16⟩
    · refine wp_eq (L' := [(2, 127), (0, w), (0, p), (0, s), (0, d), (0, u), (0, x), (9, 0), (9, 0)]) (st' := [(0, 1)]) (g' := g) ?_
      refine wp_n 10 (pc' := 51) (L' := [(2, 127), (0, w), (0, p), (0, s), (0, d), (0, u), (0, x), (0, 1), (9, 0)]) (st' := [(0, u), (0, d), (0, s), (0, p), (0, w), (2, 127)]) (g' := g) rfl ?_
      refine wp_cv (as := [(2, 127), (0, w), (0, p), (0, s), (0, d), (0, u)]) (rest := []) rfl rfl rfl (Nat.le_of_ble_eq_true rfl) rfl (m_isDrop (by omega) (by omega) (by omega) (by omega) (by omega) hP h5) (by decide) (fun r25 h26 => ?_)
      rcases h26 with ⟨rfl, p51⟩ | ⟨rfl, p51⟩
      · refine wp_eq (L' := [(2, 127), (0, w), (0, p), (0, s), (0, d), (0, u), (0, x), (0, 1), (9, 0)]) (st' := [(0, 1)]) (g' := g) ?_
        refine wp_n 5 (pc' := 70) (L' := [(2, 127), (0, w), (0, p), (0, s), (0, d), (0, u), (0, x), (0, 1), (9, 0)]) (st' := [(0, 200), (0, x)]) (g' := g) rfl ?_
        refine wp_ic_lt rfl (fun c27 => ?_) (fun c27 => ?_)
        · refine wp_n 1 (pc' := 104) (L' := [(2, 127), (0, w), (0, p), (0, s), (0, d), (0, u), (0, x), (0, 1), (9, 0)]) (st' := [(2, 127)]) (g' := g) rfl ?_
          refine wp_cv (as := [(2, 127)]) (rest := []) rfl rfl rfl (Nat.le_of_ble_eq_true rfl) rfl (m_clearOdds) (by decide) (fun r28 h29 => ?_)
          obtain ⟨g104, rfl, hZ104, hF104⟩ := h29
          refine wp_eq (L' := [(2, 127), (0, w), (0, p), (0, s), (0, d), (0, u), (0, x), (0, 1), (9, 0)]) (st' := []) (g' := g104) ?_
          refine wp_n 2 (pc' := 110) (L' := [(2, 127), (0, w), (0, p), (0, s), (0, d), (0, u), (0, x), (0, 1), (0, 0)]) (st' := []) (g' := g104) rfl ?_
          have L110 : ∀ (lf : Nat) (k : Nat) (h : am_G), 5 - k < lf → (k ≤ 5) → (∀ j, j < 37 → h 135 j = fore c P w.toNat p s d u j k) → (FrN g h) → Wp sn sx 5 T200 110 [(2, 127), (0, w), (0, p), (0, s), (0, d), (0, u), (0, x), (0, 1), (0, ((k : Nat) : Int))] [] (SH b) h (fun y => ∃ g' v, y = (some (0, v), SH b, g') ∧ FtA c P w p s d u x v ∧ FrN g g') := by
            intro lf
            induction lf with
            | zero => intro k h hlf; exact absurd hlf (Nat.not_lt_zero _)
            | succ lf ih110 =>
              intro k h hlf hk hH hF
              refine wp_n 2 (pc' := 113) (L' := [(2, 127), (0, w), (0, p), (0, s), (0, d), (0, u), (0, x), (0, 1), (0, ((k : Nat) : Int))]) (st' := [(0, 5), (0, ((k : Nat) : Int))]) (g' := h) rfl ?_
              refine wp_ic_ge rfl (fun c30 => ?_) (fun c30 => ?_)
              · have hk5 : k = 5 := by omega
                rw [hk5] at hH
                have hO_ : ∀ j, j < P → h 135 j = foF c P w p s d u j := fun j hj => hH j (by omega)
                have hgm : gmx (h 135) (P - 1) = gmx (foF c P w p s d u) (P - 1) := gmx_eq fun j hj => hO_ j (by omega)
                have hgl := gmx_le (foF c P w p s d u) (P - 1)
                have hgr : ∀ j, j < P → 0 ≤ h 135 j ∧ h 135 j ≤ 600000 := fun j hj => by rw [hO_ j hj]; exact fore_in hI (by omega) 5 (by decide)
                refine wp_n 2 (pc' := 179) (L' := [(2, 127), (0, w), (0, p), (0, s), (0, d), (0, u), (0, x), (0, 1), (0, ((k : Nat) : Int))]) (st' := [(0, 100), (0, x)]) (g' := h) rfl ?_
                refine wp_ic_lt rfl (fun c31 => ?_) (fun c31 => ?_)
                · refine wp_n 1 (pc' := 194) (L' := [(2, 127), (0, w), (0, p), (0, s), (0, d), (0, u), (0, x), (0, 1), (0, ((k : Nat) : Int))]) (st' := [(2, 127)]) (g' := h) rfl ?_
                  refine wp_cv (as := [(2, 127)]) (rest := []) rfl rfl rfl (Nat.le_of_ble_eq_true rfl) rfl (m_best (P := P) (by rw [hF 127 0 (by unfold Sm; omega)]; exact hP) h5 hgr) (by decide) (fun r32 h33 => ?_)
                  obtain rfl := h33
                  refine wp_eq (L' := [(2, 127), (0, w), (0, p), (0, s), (0, d), (0, u), (0, x), (0, 1), (0, ((k : Nat) : Int))]) (st' := [(0, (((gmx (h 135) (P - 1)) : Nat) : Int))]) (g' := h) ?_
                  refine wp_eq (L' := [(2, 127), (0, w), (0, p), (0, s), (0, d), (0, u), (0, x), (0, 1), (0, ((k : Nat) : Int))]) (st' := [(0, (((gmx (foF c P w p s d u) (P - 1)) : Nat) : Int))]) (g' := h) ?_ (by rfl) (by rw [hgm]) (by rfl)
                  refine wp_n 2 (pc' := 201) (L' := [(2, 127), (0, w), (0, p), (0, s), (0, d), (0, u), (0, x), (0, 1), (0, (((gmx (foF c P w p s d u) (P - 1)) : Nat) : Int))]) (st' := [(0, x)]) (g' := h) rfl ?_
                  refine wp_if_ne rfl (fun c34 => ?_) (fun c34 => ?_)
                  · refine wp_n 2 (pc' := 212) (L' := [(2, 127), (0, w), (0, p), (0, s), (0, d), (0, u), (0, x), (0, 1), (0, (((gmx (foF c P w p s d u) (P - 1)) : Nat) : Int))]) (st' := [(0, 1), (0, x)]) (g' := h) rfl ?_
                    refine wp_ic_ne rfl (fun c35 => ?_) (fun c35 => ?_)
                    · refine wp_n 3 (pc' := 231) (L' := [(2, 127), (0, w), (0, p), (0, s), (0, d), (0, u), (0, x), (0, 1), (0, (((gmx (foF c P w p s d u) (P - 1)) : Nat) : Int))]) (st' := [(0, (((gmx (foF c P w p s d u) (P - 1)) : Nat) : Int)), (2, 135)]) (g' := h) rfl ?_
                      refine wp_iald (k := 135) ((gmx (foF c P w p s d u) (P - 1))) rfl rfl (by omega) (by omega) (by decide) ?_
                      refine wp_eq (L' := [(2, 127), (0, w), (0, p), (0, s), (0, d), (0, u), (0, x), (0, 1), (0, (((gmx (foF c P w p s d u) (P - 1)) : Nat) : Int))]) (st' := [(0, (foF c P w p s d u (gmx (foF c P w p s d u) (P - 1))))]) (g' := h) ?_ (by rfl) (by rw [hO_ _ (by omega)]) (by rfl)
                      refine wp_n 3 (pc' := 237) (L' := [(2, 127), (0, w), (0, p), (0, s), (0, d), (0, u), (0, x), (0, 1), (0, (((gmx (foF c P w p s d u) (P - 1)) : Nat) : Int))]) (st' := [(0, 5), (2, 128), (0, (foF c P w p s d u (gmx (foF c P w p s d u) (P - 1))))]) (g' := h) rfl ?_
                      refine wp_iald (k := 128) (5) rfl rfl (by omega) (by omega) (by decide) ?_
                      refine wp_eq (L' := [(2, 127), (0, w), (0, p), (0, s), (0, d), (0, u), (0, x), (0, 1), (0, (((gmx (foF c P w p s d u) (P - 1)) : Nat) : Int))]) (st' := [(0, (c 10 16)), (0, (foF c P w p s d u (gmx (foF c P w p s d u) (P - 1))))]) (g' := h) ?_ (by rfl) (by rw [(hM.g_same hF).pay]) (by rfl)
                      refine wp_n 5 (pc' := 245) (L' := [(2, 127), (0, w), (0, p), (0, s), (0, d), (0, u), (0, x), (0, 1), (0, (((gmx (foF c P w p s d u) (P - 1)) : Nat) : Int))]) (st' := [(0, (((foF c P w p s d u (gmx (foF c P w p s d u) (P - 1))) * ((c 10 16) + 1)) - 10000))]) (g' := h) rfl ?_
                      exact wp_ret rfl rfl rfl ⟨_, _, rfl, Or.inl ⟨by unfold FtD; omega, by unfold ftV; (repeat first | rw [if_pos (by omega)] | rw [if_neg (by omega)]); first | done | rfl | exact hH _ (by omega) | (exfalso; omega)⟩, hF⟩
                    · refine wp_n 3 (pc' := 221) (L' := [(2, 127), (0, w), (0, p), (0, s), (0, d), (0, u), (0, x), (0, 1), (0, (((gmx (foF c P w p s d u) (P - 1)) : Nat) : Int))]) (st' := [(0, (((gmx (foF c P w p s d u) (P - 1)) : Nat) : Int)), (2, 135)]) (g' := h) rfl ?_
                      refine wp_iald (k := 135) ((gmx (foF c P w p s d u) (P - 1))) rfl rfl (by omega) (by omega) (by decide) ?_
                      refine wp_eq (L' := [(2, 127), (0, w), (0, p), (0, s), (0, d), (0, u), (0, x), (0, 1), (0, (((gmx (foF c P w p s d u) (P - 1)) : Nat) : Int))]) (st' := [(0, (foF c P w p s d u (gmx (foF c P w p s d u) (P - 1))))]) (g' := h) ?_ (by rfl) (by rw [hO_ _ (by omega)]) (by rfl)
                      refine wp_n 1 (pc' := 245) (L' := [(2, 127), (0, w), (0, p), (0, s), (0, d), (0, u), (0, x), (0, 1), (0, (((gmx (foF c P w p s d u) (P - 1)) : Nat) : Int))]) (st' := [(0, (foF c P w p s d u (gmx (foF c P w p s d u) (P - 1))))]) (g' := h) rfl ?_
                      exact wp_ret rfl rfl rfl ⟨_, _, rfl, Or.inl ⟨by unfold FtD; omega, by unfold ftV; (repeat first | rw [if_pos (by omega)] | rw [if_neg (by omega)]); first | done | rfl | exact hH _ (by omega) | (exfalso; omega)⟩, hF⟩
                  · refine wp_n 2 (pc' := 245) (L' := [(2, 127), (0, w), (0, p), (0, s), (0, d), (0, u), (0, x), (0, 1), (0, (((gmx (foF c P w p s d u) (P - 1)) : Nat) : Int))]) (st' := [(0, (((gmx (foF c P w p s d u) (P - 1)) : Nat) : Int))]) (g' := h) rfl ?_
                    exact wp_ret rfl rfl rfl ⟨_, _, rfl, Or.inl ⟨by unfold FtD; omega, by unfold ftV; (repeat first | rw [if_pos (by omega)] | rw [if_neg (by omega)]); first | done | rfl | exact hH _ (by omega) | (exfalso; omega)⟩, hF⟩
                · refine wp_n 5 (pc' := 191) (L' := [(2, 127), (0, w), (0, p), (0, s), (0, d), (0, u), (0, x), (0, 1), (0, ((k : Nat) : Int))]) (st' := [(0, (x - 100)), (2, 135)]) (g' := h) rfl ?_
                  refine wp_iald (k := 135) ((x - 100).toNat) rfl rfl (by omega) (by omega) (by decide) ?_
                  exact wp_ret rfl rfl rfl ⟨_, _, rfl, Or.inl ⟨by unfold FtD; omega, by unfold ftV; (repeat first | rw [if_pos (by omega)] | rw [if_neg (by omega)]); first | done | rfl | exact hH _ (by omega) | (exfalso; omega)⟩, hF⟩
              · have hsk := mulk (x := s) (m := 999) (k := k) (by omega) (by omega)
                have huk := mulk (x := u) (m := 99) (k := k) (by omega) (by omega)
                have hlt := hI.rg.r23_26 k (by omega)
                have hMh := hM.g_same hF
                refine wp_n 5 (pc' := 125) (L' := [(2, 127), (0, w), (0, p), (0, s), (0, d), (0, u), (0, x), (0, 1), (0, ((k : Nat) : Int))]) (st' := [(0, (6 + ((k : Nat) : Int))), (2, 128)]) (g' := h) rfl ?_
                refine wp_iald (k := 128) ((6 + k)) rfl rfl (by omega) (by omega) (by decide) ?_
                refine wp_eq (L' := [(2, 127), (0, w), (0, p), (0, s), (0, d), (0, u), (0, x), (0, 1), (0, ((k : Nat) : Int))]) (st' := [(0, (c 23 k))]) (g' := h) ?_ (by rfl) (by rw [hMh.late _ (by omega)]) (by rfl)
                refine wp_if_ne rfl (fun c36 => ?_) (fun c36 => ?_)
                · refine wp_n 2 (pc' := 134) (L' := [(2, 127), (0, w), (0, p), (0, s), (0, d), (0, u), (0, x), (0, 1), (0, ((k : Nat) : Int))]) (st' := [(0, w), (2, 127)]) (g' := h) rfl ?_
                  refine wp_eq (L' := [(2, 127), (0, w), (0, p), (0, s), (0, d), (0, u), (0, x), (0, 1), (0, ((k : Nat) : Int))]) (st' := [(0, ((w.toNat : Nat) : Int)), (2, 127)]) (g' := h) ?_ (by rfl) (by rw [Int.toNat_of_nonneg (by omega)]) (by rfl)
                  refine wp_n 12 (pc' := 151) (L' := [(2, 127), (0, w), (0, p), (0, s), (0, d), (0, u), (0, x), (0, 1), (0, ((k : Nat) : Int))]) (st' := [(0, u), (0, (d - (u * ((k : Nat) : Int)))), (0, s), (0, (p + (s * ((k : Nat) : Int)))), (0, ((w.toNat : Nat) : Int)), (2, 127)]) (g' := h) rfl ?_
                  refine wp_cv (as := [(2, 127), (0, ((w.toNat : Nat) : Int)), (0, (p + (s * ((k : Nat) : Int)))), (0, s), (0, (d - (u * ((k : Nat) : Int)))), (0, u)]) (rest := []) rfl rfl rfl (Nat.le_of_ble_eq_true rfl) rfl (m_roll (c := c) (w := (w.toNat)) hI hMh (by omega) (by omega) (by omega) (by omega) (by omega)) (by decide) (fun r37 h38 => ?_)
                  obtain ⟨g151, rfl, hC151, hF151, hO151⟩ := h38
                  refine wp_eq (L' := [(2, 127), (0, w), (0, p), (0, s), (0, d), (0, u), (0, x), (0, 1), (0, ((k : Nat) : Int))]) (st' := []) (g' := g151) ?_
                  refine wp_n 2 (pc' := 156) (L' := [(2, 127), (0, w), (0, p), (0, s), (0, d), (0, u), (0, x), (0, 1), (0, ((k : Nat) : Int))]) (st' := [(0, w), (2, 127)]) (g' := g151) rfl ?_
                  refine wp_eq (L' := [(2, 127), (0, w), (0, p), (0, s), (0, d), (0, u), (0, x), (0, 1), (0, ((k : Nat) : Int))]) (st' := [(0, ((w.toNat : Nat) : Int)), (2, 127)]) (g' := g151) ?_ (by rfl) (by rw [Int.toNat_of_nonneg (by omega)]) (by rfl)
                  refine wp_n 5 (pc' := 165) (L' := [(2, 127), (0, w), (0, p), (0, s), (0, d), (0, u), (0, x), (0, 1), (0, ((k : Nat) : Int))]) (st' := [(0, (6 + ((k : Nat) : Int))), (2, 128), (0, ((w.toNat : Nat) : Int)), (2, 127)]) (g' := g151) rfl ?_
                  refine wp_iald (k := 128) ((6 + k)) rfl rfl (by omega) (by omega) (by decide) ?_
                  refine wp_eq (L' := [(2, 127), (0, w), (0, p), (0, s), (0, d), (0, u), (0, x), (0, 1), (0, ((k : Nat) : Int))]) (st' := [(0, (c 23 k)), (0, ((w.toNat : Nat) : Int)), (2, 127)]) (g' := g151) ?_ (by rfl) (by rw [(hMh.g_same hF151).late _ (by omega)]) (by rfl)
                  refine wp_cv (as := [(2, 127), (0, ((w.toNat : Nat) : Int)), (0, (c 23 k))]) (rest := []) rfl rfl rfl (Nat.le_of_ble_eq_true rfl) rfl (m_addOdds (c := c) (w := (w.toNat)) (st := (rStud c P w.toNat (p + s * (k : Int)) s)) (pk := (rPkt c P w.toNat (p + s * (k : Int)) s (d - u * (k : Int)) u)) hI (hMh.g_same hF151) (by omega) hC151.2.1 hC151.2.2 (rStud_in _ _ _ _ _) (rPkt_in h5)) (by decide) (fun r39 h40 => ?_)
                  obtain ⟨g166, rfl, hA166, hF166⟩ := h40
                  refine wp_eq (L' := [(2, 127), (0, w), (0, p), (0, s), (0, d), (0, u), (0, x), (0, 1), (0, ((k : Nat) : Int))]) (st' := []) (g' := g166) ?_
                  refine wp_n 2 (pc' := 110) (L' := [(2, 127), (0, w), (0, p), (0, s), (0, d), (0, u), (0, x), (0, 1), (0, (((k : Nat) : Int) + 1))]) (st' := []) (g' := g166) rfl ?_
                  refine wp_eq (ih110 (k + 1) (g166) ?_ ?_ ?_ ?_) (by first | rfl | (simp; done) | (simp; omega)) (by rfl) (by rfl)
                  · omega
                  · omega
                  · first
                    | (intro j hj; rw [fore, hA166 j hj, show g151 135 j = h 135 j from congrFun hO151 j, hH j hj]; rfl)
                    | (intro j hj; rw [fore, hH j hj, show c 23 k = 0 by omega, Int.zero_mul, Int.add_zero])
                  · first | exact hF | exact (hF.trans hF151).trans (hF166.n (by decide))
                · refine wp_n 3 (pc' := 110) (L' := [(2, 127), (0, w), (0, p), (0, s), (0, d), (0, u), (0, x), (0, 1), (0, (((k : Nat) : Int) + 1))]) (st' := []) (g' := h) rfl ?_
                  refine wp_eq (ih110 (k + 1) (h) ?_ ?_ ?_ ?_) (by first | rfl | (simp; done) | (simp; omega)) (by rfl) (by rfl)
                  · omega
                  · omega
                  · first
                    | (intro j hj; rw [fore, hA166 j hj, show g151 135 j = h 135 j from congrFun hO151 j, hH j hj]; rfl)
                    | (intro j hj; rw [fore, hH j hj, show c 23 k = 0 by omega, Int.zero_mul, Int.add_zero])
                  · first | exact hF | exact (hF.trans hF151).trans (hF166.n (by decide))
          refine wp_eq (L110 (_ + 1) (0) (g104) (Nat.lt_succ_self _) ?_ ?_ ?_) (by first | rfl | (simp; done) | (simp; omega)) (by rfl) (by rfl)
          · exact Nat.zero_le _
          · exact fun j hj => hZ104 j hj
          · exact hF104.n (by decide)
        · refine wp_n 2 (pc' := 75) (L' := [(2, 127), (0, w), (0, p), (0, s), (0, d), (0, u), (0, x), (0, 1), (9, 0)]) (st' := [(0, w), (2, 127)]) (g' := g) rfl ?_
          refine wp_eq (L' := [(2, 127), (0, w), (0, p), (0, s), (0, d), (0, u), (0, x), (0, 1), (9, 0)]) (st' := [(0, ((w.toNat : Nat) : Int)), (2, 127)]) (g' := g) ?_ (by rfl) (by rw [Int.toNat_of_nonneg (by omega)]) (by rfl)
          refine wp_n 4 (pc' := 81) (L' := [(2, 127), (0, w), (0, p), (0, s), (0, d), (0, u), (0, x), (0, 1), (9, 0)]) (st' := [(0, u), (0, d), (0, s), (0, p), (0, ((w.toNat : Nat) : Int)), (2, 127)]) (g' := g) rfl ?_
          refine wp_cv (as := [(2, 127), (0, ((w.toNat : Nat) : Int)), (0, p), (0, s), (0, d), (0, u)]) (rest := []) rfl rfl rfl (Nat.le_of_ble_eq_true rfl) rfl (m_roll (c := c) (w := (w.toNat)) hI hM (by omega) (by omega) (by omega) (by omega) (by omega)) (by decide) (fun r41 h42 => ?_)
          obtain ⟨g81, rfl, hC81, hF81, hO81⟩ := h42
          refine wp_eq (L' := [(2, 127), (0, w), (0, p), (0, s), (0, d), (0, u), (0, x), (0, 1), (9, 0)]) (st' := []) (g' := g81) ?_
          refine wp_n 2 (pc' := 88) (L' := [(2, 127), (0, w), (0, p), (0, s), (0, d), (0, u), (0, x), (0, 1), (9, 0)]) (st' := [(0, (g81 127 24))]) (g' := g81) rfl ?_
          refine wp_eq (L' := [(2, 127), (0, w), (0, p), (0, s), (0, d), (0, u), (0, x), (0, 1), (9, 0)]) (st' := [(0, (rOff c P w.toNat p s))]) (g' := g81) ?_ (by rfl) (by rw [hC81.1]) (by rfl)
          refine wp_n 3 (pc' := 94) (L' := [(2, 127), (0, w), (0, p), (0, s), (0, d), (0, u), (0, x), (0, 1), (9, 0)]) (st' := [(0, (x - 200)), (0, (rOff c P w.toNat p s))]) (g' := g81) rfl ?_
          refine wp_ic_lt rfl (fun c43 => ?_) (fun c43 => ?_)
          · refine wp_n 1 (pc' := 102) (L' := [(2, 127), (0, w), (0, p), (0, s), (0, d), (0, u), (0, x), (0, 1), (9, 0)]) (st' := [(0, 0)]) (g' := g81) rfl ?_
            exact wp_ret rfl rfl rfl ⟨_, _, rfl, Or.inl ⟨by unfold FtD; omega, by unfold ftV; (repeat first | rw [if_pos (by omega)] | rw [if_neg (by omega)]); first | done | rfl | exact hH _ (by omega) | (exfalso; omega)⟩, hF81⟩
          · refine wp_n 2 (pc' := 102) (L' := [(2, 127), (0, w), (0, p), (0, s), (0, d), (0, u), (0, x), (0, 1), (9, 0)]) (st' := [(0, 1)]) (g' := g81) rfl ?_
            exact wp_ret rfl rfl rfl ⟨_, _, rfl, Or.inl ⟨by unfold FtD; omega, by unfold ftV; (repeat first | rw [if_pos (by omega)] | rw [if_neg (by omega)]); first | done | rfl | exact hH _ (by omega) | (exfalso; omega)⟩, hF81⟩
      · refine wp_eq (L' := [(2, 127), (0, w), (0, p), (0, s), (0, d), (0, u), (0, x), (0, 1), (9, 0)]) (st' := [(0, 0)]) (g' := g) ?_
        refine wp_n 2 (pc' := 64) (L' := [(2, 127), (0, w), (0, p), (0, s), (0, d), (0, u), (0, x), (0, 1), (9, 0)]) (st' := [(0, (-1000000))]) (g' := g) rfl ?_
        exact wp_ret rfl rfl rfl ⟨_, _, rfl, Or.inr ⟨by unfold FtD; omega, rfl⟩, FrN.rfl⟩
    · refine wp_eq (L' := [(2, 127), (0, w), (0, p), (0, s), (0, d), (0, u), (0, x), (9, 0), (9, 0)]) (st' := [(0, 0)]) (g' := g) ?_
      refine wp_n 4 (pc' := 30) (L' := [(2, 127), (0, w), (0, p), (0, s), (0, d), (0, u), (0, x), (9, 0), (9, 0)]) (st' := [(0, 800), (0, 200), (0, x)]) (g' := g) rfl ?_
      refine wp_cs (as := [(0, x), (0, 200), (0, 800)]) (rest := []) rfl (by decide) rfl (Nat.le_of_ble_eq_true rfl) (e_isIn (by omega) (by omega) (by omega)) (by decide) (fun r45 h46 => ?_)
      rcases h46 with ⟨rfl, p44⟩ | ⟨rfl, p44⟩
      · refine wp_eq (L' := [(2, 127), (0, w), (0, p), (0, s), (0, d), (0, u), (0, x), (9, 0), (9, 0)]) (st' := [(0, 1)]) (g' := g) ?_
        refine wp_n 10 (pc' := 51) (L' := [(2, 127), (0, w), (0, p), (0, s), (0, d), (0, u), (0, x), (0, 1), (9, 0)]) (st' := [(0, u), (0, d), (0, s), (0, p), (0, w), (2, 127)]) (g' := g) rfl ?_
        refine wp_cv (as := [(2, 127), (0, w), (0, p), (0, s), (0, d), (0, u)]) (rest := []) rfl rfl rfl (Nat.le_of_ble_eq_true rfl) rfl (m_isDrop (by omega) (by omega) (by omega) (by omega) (by omega) hP h5) (by decide) (fun r47 h48 => ?_)
        rcases h48 with ⟨rfl, p51⟩ | ⟨rfl, p51⟩
        · refine wp_eq (L' := [(2, 127), (0, w), (0, p), (0, s), (0, d), (0, u), (0, x), (0, 1), (9, 0)]) (st' := [(0, 1)]) (g' := g) ?_
          refine wp_n 5 (pc' := 70) (L' := [(2, 127), (0, w), (0, p), (0, s), (0, d), (0, u), (0, x), (0, 1), (9, 0)]) (st' := [(0, 200), (0, x)]) (g' := g) rfl ?_
          refine wp_ic_lt rfl (fun c49 => ?_) (fun c49 => ?_)
          · refine wp_n 1 (pc' := 104) (L' := [(2, 127), (0, w), (0, p), (0, s), (0, d), (0, u), (0, x), (0, 1), (9, 0)]) (st' := [(2, 127)]) (g' := g) rfl ?_
            refine wp_cv (as := [(2, 127)]) (rest := []) rfl rfl rfl (Nat.le_of_ble_eq_true rfl) rfl (m_clearOdds) (by decide) (fun r50 h51 => ?_)
            obtain ⟨g104, rfl, hZ104, hF104⟩ := h51
            refine wp_eq (L' := [(2, 127), (0, w), (0, p), (0, s), (0, d), (0, u), (0, x), (0, 1), (9, 0)]) (st' := []) (g' := g104) ?_
            refine wp_n 2 (pc' := 110) (L' := [(2, 127), (0, w), (0, p), (0, s), (0, d), (0, u), (0, x), (0, 1), (0, 0)]) (st' := []) (g' := g104) rfl ?_
            have L110 : ∀ (lf : Nat) (k : Nat) (h : am_G), 5 - k < lf → (k ≤ 5) → (∀ j, j < 37 → h 135 j = fore c P w.toNat p s d u j k) → (FrN g h) → Wp sn sx 5 T200 110 [(2, 127), (0, w), (0, p), (0, s), (0, d), (0, u), (0, x), (0, 1), (0, ((k : Nat) : Int))] [] (SH b) h (fun y => ∃ g' v, y = (some (0, v), SH b, g') ∧ FtA c P w p s d u x v ∧ FrN g g') := by
              intro lf
              induction lf with
              | zero => intro k h hlf; exact absurd hlf (Nat.not_lt_zero _)
              | succ lf ih110 =>
                intro k h hlf hk hH hF
                refine wp_n 2 (pc' := 113) (L' := [(2, 127), (0, w), (0, p), (0, s), (0, d), (0, u), (0, x), (0, 1), (0, ((k : Nat) : Int))]) (st' := [(0, 5), (0, ((k : Nat) : Int))]) (g' := h) rfl ?_
                refine wp_ic_ge rfl (fun c52 => ?_) (fun c52 => ?_)
                · have hk5 : k = 5 := by omega
                  rw [hk5] at hH
                  have hO_ : ∀ j, j < P → h 135 j = foF c P w p s d u j := fun j hj => hH j (by omega)
                  have hgm : gmx (h 135) (P - 1) = gmx (foF c P w p s d u) (P - 1) := gmx_eq fun j hj => hO_ j (by omega)
                  have hgl := gmx_le (foF c P w p s d u) (P - 1)
                  have hgr : ∀ j, j < P → 0 ≤ h 135 j ∧ h 135 j ≤ 600000 := fun j hj => by rw [hO_ j hj]; exact fore_in hI (by omega) 5 (by decide)
                  refine wp_n 2 (pc' := 179) (L' := [(2, 127), (0, w), (0, p), (0, s), (0, d), (0, u), (0, x), (0, 1), (0, ((k : Nat) : Int))]) (st' := [(0, 100), (0, x)]) (g' := h) rfl ?_
                  refine wp_ic_lt rfl (fun c53 => ?_) (fun c53 => ?_)
                  · refine wp_n 1 (pc' := 194) (L' := [(2, 127), (0, w), (0, p), (0, s), (0, d), (0, u), (0, x), (0, 1), (0, ((k : Nat) : Int))]) (st' := [(2, 127)]) (g' := h) rfl ?_
                    refine wp_cv (as := [(2, 127)]) (rest := []) rfl rfl rfl (Nat.le_of_ble_eq_true rfl) rfl (m_best (P := P) (by rw [hF 127 0 (by unfold Sm; omega)]; exact hP) h5 hgr) (by decide) (fun r54 h55 => ?_)
                    obtain rfl := h55
                    refine wp_eq (L' := [(2, 127), (0, w), (0, p), (0, s), (0, d), (0, u), (0, x), (0, 1), (0, ((k : Nat) : Int))]) (st' := [(0, (((gmx (h 135) (P - 1)) : Nat) : Int))]) (g' := h) ?_
                    refine wp_eq (L' := [(2, 127), (0, w), (0, p), (0, s), (0, d), (0, u), (0, x), (0, 1), (0, ((k : Nat) : Int))]) (st' := [(0, (((gmx (foF c P w p s d u) (P - 1)) : Nat) : Int))]) (g' := h) ?_ (by rfl) (by rw [hgm]) (by rfl)
                    refine wp_n 2 (pc' := 201) (L' := [(2, 127), (0, w), (0, p), (0, s), (0, d), (0, u), (0, x), (0, 1), (0, (((gmx (foF c P w p s d u) (P - 1)) : Nat) : Int))]) (st' := [(0, x)]) (g' := h) rfl ?_
                    refine wp_if_ne rfl (fun c56 => ?_) (fun c56 => ?_)
                    · refine wp_n 2 (pc' := 212) (L' := [(2, 127), (0, w), (0, p), (0, s), (0, d), (0, u), (0, x), (0, 1), (0, (((gmx (foF c P w p s d u) (P - 1)) : Nat) : Int))]) (st' := [(0, 1), (0, x)]) (g' := h) rfl ?_
                      refine wp_ic_ne rfl (fun c57 => ?_) (fun c57 => ?_)
                      · refine wp_n 3 (pc' := 231) (L' := [(2, 127), (0, w), (0, p), (0, s), (0, d), (0, u), (0, x), (0, 1), (0, (((gmx (foF c P w p s d u) (P - 1)) : Nat) : Int))]) (st' := [(0, (((gmx (foF c P w p s d u) (P - 1)) : Nat) : Int)), (2, 135)]) (g' := h) rfl ?_
                        refine wp_iald (k := 135) ((gmx (foF c P w p s d u) (P - 1))) rfl rfl (by omega) (by omega) (by decide) ?_
                        refine wp_eq (L' := [(2, 127), (0, w), (0, p), (0, s), (0, d), (0, u), (0, x), (0, 1), (0, (((gmx (foF c P w p s d u) (P - 1)) : Nat) : Int))]) (st' := [(0, (foF c P w p s d u (gmx (foF c P w p s d u) (P - 1))))]) (g' := h) ?_ (by rfl) (by rw [hO_ _ (by omega)]) (by rfl)
                        refine wp_n 3 (pc' := 237) (L' := [(2, 127), (0, w), (0, p), (0, s), (0, d), (0, u), (0, x), (0, 1), (0, (((gmx (foF c P w p s d u) (P - 1)) : Nat) : Int))]) (st' := [(0, 5), (2, 128), (0, (foF c P w p s d u (gmx (foF c P w p s d u) (P - 1))))]) (g' := h) rfl ?_
                        refine wp_iald (k := 128) (5) rfl rfl (by omega) (by omega) (by decide) ?_
                        refine wp_eq (L' := [(2, 127), (0, w), (0, p), (0, s), (0, d), (0, u), (0, x), (0, 1), (0, (((gmx (foF c P w p s d u) (P - 1)) : Nat) : Int))]) (st' := [(0, (c 10 16)), (0, (foF c P w p s d u (gmx (foF c P w p s d u) (P - 1))))]) (g' := h) ?_ (by rfl) (by rw [(hM.g_same hF).pay]) (by rfl)
                        refine wp_n 5 (pc' := 245) (L' := [(2, 127), (0, w), (0, p), (0, s), (0, d), (0, u), (0, x), (0, 1), (0, (((gmx (foF c P w p s d u) (P - 1)) : Nat) : Int))]) (st' := [(0, (((foF c P w p s d u (gmx (foF c P w p s d u) (P - 1))) * ((c 10 16) + 1)) - 10000))]) (g' := h) rfl ?_
                        exact wp_ret rfl rfl rfl ⟨_, _, rfl, Or.inl ⟨by unfold FtD; omega, by unfold ftV; (repeat first | rw [if_pos (by omega)] | rw [if_neg (by omega)]); first | done | rfl | exact hH _ (by omega) | (exfalso; omega)⟩, hF⟩
                      · refine wp_n 3 (pc' := 221) (L' := [(2, 127), (0, w), (0, p), (0, s), (0, d), (0, u), (0, x), (0, 1), (0, (((gmx (foF c P w p s d u) (P - 1)) : Nat) : Int))]) (st' := [(0, (((gmx (foF c P w p s d u) (P - 1)) : Nat) : Int)), (2, 135)]) (g' := h) rfl ?_
                        refine wp_iald (k := 135) ((gmx (foF c P w p s d u) (P - 1))) rfl rfl (by omega) (by omega) (by decide) ?_
                        refine wp_eq (L' := [(2, 127), (0, w), (0, p), (0, s), (0, d), (0, u), (0, x), (0, 1), (0, (((gmx (foF c P w p s d u) (P - 1)) : Nat) : Int))]) (st' := [(0, (foF c P w p s d u (gmx (foF c P w p s d u) (P - 1))))]) (g' := h) ?_ (by rfl) (by rw [hO_ _ (by omega)]) (by rfl)
                        refine wp_n 1 (pc' := 245) (L' := [(2, 127), (0, w), (0, p), (0, s), (0, d), (0, u), (0, x), (0, 1), (0, (((gmx (foF c P w p s d u) (P - 1)) : Nat) : Int))]) (st' := [(0, (foF c P w p s d u (gmx (foF c P w p s d u) (P - 1))))]) (g' := h) rfl ?_
                        exact wp_ret rfl rfl rfl ⟨_, _, rfl, Or.inl ⟨by unfold FtD; omega, by unfold ftV; (repeat first | rw [if_pos (by omega)] | rw [if_neg (by omega)]); first | done | rfl | exact hH _ (by omega) | (exfalso; omega)⟩, hF⟩
                    · refine wp_n 2 (pc' := 245) (L' := [(2, 127), (0, w), (0, p), (0, s), (0, d), (0, u), (0, x), (0, 1), (0, (((gmx (foF c P w p s d u) (P - 1)) : Nat) : Int))]) (st' := [(0, (((gmx (foF c P w p s d u) (P - 1)) : Nat) : Int))]) (g' := h) rfl ?_
                      exact wp_ret rfl rfl rfl ⟨_, _, rfl, Or.inl ⟨by unfold FtD; omega, by unfold ftV; (repeat first | rw [if_pos (by omega)] | rw [if_neg (by omega)]); first | done | rfl | exact hH _ (by omega) | (exfalso; omega)⟩, hF⟩
                  · refine wp_n 5 (pc' := 191) (L' := [(2, 127), (0, w), (0, p), (0, s), (0, d), (0, u), (0, x), (0, 1), (0, ((k : Nat) : Int))]) (st' := [(0, (x - 100)), (2, 135)]) (g' := h) rfl ?_
                    refine wp_iald (k := 135) ((x - 100).toNat) rfl rfl (by omega) (by omega) (by decide) ?_
                    exact wp_ret rfl rfl rfl ⟨_, _, rfl, Or.inl ⟨by unfold FtD; omega, by unfold ftV; (repeat first | rw [if_pos (by omega)] | rw [if_neg (by omega)]); first | done | rfl | exact hH _ (by omega) | (exfalso; omega)⟩, hF⟩
                · have hsk := mulk (x := s) (m := 999) (k := k) (by omega) (by omega)
                  have huk := mulk (x := u) (m := 99) (k := k) (by omega) (by omega)
                  have hlt := hI.rg.r23_26 k (by omega)
                  have hMh := hM.g_same hF
                  refine wp_n 5 (pc' := 125) (L' := [(2, 127), (0, w), (0, p), (0, s), (0, d), (0, u), (0, x), (0, 1), (0, ((k : Nat) : Int))]) (st' := [(0, (6 + ((k : Nat) : Int))), (2, 128)]) (g' := h) rfl ?_
                  refine wp_iald (k := 128) ((6 + k)) rfl rfl (by omega) (by omega) (by decide) ?_
                  refine wp_eq (L' := [(2, 127), (0, w), (0, p), (0, s), (0, d), (0, u), (0, x), (0, 1), (0, ((k : Nat) : Int))]) (st' := [(0, (c 23 k))]) (g' := h) ?_ (by rfl) (by rw [hMh.late _ (by omega)]) (by rfl)
                  refine wp_if_ne rfl (fun c58 => ?_) (fun c58 => ?_)
                  · refine wp_n 2 (pc' := 134) (L' := [(2, 127), (0, w), (0, p), (0, s), (0, d), (0, u), (0, x), (0, 1), (0, ((k : Nat) : Int))]) (st' := [(0, w), (2, 127)]) (g' := h) rfl ?_
                    refine wp_eq (L' := [(2, 127), (0, w), (0, p), (0, s), (0, d), (0, u), (0, x), (0, 1), (0, ((k : Nat) : Int))]) (st' := [(0, ((w.toNat : Nat) : Int)), (2, 127)]) (g' := h) ?_ (by rfl) (by rw [Int.toNat_of_nonneg (by omega)]) (by rfl)
                    refine wp_n 12 (pc' := 151) (L' := [(2, 127), (0, w), (0, p), (0, s), (0, d), (0, u), (0, x), (0, 1), (0, ((k : Nat) : Int))]) (st' := [(0, u), (0, (d - (u * ((k : Nat) : Int)))), (0, s), (0, (p + (s * ((k : Nat) : Int)))), (0, ((w.toNat : Nat) : Int)), (2, 127)]) (g' := h) rfl ?_
                    refine wp_cv (as := [(2, 127), (0, ((w.toNat : Nat) : Int)), (0, (p + (s * ((k : Nat) : Int)))), (0, s), (0, (d - (u * ((k : Nat) : Int)))), (0, u)]) (rest := []) rfl rfl rfl (Nat.le_of_ble_eq_true rfl) rfl (m_roll (c := c) (w := (w.toNat)) hI hMh (by omega) (by omega) (by omega) (by omega) (by omega)) (by decide) (fun r59 h60 => ?_)
                    obtain ⟨g151, rfl, hC151, hF151, hO151⟩ := h60
                    refine wp_eq (L' := [(2, 127), (0, w), (0, p), (0, s), (0, d), (0, u), (0, x), (0, 1), (0, ((k : Nat) : Int))]) (st' := []) (g' := g151) ?_
                    refine wp_n 2 (pc' := 156) (L' := [(2, 127), (0, w), (0, p), (0, s), (0, d), (0, u), (0, x), (0, 1), (0, ((k : Nat) : Int))]) (st' := [(0, w), (2, 127)]) (g' := g151) rfl ?_
                    refine wp_eq (L' := [(2, 127), (0, w), (0, p), (0, s), (0, d), (0, u), (0, x), (0, 1), (0, ((k : Nat) : Int))]) (st' := [(0, ((w.toNat : Nat) : Int)), (2, 127)]) (g' := g151) ?_ (by rfl) (by rw [Int.toNat_of_nonneg (by omega)]) (by rfl)
                    refine wp_n 5 (pc' := 165) (L' := [(2, 127), (0, w), (0, p), (0, s), (0, d), (0, u), (0, x), (0, 1), (0, ((k : Nat) : Int))]) (st' := [(0, (6 + ((k : Nat) : Int))), (2, 128), (0, ((w.toNat : Nat) : Int)), (2, 127)]) (g' := g151) rfl ?_
                    refine wp_iald (k := 128) ((6 + k)) rfl rfl (by omega) (by omega) (by decide) ?_
                    refine wp_eq (L' := [(2, 127), (0, w), (0, p), (0, s), (0, d), (0, u), (0, x), (0, 1), (0, ((k : Nat) : Int))]) (st' := [(0, (c 23 k)), (0, ((w.toNat : Nat) : Int)), (2, 127)]) (g' := g151) ?_ (by rfl) (by rw [(hMh.g_same hF151).late _ (by omega)]) (by rfl)
                    refine wp_cv (as := [(2, 127), (0, ((w.toNat : Nat) : Int)), (0, (c 23 k))]) (rest := []) rfl rfl rfl (Nat.le_of_ble_eq_true rfl) rfl (m_addOdds (c := c) (w := (w.toNat)) (st := (rStud c P w.toNat (p + s * (k : Int)) s)) (pk := (rPkt c P w.toNat (p + s * (k : Int)) s (d - u * (k : Int)) u)) hI (hMh.g_same hF151) (by omega) hC151.2.1 hC151.2.2 (rStud_in _ _ _ _ _) (rPkt_in h5)) (by decide) (fun r61 h62 => ?_)
                    obtain ⟨g166, rfl, hA166, hF166⟩ := h62
                    refine wp_eq (L' := [(2, 127), (0, w), (0, p), (0, s), (0, d), (0, u), (0, x), (0, 1), (0, ((k : Nat) : Int))]) (st' := []) (g' := g166) ?_
                    refine wp_n 2 (pc' := 110) (L' := [(2, 127), (0, w), (0, p), (0, s), (0, d), (0, u), (0, x), (0, 1), (0, (((k : Nat) : Int) + 1))]) (st' := []) (g' := g166) rfl ?_
                    refine wp_eq (ih110 (k + 1) (g166) ?_ ?_ ?_ ?_) (by first | rfl | (simp; done) | (simp; omega)) (by rfl) (by rfl)
                    · omega
                    · omega
                    · first
                      | (intro j hj; rw [fore, hA166 j hj, show g151 135 j = h 135 j from congrFun hO151 j, hH j hj]; rfl)
                      | (intro j hj; rw [fore, hH j hj, show c 23 k = 0 by omega, Int.zero_mul, Int.add_zero])
                    · first | exact hF | exact (hF.trans hF151).trans (hF166.n (by decide))
                  · refine wp_n 3 (pc' := 110) (L' := [(2, 127), (0, w), (0, p), (0, s), (0, d), (0, u), (0, x), (0, 1), (0, (((k : Nat) : Int) + 1))]) (st' := []) (g' := h) rfl ?_
                    refine wp_eq (ih110 (k + 1) (h) ?_ ?_ ?_ ?_) (by first | rfl | (simp; done) | (simp; omega)) (by rfl) (by rfl)
                    · omega
                    · omega
                    · first
                      | (intro j hj; rw [fore, hA166 j hj, show g151 135 j = h 135 j from congrFun hO151 j, hH j hj]; rfl)
                      | (intro j hj; rw [fore, hH j hj, show c 23 k = 0 by omega, Int.zero_mul, Int.add_zero])
                    · first | exact hF | exact (hF.trans hF151).trans (hF166.n (by decide))
            refine wp_eq (L110 (_ + 1) (0) (g104) (Nat.lt_succ_self _) ?_ ?_ ?_) (by first | rfl | (simp; done) | (simp; omega)) (by rfl) (by rfl)
            · exact Nat.zero_le _
            · exact fun j hj => hZ104 j hj
            · exact hF104.n (by decide)
          · refine wp_n 2 (pc' := 75) (L' := [(2, 127), (0, w), (0, p), (0, s), (0, d), (0, u), (0, x), (0, 1), (9, 0)]) (st' := [(0, w), (2, 127)]) (g' := g) rfl ?_
            refine wp_eq (L' := [(2, 127), (0, w), (0, p), (0, s), (0, d), (0, u), (0, x), (0, 1), (9, 0)]) (st' := [(0, ((w.toNat : Nat) : Int)), (2, 127)]) (g' := g) ?_ (by rfl) (by rw [Int.toNat_of_nonneg (by omega)]) (by rfl)
            refine wp_n 4 (pc' := 81) (L' := [(2, 127), (0, w), (0, p), (0, s), (0, d), (0, u), (0, x), (0, 1), (9, 0)]) (st' := [(0, u), (0, d), (0, s), (0, p), (0, ((w.toNat : Nat) : Int)), (2, 127)]) (g' := g) rfl ?_
            refine wp_cv (as := [(2, 127), (0, ((w.toNat : Nat) : Int)), (0, p), (0, s), (0, d), (0, u)]) (rest := []) rfl rfl rfl (Nat.le_of_ble_eq_true rfl) rfl (m_roll (c := c) (w := (w.toNat)) hI hM (by omega) (by omega) (by omega) (by omega) (by omega)) (by decide) (fun r63 h64 => ?_)
            obtain ⟨g81, rfl, hC81, hF81, hO81⟩ := h64
            refine wp_eq (L' := [(2, 127), (0, w), (0, p), (0, s), (0, d), (0, u), (0, x), (0, 1), (9, 0)]) (st' := []) (g' := g81) ?_
            refine wp_n 2 (pc' := 88) (L' := [(2, 127), (0, w), (0, p), (0, s), (0, d), (0, u), (0, x), (0, 1), (9, 0)]) (st' := [(0, (g81 127 24))]) (g' := g81) rfl ?_
            refine wp_eq (L' := [(2, 127), (0, w), (0, p), (0, s), (0, d), (0, u), (0, x), (0, 1), (9, 0)]) (st' := [(0, (rOff c P w.toNat p s))]) (g' := g81) ?_ (by rfl) (by rw [hC81.1]) (by rfl)
            refine wp_n 3 (pc' := 94) (L' := [(2, 127), (0, w), (0, p), (0, s), (0, d), (0, u), (0, x), (0, 1), (9, 0)]) (st' := [(0, (x - 200)), (0, (rOff c P w.toNat p s))]) (g' := g81) rfl ?_
            refine wp_ic_lt rfl (fun c65 => ?_) (fun c65 => ?_)
            · refine wp_n 1 (pc' := 102) (L' := [(2, 127), (0, w), (0, p), (0, s), (0, d), (0, u), (0, x), (0, 1), (9, 0)]) (st' := [(0, 0)]) (g' := g81) rfl ?_
              exact wp_ret rfl rfl rfl ⟨_, _, rfl, Or.inl ⟨by unfold FtD; omega, by unfold ftV; (repeat first | rw [if_pos (by omega)] | rw [if_neg (by omega)]); first | done | rfl | exact hH _ (by omega) | (exfalso; omega)⟩, hF81⟩
            · refine wp_n 2 (pc' := 102) (L' := [(2, 127), (0, w), (0, p), (0, s), (0, d), (0, u), (0, x), (0, 1), (9, 0)]) (st' := [(0, 1)]) (g' := g81) rfl ?_
              exact wp_ret rfl rfl rfl ⟨_, _, rfl, Or.inl ⟨by unfold FtD; omega, by unfold ftV; (repeat first | rw [if_pos (by omega)] | rw [if_neg (by omega)]); first | done | rfl | exact hH _ (by omega) | (exfalso; omega)⟩, hF81⟩
        · refine wp_eq (L' := [(2, 127), (0, w), (0, p), (0, s), (0, d), (0, u), (0, x), (0, 1), (9, 0)]) (st' := [(0, 0)]) (g' := g) ?_
          refine wp_n 2 (pc' := 64) (L' := [(2, 127), (0, w), (0, p), (0, s), (0, d), (0, u), (0, x), (0, 1), (9, 0)]) (st' := [(0, (-1000000))]) (g' := g) rfl ?_
          exact wp_ret rfl rfl rfl ⟨_, _, rfl, Or.inr ⟨by unfold FtD; omega, rfl⟩, FrN.rfl⟩
      · refine wp_eq (L' := [(2, 127), (0, w), (0, p), (0, s), (0, d), (0, u), (0, x), (9, 0), (9, 0)]) (st' := [(0, 0)]) (g' := g) ?_
        refine wp_n 9 (pc' := 51) (L' := [(2, 127), (0, w), (0, p), (0, s), (0, d), (0, u), (0, x), (0, 0), (9, 0)]) (st' := [(0, u), (0, d), (0, s), (0, p), (0, w), (2, 127)]) (g' := g) rfl ?_
        refine wp_cv (as := [(2, 127), (0, w), (0, p), (0, s), (0, d), (0, u)]) (rest := []) rfl rfl rfl (Nat.le_of_ble_eq_true rfl) rfl (m_isDrop (by omega) (by omega) (by omega) (by omega) (by omega) hP h5) (by decide) (fun r66 h67 => ?_)
        rcases h67 with ⟨rfl, p51⟩ | ⟨rfl, p51⟩
        · refine wp_eq (L' := [(2, 127), (0, w), (0, p), (0, s), (0, d), (0, u), (0, x), (0, 0), (9, 0)]) (st' := [(0, 1)]) (g' := g) ?_
          refine wp_n 4 (pc' := 64) (L' := [(2, 127), (0, w), (0, p), (0, s), (0, d), (0, u), (0, x), (0, 0), (9, 0)]) (st' := [(0, (-1000000))]) (g' := g) rfl ?_
          exact wp_ret rfl rfl rfl ⟨_, _, rfl, Or.inr ⟨by unfold FtD; omega, rfl⟩, FrN.rfl⟩
        · refine wp_eq (L' := [(2, 127), (0, w), (0, p), (0, s), (0, d), (0, u), (0, x), (0, 0), (9, 0)]) (st' := [(0, 0)]) (g' := g) ?_
          refine wp_n 2 (pc' := 64) (L' := [(2, 127), (0, w), (0, p), (0, s), (0, d), (0, u), (0, x), (0, 0), (9, 0)]) (st' := [(0, (-1000000))]) (g' := g) rfl ?_
          exact wp_ret rfl rfl rfl ⟨_, _, rfl, Or.inr ⟨by unfold FtD; omega, rfl⟩, FrN.rfl⟩
theorem C_foretold {sn : Nat} {sx : Nat → Int} {b : Nat} {g : am_G} {P : Nat} {w p s d u x : Int} (h_w : R32 w) (h_p : R32 p) (h_s : R32 s) (h_d : R32 d) (h_u : R32 u) (h_x : R32 x) (hI : CInv P g) : Ev sn sx 8 107 [(2, 0), (0, w), (0, p), (0, s), (0, d), (0, u), (0, x)] (SH b) g (CPost P g (fun c1 v1 => FtA g P w p s d u x v1 ∧ CoE g c1)) := (e_foretold h_w h_p h_s h_d h_u h_x hI).mono fun r hh => cpost_q (A := FtA g P w p s d u x) hI hh
theorem M_foretold {sn : Nat} {sx : Nat → Int} {b : Nat} {g c : am_G} {P : Nat} {w p s d u x : Int} (h_w : R32 w) (h_p : R32 p) (h_s : R32 s) (h_d : R32 d) (h_u : R32 u) (h_x : R32 x) (hI : CInv P c) (hM : MRel c g) : Ev sn sx 6 200 [(2, 127), (0, w), (0, p), (0, s), (0, d), (0, u), (0, x)] (SH b) g (MPost b g (fun c1 v1 => FtA c P w p s d u x v1 ∧ CoE c c1)) := (m_foretold h_w h_p h_s h_d h_u h_x hI hM).mono fun r hh => mpost_n (A := FtA c P w p s d u x) hM (fun x y h h' => by
  rcases h with h | h <;> rcases h' with h' | h'
  · exact h.2.trans h'.2.symm
  · exact absurd h.1 h'.1
  · exact absurd h'.1 h.1
  · exact h.2.trans h'.2.symm) hh
def wsm (c : am_G) (h : Int) : Nat → Int
  | 0 => 0
  | i + 1 => wsm c h i + c 16 (30 * h.toNat + 5 * i + 4)
theorem wsm_s (c : am_G) (h : Int) (i : Nat) : wsm c h (i + 1) = wsm c h i + c 16 (30 * h.toNat + 5 * i + 4) := rfl
def hsm (c : am_G) (P w : Nat) (h : Int) (j : Nat) : Nat → Int
  | 0 => 0
  | i + 1 => hsm c P w h j i + c 16 (30 * h.toNat + 5 * i + 4) * odR c P w (c 16 (30 * h.toNat + 5 * i)) (c 16 (30 * h.toNat + 5 * i + 1)) (c 16 (30 * h.toNat + 5 * i + 2)) (c 16 (30 * h.toNat + 5 * i + 3)) j
theorem hsm_s (c : am_G) (P w : Nat) (h : Int) (j i : Nat) : hsm c P w h j (i + 1) = hsm c P w h j i + c 16 (30 * h.toNat + 5 * i + 4) * odR c P w (c 16 (30 * h.toNat + 5 * i)) (c 16 (30 * h.toNat + 5 * i + 1)) (c 16 (30 * h.toNat + 5 * i + 2)) (c 16 (30 * h.toNat + 5 * i + 3)) j := rfl
def osV (c : am_G) (P : Nat) (w h x : Int) (i : Nat) : Int := if x = -1 then 1000 * wsm c h i else hsm c P w.toNat h x.toNat i
def OdD (P : Nat) (w h x : Int) : Prop := 0 ≤ w ∧ w ≤ 3 ∧ 0 ≤ h ∧ h ≤ 3 ∧ -1 ≤ x ∧ x < (P : Int)
def OdA (c : am_G) (P : Nat) (w h x v : Int) : Prop := (OdD P w h x ∧ v = osV c P w h x (c 17 h.toNat).toNat) ∨ (¬ OdD P w h x ∧ v = -1)
set_option maxHeartbeats 400000 in
set_option maxRecDepth 20000 in
theorem e_odds {sn : Nat} {sx : Nat → Int} {b : Nat} {g : am_G} {P : Nat} {w h x : Int} (h_w : R32 w) (h_h : R32 h) (h_x : R32 x) (hI : CInv P g) : Ev sn sx 8 109 [(2, 0), (0, w), (0, h), (0, x)] (SH b) g (fun y => ∃ g' v, y = (some (0, v), SH b, g') ∧ OdA g P w h x v ∧ FrQ g g') := by
  have hP := hI.ck.2.1
  have h5 := hI.ck.1
  refine ev_of (K := 7) T109 (by decide) rfl rfl (Nat.le_of_ble_eq_true rfl) ?_
  refine wp_eq (L' := [(2, 0), (0, w), (0, h), (0, x), (9, 0), (9, 0), (9, 0), (9, 0)]) (st' := []) (g' := g) ?_
  refine wp_n 1 (pc' := 1) (L' := [(2, 0), (0, w), (0, h), (0, x), (9, 0), (9, 0), (9, 0), (9, 0)]) (st' := [(0, w)]) (g' := g) rfl ?_
  refine wp_cs (as := [(0, w)]) (rest := []) rfl (by decide) rfl (Nat.le_of_ble_eq_true rfl) (e_isWheel (by omega)) (by decide) (fun r2 h3 => ?_)
  rcases h3 with ⟨rfl, p1⟩ | ⟨rfl, p1⟩
  · refine wp_eq (L' := [(2, 0), (0, w), (0, h), (0, x), (9, 0), (9, 0), (9, 0), (9, 0)]) (st' := [(0, 1)]) (g' := g) ?_
    refine wp_n 2 (pc' := 8) (L' := [(2, 0), (0, w), (0, h), (0, x), (9, 0), (9, 0), (9, 0), (9, 0)]) (st' := [(0, h)]) (g' := g) rfl ?_
    refine wp_cs (as := [(0, h)]) (rest := []) rfl (by decide) rfl (Nat.le_of_ble_eq_true rfl) (e_isHand (by omega)) (by decide) (fun r5 h6 => ?_)
    rcases h6 with ⟨rfl, p4⟩ | ⟨rfl, p4⟩
    · refine wp_eq (L' := [(2, 0), (0, w), (0, h), (0, x), (9, 0), (9, 0), (9, 0), (9, 0)]) (st' := [(0, 1)]) (g' := g) ?_
      refine wp_n 3 (pc' := 16) (L' := [(2, 0), (0, w), (0, h), (0, x), (9, 0), (9, 0), (9, 0), (9, 0)]) (st' := [(0, x), (2, 0)]) (g' := g) rfl ?_
      refine wp_cv (as := [(2, 0), (0, x)]) (rest := []) rfl rfl rfl (Nat.le_of_ble_eq_true rfl) rfl (e_isPocketOrNone (by omega) (by assumption) (by omega)) (by decide) (fun r7 h8 => ?_)
      rcases h8 with ⟨rfl, p16⟩ | ⟨rfl, p16⟩
      · refine wp_eq (L' := [(2, 0), (0, w), (0, h), (0, x), (9, 0), (9, 0), (9, 0), (9, 0)]) (st' := [(0, 1)]) (g' := g) ?_
        refine wp_n 5 (pc' := 30) (L' := [(2, 0), (0, w), (0, h), (0, x), (0, 0), (0, 0), (9, 0), (9, 0)]) (st' := []) (g' := g) rfl ?_
        have L30 : ∀ (lf : Nat) (i : Nat) (f : am_G) (w6 w7 : am_V), (g 17 h.toNat).toNat - i < lf → (i ≤ (g 17 h.toNat).toNat) → (FrQ g f) → Wp sn sx 7 T109 30 [(2, 0), (0, w), (0, h), (0, x), (0, (osV g P w h x i)), (0, ((i : Nat) : Int)), w6, w7] [] (SH b) f (fun y => ∃ g' v, y = (some (0, v), SH b, g') ∧ OdA g P w h x v ∧ FrQ g g') := by
          intro lf
          induction lf with
          | zero => intro i f w6 w7 hlf; exact absurd hlf (Nat.not_lt_zero _)
          | succ lf ih30 =>
            intro i f w6 w7 hlf hi hF
            have hr0 := hI.rg.r17_20 h.toNat (by omega)
            refine wp_n 5 (pc' := 40) (L' := [(2, 0), (0, w), (0, h), (0, x), (0, (osV g P w h x i)), (0, ((i : Nat) : Int)), w6, w7]) (st' := [(0, h), (2, 17), (0, ((i : Nat) : Int))]) (g' := f) rfl ?_
            refine wp_iald (k := 17) (h.toNat) rfl rfl (by omega) (by omega) (by decide) ?_
            refine wp_eq (L' := [(2, 0), (0, w), (0, h), (0, x), (0, (osV g P w h x i)), (0, ((i : Nat) : Int)), w6, w7]) (st' := [(0, (g 17 h.toNat)), (0, ((i : Nat) : Int))]) (g' := f) ?_ (by rfl) (by rw [hF 17 _ (by unfold Sq; omega)]) (by rfl)
            refine wp_ic_ge rfl (fun c9 => ?_) (fun c9 => ?_)
            · have hk2 : i = (g 17 h.toNat).toNat := by omega
              refine wp_n 1 (pc' := 168) (L' := [(2, 0), (0, w), (0, h), (0, x), (0, (osV g P w h x i)), (0, ((i : Nat) : Int)), w6, w7]) (st' := [(0, (osV g P w h x i))]) (g' := f) rfl ?_
              exact wp_ret rfl rfl rfl ⟨_, _, rfl, Or.inl ⟨by unfold OdD; omega, by rw [hk2]⟩, hF⟩
            · have q0 := hI.rg.r16_15 (30 * h.toNat + 5 * i) (by omega)
              have q1 := hI.rg.r16_16 (30 * h.toNat + 5 * i + 1) (by omega)
              have q2 := hI.rg.r16_17 (30 * h.toNat + 5 * i + 2) (by omega)
              have q3 := hI.rg.r16_18 (30 * h.toNat + 5 * i + 3) (by omega)
              have q4 := hI.rg.r16_19 (30 * h.toNat + 5 * i + 4) (by omega)
              refine wp_n 4 (pc' := 51) (L' := [(2, 0), (0, w), (0, h), (0, x), (0, (osV g P w h x i)), (0, ((i : Nat) : Int)), w6, w7]) (st' := [(0, ((i : Nat) : Int)), (0, h), (2, 10)]) (g' := f) rfl ?_
              refine wp_cv (as := [(2, 10), (0, h), (0, ((i : Nat) : Int))]) (rest := []) rfl rfl rfl (Nat.le_of_ble_eq_true rfl) rfl (e_startAt) (by decide) (fun r10 h11 => ?_)
              obtain rfl := h11
              refine wp_eq (L' := [(2, 0), (0, w), (0, h), (0, x), (0, (osV g P w h x i)), (0, ((i : Nat) : Int)), w6, w7]) (st' := [(0, (((h * 6) + ((i : Nat) : Int)) * 5))]) (g' := f) ?_
              refine wp_n 7 (pc' := 67) (L' := [(2, 0), (0, w), (0, h), (0, x), (0, (osV g P w h x i)), (0, ((i : Nat) : Int)), (0, (((h * 6) + ((i : Nat) : Int)) * 5)), w7]) (st' := [(0, ((((h * 6) + ((i : Nat) : Int)) * 5) + 4)), (2, 16)]) (g' := f) rfl ?_
              refine wp_iald (k := 16) ((30 * h.toNat + 5 * i + 4)) rfl rfl (by omega) (by omega) (by decide) ?_
              refine wp_eq (L' := [(2, 0), (0, w), (0, h), (0, x), (0, (osV g P w h x i)), (0, ((i : Nat) : Int)), (0, (((h * 6) + ((i : Nat) : Int)) * 5)), w7]) (st' := [(0, (g 16 (30 * h.toNat + 5 * i + 4)))]) (g' := f) ?_ (by rfl) (by rw [hF 16 _ (by unfold Sq; omega)]) (by rfl)
              refine wp_n 3 (pc' := 72) (L' := [(2, 0), (0, w), (0, h), (0, x), (0, (osV g P w h x i)), (0, ((i : Nat) : Int)), (0, (((h * 6) + ((i : Nat) : Int)) * 5)), (0, (g 16 (30 * h.toNat + 5 * i + 4)))]) (st' := [(0, (-1)), (0, x)]) (g' := f) rfl ?_
              refine wp_ic_ne rfl (fun c12 => ?_) (fun c12 => ?_)
              · have hIh := hI.keepQ hF
                refine wp_n 3 (pc' := 94) (L' := [(2, 0), (0, w), (0, h), (0, x), (0, (osV g P w h x i)), (0, ((i : Nat) : Int)), (0, (((h * 6) + ((i : Nat) : Int)) * 5)), (0, (g 16 (30 * h.toNat + 5 * i + 4)))]) (st' := [(0, w), (2, 52)]) (g' := f) rfl ?_
                refine wp_eq (L' := [(2, 0), (0, w), (0, h), (0, x), (0, (osV g P w h x i)), (0, ((i : Nat) : Int)), (0, (((h * 6) + ((i : Nat) : Int)) * 5)), (0, (g 16 (30 * h.toNat + 5 * i + 4)))]) (st' := [(0, ((w.toNat : Nat) : Int)), (2, 52)]) (g' := f) ?_ (by rfl) (by rw [Int.toNat_of_nonneg (by omega)]) (by rfl)
                refine wp_n 4 (pc' := 103) (L' := [(2, 0), (0, w), (0, h), (0, x), (0, (osV g P w h x i)), (0, ((i : Nat) : Int)), (0, (((h * 6) + ((i : Nat) : Int)) * 5)), (0, (g 16 (30 * h.toNat + 5 * i + 4)))]) (st' := [(0, (((h * 6) + ((i : Nat) : Int)) * 5)), (2, 16), (0, ((w.toNat : Nat) : Int)), (2, 52)]) (g' := f) rfl ?_
                refine wp_iald (k := 16) ((30 * h.toNat + 5 * i)) rfl rfl (by omega) (by omega) (by decide) ?_
                refine wp_eq (L' := [(2, 0), (0, w), (0, h), (0, x), (0, (osV g P w h x i)), (0, ((i : Nat) : Int)), (0, (((h * 6) + ((i : Nat) : Int)) * 5)), (0, (g 16 (30 * h.toNat + 5 * i + 4)))]) (st' := [(0, (g 16 (30 * h.toNat + 5 * i))), (0, ((w.toNat : Nat) : Int)), (2, 52)]) (g' := f) ?_ (by rfl) (by rw [hF 16 _ (by unfold Sq; omega)]) (by rfl)
                refine wp_n 6 (pc' := 115) (L' := [(2, 0), (0, w), (0, h), (0, x), (0, (osV g P w h x i)), (0, ((i : Nat) : Int)), (0, (((h * 6) + ((i : Nat) : Int)) * 5)), (0, (g 16 (30 * h.toNat + 5 * i + 4)))]) (st' := [(0, ((((h * 6) + ((i : Nat) : Int)) * 5) + 1)), (2, 16), (0, (g 16 (30 * h.toNat + 5 * i))), (0, ((w.toNat : Nat) : Int)), (2, 52)]) (g' := f) rfl ?_
                refine wp_iald (k := 16) ((30 * h.toNat + 5 * i + 1)) rfl rfl (by omega) (by omega) (by decide) ?_
                refine wp_eq (L' := [(2, 0), (0, w), (0, h), (0, x), (0, (osV g P w h x i)), (0, ((i : Nat) : Int)), (0, (((h * 6) + ((i : Nat) : Int)) * 5)), (0, (g 16 (30 * h.toNat + 5 * i + 4)))]) (st' := [(0, (g 16 (30 * h.toNat + 5 * i + 1))), (0, (g 16 (30 * h.toNat + 5 * i))), (0, ((w.toNat : Nat) : Int)), (2, 52)]) (g' := f) ?_ (by rfl) (by rw [hF 16 _ (by unfold Sq; omega)]) (by rfl)
                refine wp_n 6 (pc' := 127) (L' := [(2, 0), (0, w), (0, h), (0, x), (0, (osV g P w h x i)), (0, ((i : Nat) : Int)), (0, (((h * 6) + ((i : Nat) : Int)) * 5)), (0, (g 16 (30 * h.toNat + 5 * i + 4)))]) (st' := [(0, ((((h * 6) + ((i : Nat) : Int)) * 5) + 2)), (2, 16), (0, (g 16 (30 * h.toNat + 5 * i + 1))), (0, (g 16 (30 * h.toNat + 5 * i))), (0, ((w.toNat : Nat) : Int)), (2, 52)]) (g' := f) rfl ?_
                refine wp_iald (k := 16) ((30 * h.toNat + 5 * i + 2)) rfl rfl (by omega) (by omega) (by decide) ?_
                refine wp_eq (L' := [(2, 0), (0, w), (0, h), (0, x), (0, (osV g P w h x i)), (0, ((i : Nat) : Int)), (0, (((h * 6) + ((i : Nat) : Int)) * 5)), (0, (g 16 (30 * h.toNat + 5 * i + 4)))]) (st' := [(0, (g 16 (30 * h.toNat + 5 * i + 2))), (0, (g 16 (30 * h.toNat + 5 * i + 1))), (0, (g 16 (30 * h.toNat + 5 * i))), (0, ((w.toNat : Nat) : Int)), (2, 52)]) (g' := f) ?_ (by rfl) (by rw [hF 16 _ (by unfold Sq; omega)]) (by rfl)
                refine wp_n 6 (pc' := 139) (L' := [(2, 0), (0, w), (0, h), (0, x), (0, (osV g P w h x i)), (0, ((i : Nat) : Int)), (0, (((h * 6) + ((i : Nat) : Int)) * 5)), (0, (g 16 (30 * h.toNat + 5 * i + 4)))]) (st' := [(0, ((((h * 6) + ((i : Nat) : Int)) * 5) + 3)), (2, 16), (0, (g 16 (30 * h.toNat + 5 * i + 2))), (0, (g 16 (30 * h.toNat + 5 * i + 1))), (0, (g 16 (30 * h.toNat + 5 * i))), (0, ((w.toNat : Nat) : Int)), (2, 52)]) (g' := f) rfl ?_
                refine wp_iald (k := 16) ((30 * h.toNat + 5 * i + 3)) rfl rfl (by omega) (by omega) (by decide) ?_
                refine wp_eq (L' := [(2, 0), (0, w), (0, h), (0, x), (0, (osV g P w h x i)), (0, ((i : Nat) : Int)), (0, (((h * 6) + ((i : Nat) : Int)) * 5)), (0, (g 16 (30 * h.toNat + 5 * i + 4)))]) (st' := [(0, (g 16 (30 * h.toNat + 5 * i + 3))), (0, (g 16 (30 * h.toNat + 5 * i + 2))), (0, (g 16 (30 * h.toNat + 5 * i + 1))), (0, (g 16 (30 * h.toNat + 5 * i))), (0, ((w.toNat : Nat) : Int)), (2, 52)]) (g' := f) ?_ (by rfl) (by rw [hF 16 _ (by unfold Sq; omega)]) (by rfl)
                refine wp_cv (as := [(2, 52), (0, ((w.toNat : Nat) : Int)), (0, (g 16 (30 * h.toNat + 5 * i))), (0, (g 16 (30 * h.toNat + 5 * i + 1))), (0, (g 16 (30 * h.toNat + 5 * i + 2))), (0, (g 16 (30 * h.toNat + 5 * i + 3)))]) (rest := []) rfl rfl rfl (Nat.le_of_ble_eq_true rfl) rfl (e_roll (P := P) (w := (w.toNat)) hIh (by omega) (by omega) (by omega) (by omega) (by omega)) (by decide) (fun r13 h14 => ?_)
                obtain ⟨g140, rfl, hC140, hF140⟩ := h14
                have hC2 := hC140.of (c := g) (fun a j q1 q2 => hF a j (by unfold Sq; omega))
                have hst : osV g P w h x (i + 1) = osV g P w h x i + (g 16 (30 * h.toNat + 5 * i + 4)) * odR g P w.toNat (g 16 (30 * h.toNat + 5 * i)) (g 16 (30 * h.toNat + 5 * i + 1)) (g 16 (30 * h.toNat + 5 * i + 2)) (g 16 (30 * h.toNat + 5 * i + 3)) x.toNat := by unfold osV; rw [if_neg (by omega), if_neg (by omega), hsm_s]
                refine wp_eq (L' := [(2, 0), (0, w), (0, h), (0, x), (0, (osV g P w h x i)), (0, ((i : Nat) : Int)), (0, (((h * 6) + ((i : Nat) : Int)) * 5)), (0, (g 16 (30 * h.toNat + 5 * i + 4)))]) (st' := []) (g' := g140) ?_
                refine wp_n 6 (pc' := 155) (L' := [(2, 0), (0, w), (0, h), (0, x), (0, (osV g P w h x i)), (0, ((i : Nat) : Int)), (0, (((h * 6) + ((i : Nat) : Int)) * 5)), (0, (g 16 (30 * h.toNat + 5 * i + 4)))]) (st' := [(0, x), (2, 53), (0, (g 16 (30 * h.toNat + 5 * i + 4))), (0, (osV g P w h x i))]) (g' := g140) rfl ?_
                refine wp_iald (k := 53) (x.toNat) rfl rfl (by omega) (by omega) (by decide) ?_
                refine wp_eq (L' := [(2, 0), (0, w), (0, h), (0, x), (0, (osV g P w h x i)), (0, ((i : Nat) : Int)), (0, (((h * 6) + ((i : Nat) : Int)) * 5)), (0, (g 16 (30 * h.toNat + 5 * i + 4)))]) (st' := [(0, (odR g P w.toNat (g 16 (30 * h.toNat + 5 * i)) (g 16 (30 * h.toNat + 5 * i + 1)) (g 16 (30 * h.toNat + 5 * i + 2)) (g 16 (30 * h.toNat + 5 * i + 3)) x.toNat)), (0, (g 16 (30 * h.toNat + 5 * i + 4))), (0, (osV g P w h x i))]) (g' := g140) ?_ (by rfl) (by rw [hC2.2.2.2 _ (by omega)]; rfl) (by rfl)
                refine wp_n 5 (pc' := 30) (L' := [(2, 0), (0, w), (0, h), (0, x), (0, ((osV g P w h x i) + ((g 16 (30 * h.toNat + 5 * i + 4)) * (odR g P w.toNat (g 16 (30 * h.toNat + 5 * i)) (g 16 (30 * h.toNat + 5 * i + 1)) (g 16 (30 * h.toNat + 5 * i + 2)) (g 16 (30 * h.toNat + 5 * i + 3)) x.toNat)))), (0, (((i : Nat) : Int) + 1)), (0, (((h * 6) + ((i : Nat) : Int)) * 5)), (0, (g 16 (30 * h.toNat + 5 * i + 4)))]) (st' := []) (g' := g140) rfl ?_
                refine wp_eq (ih30 (i + 1) (g140) ((0, (((h * 6) + ((i : Nat) : Int)) * 5))) ((0, (g 16 (30 * h.toNat + 5 * i + 4)))) ?_ ?_ ?_) (by rw [hst]; rfl) (by rfl) (by rfl)
                · omega
                · omega
                · first | exact hF | exact hF.trans hF140.q
              · have hx : x = -1 := by omega
                have hst : osV g P w h x (i + 1) = osV g P w h x i + (g 16 (30 * h.toNat + 5 * i + 4)) * 1000 := by unfold osV; rw [if_pos hx, if_pos hx, wsm_s]; omega
                refine wp_n 9 (pc' := 30) (L' := [(2, 0), (0, w), (0, h), (0, x), (0, ((osV g P w h x i) + ((g 16 (30 * h.toNat + 5 * i + 4)) * 1000))), (0, (((i : Nat) : Int) + 1)), (0, (((h * 6) + ((i : Nat) : Int)) * 5)), (0, (g 16 (30 * h.toNat + 5 * i + 4)))]) (st' := []) (g' := f) rfl ?_
                refine wp_eq (ih30 (i + 1) (f) ((0, (((h * 6) + ((i : Nat) : Int)) * 5))) ((0, (g 16 (30 * h.toNat + 5 * i + 4)))) ?_ ?_ ?_) (by rw [hst]; rfl) (by rfl) (by rfl)
                · omega
                · omega
                · first | exact hF | exact hF.trans hF140.q
        refine wp_eq (L30 (_ + 1) (0) (g) ((9, 0)) ((9, 0)) (Nat.lt_succ_self _) ?_ ?_) (by rw [show osV g P w h x 0 = 0 by unfold osV; split <;> rfl]; rfl) (by rfl) (by rfl)
        · exact Nat.zero_le _
        · exact FrQ.rfl
      · refine wp_eq (L' := [(2, 0), (0, w), (0, h), (0, x), (9, 0), (9, 0), (9, 0), (9, 0)]) (st' := [(0, 0)]) (g' := g) ?_
        refine wp_n 2 (pc' := 23) (L' := [(2, 0), (0, w), (0, h), (0, x), (9, 0), (9, 0), (9, 0), (9, 0)]) (st' := [(0, (-1))]) (g' := g) rfl ?_
        exact wp_ret rfl rfl rfl ⟨_, _, rfl, Or.inr ⟨by unfold OdD; omega, rfl⟩, FrQ.rfl⟩
    · refine wp_eq (L' := [(2, 0), (0, w), (0, h), (0, x), (9, 0), (9, 0), (9, 0), (9, 0)]) (st' := [(0, 0)]) (g' := g) ?_
      refine wp_n 2 (pc' := 23) (L' := [(2, 0), (0, w), (0, h), (0, x), (9, 0), (9, 0), (9, 0), (9, 0)]) (st' := [(0, (-1))]) (g' := g) rfl ?_
      exact wp_ret rfl rfl rfl ⟨_, _, rfl, Or.inr ⟨by unfold OdD; omega, rfl⟩, FrQ.rfl⟩
  · refine wp_eq (L' := [(2, 0), (0, w), (0, h), (0, x), (9, 0), (9, 0), (9, 0), (9, 0)]) (st' := [(0, 0)]) (g' := g) ?_
    refine wp_n 2 (pc' := 23) (L' := [(2, 0), (0, w), (0, h), (0, x), (9, 0), (9, 0), (9, 0), (9, 0)]) (st' := [(0, (-1))]) (g' := g) rfl ?_
    exact wp_ret rfl rfl rfl ⟨_, _, rfl, Or.inr ⟨by unfold OdD; omega, rfl⟩, FrQ.rfl⟩
set_option maxHeartbeats 400000 in
set_option maxRecDepth 20000 in
theorem m_odds {sn : Nat} {sx : Nat → Int} {b : Nat} {g : am_G} {c : am_G} {P : Nat} {w h x : Int} (h_w : R32 w) (h_h : R32 h) (h_x : R32 x) (hI : CInv P c) (hM : MRel c g) : Ev sn sx 6 203 [(2, 127), (0, w), (0, h), (0, x)] (SH b) g (fun y => ∃ g' v, y = (some (0, v), SH b, g') ∧ OdA c P w h x v ∧ FrN g g') := by
  have h5 := hI.ck.1
  have hP : g 127 0 = (P : Int) := hM.n.trans hI.ck.2.1
  refine ev_of (K := 5) T203 (by decide) rfl rfl (Nat.le_of_ble_eq_true rfl) ?_
  refine wp_eq (L' := [(2, 127), (0, w), (0, h), (0, x), (9, 0), (9, 0), (9, 0)]) (st' := []) (g' := g) ?_
  refine wp_n 1 (pc' := 1) (L' := [(2, 127), (0, w), (0, h), (0, x), (9, 0), (9, 0), (9, 0)]) (st' := [(0, w)]) (g' := g) rfl ?_
  refine wp_cs (as := [(0, w)]) (rest := []) rfl (by decide) rfl (Nat.le_of_ble_eq_true rfl) (e_MisWheel (by omega)) (by decide) (fun r2 h3 => ?_)
  rcases h3 with ⟨rfl, p1⟩ | ⟨rfl, p1⟩
  · refine wp_eq (L' := [(2, 127), (0, w), (0, h), (0, x), (9, 0), (9, 0), (9, 0)]) (st' := [(0, 1)]) (g' := g) ?_
    refine wp_n 2 (pc' := 8) (L' := [(2, 127), (0, w), (0, h), (0, x), (9, 0), (9, 0), (9, 0)]) (st' := [(0, h)]) (g' := g) rfl ?_
    refine wp_cs (as := [(0, h)]) (rest := []) rfl (by decide) rfl (Nat.le_of_ble_eq_true rfl) (e_MisHand (by omega)) (by decide) (fun r5 h6 => ?_)
    rcases h6 with ⟨rfl, p4⟩ | ⟨rfl, p4⟩
    · refine wp_eq (L' := [(2, 127), (0, w), (0, h), (0, x), (9, 0), (9, 0), (9, 0)]) (st' := [(0, 1)]) (g' := g) ?_
      refine wp_n 3 (pc' := 16) (L' := [(2, 127), (0, w), (0, h), (0, x), (9, 0), (9, 0), (9, 0)]) (st' := [(0, (-1)), (0, x)]) (g' := g) rfl ?_
      refine wp_ic_eq rfl (fun c7 => ?_) (fun c7 => ?_)
      · refine wp_n 1 (pc' := 30) (L' := [(2, 127), (0, w), (0, h), (0, x), (9, 0), (9, 0), (9, 0)]) (st' := [(2, 127)]) (g' := g) rfl ?_
        refine wp_cv (as := [(2, 127)]) (rest := []) rfl rfl rfl (Nat.le_of_ble_eq_true rfl) rfl (m_clearOdds) (by decide) (fun r8 h9 => ?_)
        obtain ⟨g30, rfl, hZ30, hF30⟩ := h9
        refine wp_eq (L' := [(2, 127), (0, w), (0, h), (0, x), (9, 0), (9, 0), (9, 0)]) (st' := []) (g' := g30) ?_
        refine wp_n 4 (pc' := 39) (L' := [(2, 127), (0, w), (0, h), (0, x), (0, 0), (0, 0), (9, 0)]) (st' := []) (g' := g30) rfl ?_
        have L39 : ∀ (lf : Nat) (i : Nat) (f : am_G) (w6 : am_V), (c 17 h.toNat).toNat - i < lf → (i ≤ (c 17 h.toNat).toNat) → (∀ j, j < 37 → f 135 j = hsm c P w.toNat h j i) → (FrN g f) → Wp sn sx 5 T203 39 [(2, 127), (0, w), (0, h), (0, x), (0, (wsm c h i)), (0, ((i : Nat) : Int)), w6] [] (SH b) f (fun y => ∃ g' v, y = (some (0, v), SH b, g') ∧ OdA c P w h x v ∧ FrN g g') := by
          intro lf
          induction lf with
          | zero => intro i f w6 hlf; exact absurd hlf (Nat.not_lt_zero _)
          | succ lf ih39 =>
            intro i f w6 hlf hi hH hF
            have hr0 := hI.rg.r17_20 h.toNat (by omega)
            have hMf := hM.g_same hF
            refine wp_n 6 (pc' := 50) (L' := [(2, 127), (0, w), (0, h), (0, x), (0, (wsm c h i)), (0, ((i : Nat) : Int)), w6]) (st' := [(0, (455 + h)), (2, 128), (0, ((i : Nat) : Int))]) (g' := f) rfl ?_
            refine wp_iald (k := 128) ((455 + h.toNat)) rfl rfl (by omega) (by omega) (by decide) ?_
            refine wp_eq (L' := [(2, 127), (0, w), (0, h), (0, x), (0, (wsm c h i)), (0, ((i : Nat) : Int)), w6]) (st' := [(0, (c 17 h.toNat)), (0, ((i : Nat) : Int))]) (g' := f) ?_ (by rfl) (by rw [hMf.many _ (by omega)]) (by rfl)
            refine wp_ic_ge rfl (fun c10 => ?_) (fun c10 => ?_)
            · have hk2 : i = (c 17 h.toNat).toNat := by omega
              refine wp_n 2 (pc' := 144) (L' := [(2, 127), (0, w), (0, h), (0, x), (0, (wsm c h i)), (0, ((i : Nat) : Int)), w6]) (st' := [(0, (-1)), (0, x)]) (g' := f) rfl ?_
              refine wp_ic_ne rfl (fun c11 => ?_) (fun c11 => ?_)
              · refine wp_n 3 (pc' := 161) (L' := [(2, 127), (0, w), (0, h), (0, x), (0, (wsm c h i)), (0, ((i : Nat) : Int)), w6]) (st' := [(0, x), (2, 135)]) (g' := f) rfl ?_
                refine wp_iald (k := 135) (x.toNat) rfl rfl (by omega) (by omega) (by decide) ?_
                exact wp_ret rfl rfl rfl ⟨_, _, rfl, Or.inl ⟨by unfold OdD; omega, by unfold osV; rw [← hk2]; first | (rw [if_pos (by omega)]; done) | (rw [if_neg (by omega)]; exact hH _ (by omega))⟩, hF⟩
              · refine wp_n 4 (pc' := 162) (L' := [(2, 127), (0, w), (0, h), (0, x), (0, (wsm c h i)), (0, ((i : Nat) : Int)), w6]) (st' := [(0, (1000 * (wsm c h i)))]) (g' := f) rfl ?_
                exact wp_ret rfl rfl rfl ⟨_, _, rfl, Or.inl ⟨by unfold OdD; omega, by unfold osV; rw [← hk2]; first | (rw [if_pos (by omega)]; done) | (rw [if_neg (by omega)]; exact hH _ (by omega))⟩, hF⟩
            · have q0 := hI.rg.r16_15 (30 * h.toNat + 5 * i) (by omega)
              have q1 := hI.rg.r16_16 (30 * h.toNat + 5 * i + 1) (by omega)
              have q2 := hI.rg.r16_17 (30 * h.toNat + 5 * i + 2) (by omega)
              have q3 := hI.rg.r16_18 (30 * h.toNat + 5 * i + 3) (by omega)
              have q4 := hI.rg.r16_19 (30 * h.toNat + 5 * i + 4) (by omega)
              refine wp_n 16 (pc' := 79) (L' := [(2, 127), (0, w), (0, h), (0, x), (0, (wsm c h i)), (0, ((i : Nat) : Int)), (0, ((460 + (30 * h)) + (5 * ((i : Nat) : Int))))]) (st' := [(0, (((460 + (30 * h)) + (5 * ((i : Nat) : Int))) + 4)), (2, 128), (0, (wsm c h i))]) (g' := f) rfl ?_
              refine wp_iald (k := 128) ((460 + (30 * h.toNat + 5 * i + 4))) rfl rfl (by omega) (by omega) (by decide) ?_
              refine wp_eq (L' := [(2, 127), (0, w), (0, h), (0, x), (0, (wsm c h i)), (0, ((i : Nat) : Int)), (0, ((460 + (30 * h)) + (5 * ((i : Nat) : Int))))]) (st' := [(0, (c 16 (30 * h.toNat + 5 * i + 4))), (0, (wsm c h i))]) (g' := f) ?_ (by rfl) (by rw [hMf.start _ (by omega)]) (by rfl)
              refine wp_n 4 (pc' := 85) (L' := [(2, 127), (0, w), (0, h), (0, x), (0, ((wsm c h i) + (c 16 (30 * h.toNat + 5 * i + 4)))), (0, ((i : Nat) : Int)), (0, ((460 + (30 * h)) + (5 * ((i : Nat) : Int))))]) (st' := [(0, w), (2, 127)]) (g' := f) rfl ?_
              refine wp_eq (L' := [(2, 127), (0, w), (0, h), (0, x), (0, ((wsm c h i) + (c 16 (30 * h.toNat + 5 * i + 4)))), (0, ((i : Nat) : Int)), (0, ((460 + (30 * h)) + (5 * ((i : Nat) : Int))))]) (st' := [(0, ((w.toNat : Nat) : Int)), (2, 127)]) (g' := f) ?_ (by rfl) (by rw [Int.toNat_of_nonneg (by omega)]) (by rfl)
              refine wp_n 3 (pc' := 91) (L' := [(2, 127), (0, w), (0, h), (0, x), (0, ((wsm c h i) + (c 16 (30 * h.toNat + 5 * i + 4)))), (0, ((i : Nat) : Int)), (0, ((460 + (30 * h)) + (5 * ((i : Nat) : Int))))]) (st' := [(0, ((460 + (30 * h)) + (5 * ((i : Nat) : Int)))), (2, 128), (0, ((w.toNat : Nat) : Int)), (2, 127)]) (g' := f) rfl ?_
              refine wp_iald (k := 128) ((460 + (30 * h.toNat + 5 * i))) rfl rfl (by omega) (by omega) (by decide) ?_
              refine wp_eq (L' := [(2, 127), (0, w), (0, h), (0, x), (0, ((wsm c h i) + (c 16 (30 * h.toNat + 5 * i + 4)))), (0, ((i : Nat) : Int)), (0, ((460 + (30 * h)) + (5 * ((i : Nat) : Int))))]) (st' := [(0, (c 16 (30 * h.toNat + 5 * i))), (0, ((w.toNat : Nat) : Int)), (2, 127)]) (g' := f) ?_ (by rfl) (by rw [hMf.start _ (by omega)]) (by rfl)
              refine wp_n 5 (pc' := 100) (L' := [(2, 127), (0, w), (0, h), (0, x), (0, ((wsm c h i) + (c 16 (30 * h.toNat + 5 * i + 4)))), (0, ((i : Nat) : Int)), (0, ((460 + (30 * h)) + (5 * ((i : Nat) : Int))))]) (st' := [(0, (((460 + (30 * h)) + (5 * ((i : Nat) : Int))) + 1)), (2, 128), (0, (c 16 (30 * h.toNat + 5 * i))), (0, ((w.toNat : Nat) : Int)), (2, 127)]) (g' := f) rfl ?_
              refine wp_iald (k := 128) ((460 + (30 * h.toNat + 5 * i + 1))) rfl rfl (by omega) (by omega) (by decide) ?_
              refine wp_eq (L' := [(2, 127), (0, w), (0, h), (0, x), (0, ((wsm c h i) + (c 16 (30 * h.toNat + 5 * i + 4)))), (0, ((i : Nat) : Int)), (0, ((460 + (30 * h)) + (5 * ((i : Nat) : Int))))]) (st' := [(0, (c 16 (30 * h.toNat + 5 * i + 1))), (0, (c 16 (30 * h.toNat + 5 * i))), (0, ((w.toNat : Nat) : Int)), (2, 127)]) (g' := f) ?_ (by rfl) (by rw [hMf.start _ (by omega)]) (by rfl)
              refine wp_n 5 (pc' := 109) (L' := [(2, 127), (0, w), (0, h), (0, x), (0, ((wsm c h i) + (c 16 (30 * h.toNat + 5 * i + 4)))), (0, ((i : Nat) : Int)), (0, ((460 + (30 * h)) + (5 * ((i : Nat) : Int))))]) (st' := [(0, (((460 + (30 * h)) + (5 * ((i : Nat) : Int))) + 2)), (2, 128), (0, (c 16 (30 * h.toNat + 5 * i + 1))), (0, (c 16 (30 * h.toNat + 5 * i))), (0, ((w.toNat : Nat) : Int)), (2, 127)]) (g' := f) rfl ?_
              refine wp_iald (k := 128) ((460 + (30 * h.toNat + 5 * i + 2))) rfl rfl (by omega) (by omega) (by decide) ?_
              refine wp_eq (L' := [(2, 127), (0, w), (0, h), (0, x), (0, ((wsm c h i) + (c 16 (30 * h.toNat + 5 * i + 4)))), (0, ((i : Nat) : Int)), (0, ((460 + (30 * h)) + (5 * ((i : Nat) : Int))))]) (st' := [(0, (c 16 (30 * h.toNat + 5 * i + 2))), (0, (c 16 (30 * h.toNat + 5 * i + 1))), (0, (c 16 (30 * h.toNat + 5 * i))), (0, ((w.toNat : Nat) : Int)), (2, 127)]) (g' := f) ?_ (by rfl) (by rw [hMf.start _ (by omega)]) (by rfl)
              refine wp_n 5 (pc' := 118) (L' := [(2, 127), (0, w), (0, h), (0, x), (0, ((wsm c h i) + (c 16 (30 * h.toNat + 5 * i + 4)))), (0, ((i : Nat) : Int)), (0, ((460 + (30 * h)) + (5 * ((i : Nat) : Int))))]) (st' := [(0, (((460 + (30 * h)) + (5 * ((i : Nat) : Int))) + 3)), (2, 128), (0, (c 16 (30 * h.toNat + 5 * i + 2))), (0, (c 16 (30 * h.toNat + 5 * i + 1))), (0, (c 16 (30 * h.toNat + 5 * i))), (0, ((w.toNat : Nat) : Int)), (2, 127)]) (g' := f) rfl ?_
              refine wp_iald (k := 128) ((460 + (30 * h.toNat + 5 * i + 3))) rfl rfl (by omega) (by omega) (by decide) ?_
              refine wp_eq (L' := [(2, 127), (0, w), (0, h), (0, x), (0, ((wsm c h i) + (c 16 (30 * h.toNat + 5 * i + 4)))), (0, ((i : Nat) : Int)), (0, ((460 + (30 * h)) + (5 * ((i : Nat) : Int))))]) (st' := [(0, (c 16 (30 * h.toNat + 5 * i + 3))), (0, (c 16 (30 * h.toNat + 5 * i + 2))), (0, (c 16 (30 * h.toNat + 5 * i + 1))), (0, (c 16 (30 * h.toNat + 5 * i))), (0, ((w.toNat : Nat) : Int)), (2, 127)]) (g' := f) ?_ (by rfl) (by rw [hMf.start _ (by omega)]) (by rfl)
              refine wp_cv (as := [(2, 127), (0, ((w.toNat : Nat) : Int)), (0, (c 16 (30 * h.toNat + 5 * i))), (0, (c 16 (30 * h.toNat + 5 * i + 1))), (0, (c 16 (30 * h.toNat + 5 * i + 2))), (0, (c 16 (30 * h.toNat + 5 * i + 3)))]) (rest := []) rfl rfl rfl (Nat.le_of_ble_eq_true rfl) rfl (m_roll (c := c) (w := (w.toNat)) hI hMf (by omega) (by omega) (by omega) (by omega) (by omega)) (by decide) (fun r12 h13 => ?_)
              obtain ⟨g119, rfl, hC119, hF119, hO119⟩ := h13
              refine wp_eq (L' := [(2, 127), (0, w), (0, h), (0, x), (0, ((wsm c h i) + (c 16 (30 * h.toNat + 5 * i + 4)))), (0, ((i : Nat) : Int)), (0, ((460 + (30 * h)) + (5 * ((i : Nat) : Int))))]) (st' := []) (g' := g119) ?_
              refine wp_n 2 (pc' := 124) (L' := [(2, 127), (0, w), (0, h), (0, x), (0, ((wsm c h i) + (c 16 (30 * h.toNat + 5 * i + 4)))), (0, ((i : Nat) : Int)), (0, ((460 + (30 * h)) + (5 * ((i : Nat) : Int))))]) (st' := [(0, w), (2, 127)]) (g' := g119) rfl ?_
              refine wp_eq (L' := [(2, 127), (0, w), (0, h), (0, x), (0, ((wsm c h i) + (c 16 (30 * h.toNat + 5 * i + 4)))), (0, ((i : Nat) : Int)), (0, ((460 + (30 * h)) + (5 * ((i : Nat) : Int))))]) (st' := [(0, ((w.toNat : Nat) : Int)), (2, 127)]) (g' := g119) ?_ (by rfl) (by rw [Int.toNat_of_nonneg (by omega)]) (by rfl)
              refine wp_n 5 (pc' := 132) (L' := [(2, 127), (0, w), (0, h), (0, x), (0, ((wsm c h i) + (c 16 (30 * h.toNat + 5 * i + 4)))), (0, ((i : Nat) : Int)), (0, ((460 + (30 * h)) + (5 * ((i : Nat) : Int))))]) (st' := [(0, (((460 + (30 * h)) + (5 * ((i : Nat) : Int))) + 4)), (2, 128), (0, ((w.toNat : Nat) : Int)), (2, 127)]) (g' := g119) rfl ?_
              refine wp_iald (k := 128) ((460 + (30 * h.toNat + 5 * i + 4))) rfl rfl (by omega) (by omega) (by decide) ?_
              refine wp_eq (L' := [(2, 127), (0, w), (0, h), (0, x), (0, ((wsm c h i) + (c 16 (30 * h.toNat + 5 * i + 4)))), (0, ((i : Nat) : Int)), (0, ((460 + (30 * h)) + (5 * ((i : Nat) : Int))))]) (st' := [(0, (c 16 (30 * h.toNat + 5 * i + 4))), (0, ((w.toNat : Nat) : Int)), (2, 127)]) (g' := g119) ?_ (by rfl) (by rw [(hMf.g_same hF119).start _ (by omega)]) (by rfl)
              refine wp_cv (as := [(2, 127), (0, ((w.toNat : Nat) : Int)), (0, (c 16 (30 * h.toNat + 5 * i + 4)))]) (rest := []) rfl rfl rfl (Nat.le_of_ble_eq_true rfl) rfl (m_addOdds (c := c) (w := (w.toNat)) (st := (rStud c P w.toNat (c 16 (30 * h.toNat + 5 * i)) (c 16 (30 * h.toNat + 5 * i + 1)))) (pk := (rPkt c P w.toNat (c 16 (30 * h.toNat + 5 * i)) (c 16 (30 * h.toNat + 5 * i + 1)) (c 16 (30 * h.toNat + 5 * i + 2)) (c 16 (30 * h.toNat + 5 * i + 3)))) hI (hMf.g_same hF119) (by omega) hC119.2.1 hC119.2.2 (rStud_in _ _ _ _ _) (rPkt_in h5)) (by decide) (fun r14 h15 => ?_)
              obtain ⟨g133, rfl, hA133, hF133⟩ := h15
              refine wp_eq (L' := [(2, 127), (0, w), (0, h), (0, x), (0, ((wsm c h i) + (c 16 (30 * h.toNat + 5 * i + 4)))), (0, ((i : Nat) : Int)), (0, ((460 + (30 * h)) + (5 * ((i : Nat) : Int))))]) (st' := []) (g' := g133) ?_
              refine wp_n 2 (pc' := 39) (L' := [(2, 127), (0, w), (0, h), (0, x), (0, ((wsm c h i) + (c 16 (30 * h.toNat + 5 * i + 4)))), (0, (((i : Nat) : Int) + 1)), (0, ((460 + (30 * h)) + (5 * ((i : Nat) : Int))))]) (st' := []) (g' := g133) rfl ?_
              refine wp_eq (ih39 (i + 1) (g133) ((0, ((460 + (30 * h)) + (5 * ((i : Nat) : Int))))) ?_ ?_ ?_ ?_) (by rw [wsm_s]; rfl) (by rfl) (by rfl)
              · omega
              · omega
              · intro j hj; rw [hA133 j hj, show g119 135 j = f 135 j from congrFun hO119 j, hH j hj, hsm_s]; rfl
              · exact (hF.trans hF119).trans (hF133.n (by decide))
        refine wp_eq (L39 (_ + 1) (0) (g30) ((9, 0)) (Nat.lt_succ_self _) ?_ ?_ ?_) (by rfl) (by rfl) (by rfl)
        · exact Nat.zero_le _
        · exact fun j hj => hZ30 j hj
        · exact hF30.n (by decide)
      · refine wp_n 2 (pc' := 21) (L' := [(2, 127), (0, w), (0, h), (0, x), (9, 0), (9, 0), (9, 0)]) (st' := [(0, x), (2, 127)]) (g' := g) rfl ?_
        refine wp_cv (as := [(2, 127), (0, x)]) (rest := []) rfl rfl rfl (Nat.le_of_ble_eq_true rfl) rfl (m_isPocket (by omega) (by assumption) (by omega)) (by decide) (fun r16 h17 => ?_)
        rcases h17 with ⟨rfl, p21⟩ | ⟨rfl, p21⟩
        · refine wp_eq (L' := [(2, 127), (0, w), (0, h), (0, x), (9, 0), (9, 0), (9, 0)]) (st' := [(0, 1)]) (g' := g) ?_
          refine wp_n 2 (pc' := 30) (L' := [(2, 127), (0, w), (0, h), (0, x), (9, 0), (9, 0), (9, 0)]) (st' := [(2, 127)]) (g' := g) rfl ?_
          refine wp_cv (as := [(2, 127)]) (rest := []) rfl rfl rfl (Nat.le_of_ble_eq_true rfl) rfl (m_clearOdds) (by decide) (fun r18 h19 => ?_)
          obtain ⟨g30, rfl, hZ30, hF30⟩ := h19
          refine wp_eq (L' := [(2, 127), (0, w), (0, h), (0, x), (9, 0), (9, 0), (9, 0)]) (st' := []) (g' := g30) ?_
          refine wp_n 4 (pc' := 39) (L' := [(2, 127), (0, w), (0, h), (0, x), (0, 0), (0, 0), (9, 0)]) (st' := []) (g' := g30) rfl ?_
          have L39 : ∀ (lf : Nat) (i : Nat) (f : am_G) (w6 : am_V), (c 17 h.toNat).toNat - i < lf → (i ≤ (c 17 h.toNat).toNat) → (∀ j, j < 37 → f 135 j = hsm c P w.toNat h j i) → (FrN g f) → Wp sn sx 5 T203 39 [(2, 127), (0, w), (0, h), (0, x), (0, (wsm c h i)), (0, ((i : Nat) : Int)), w6] [] (SH b) f (fun y => ∃ g' v, y = (some (0, v), SH b, g') ∧ OdA c P w h x v ∧ FrN g g') := by
            intro lf
            induction lf with
            | zero => intro i f w6 hlf; exact absurd hlf (Nat.not_lt_zero _)
            | succ lf ih39 =>
              intro i f w6 hlf hi hH hF
              have hr0 := hI.rg.r17_20 h.toNat (by omega)
              have hMf := hM.g_same hF
              refine wp_n 6 (pc' := 50) (L' := [(2, 127), (0, w), (0, h), (0, x), (0, (wsm c h i)), (0, ((i : Nat) : Int)), w6]) (st' := [(0, (455 + h)), (2, 128), (0, ((i : Nat) : Int))]) (g' := f) rfl ?_
              refine wp_iald (k := 128) ((455 + h.toNat)) rfl rfl (by omega) (by omega) (by decide) ?_
              refine wp_eq (L' := [(2, 127), (0, w), (0, h), (0, x), (0, (wsm c h i)), (0, ((i : Nat) : Int)), w6]) (st' := [(0, (c 17 h.toNat)), (0, ((i : Nat) : Int))]) (g' := f) ?_ (by rfl) (by rw [hMf.many _ (by omega)]) (by rfl)
              refine wp_ic_ge rfl (fun c20 => ?_) (fun c20 => ?_)
              · have hk2 : i = (c 17 h.toNat).toNat := by omega
                refine wp_n 2 (pc' := 144) (L' := [(2, 127), (0, w), (0, h), (0, x), (0, (wsm c h i)), (0, ((i : Nat) : Int)), w6]) (st' := [(0, (-1)), (0, x)]) (g' := f) rfl ?_
                refine wp_ic_ne rfl (fun c21 => ?_) (fun c21 => ?_)
                · refine wp_n 3 (pc' := 161) (L' := [(2, 127), (0, w), (0, h), (0, x), (0, (wsm c h i)), (0, ((i : Nat) : Int)), w6]) (st' := [(0, x), (2, 135)]) (g' := f) rfl ?_
                  refine wp_iald (k := 135) (x.toNat) rfl rfl (by omega) (by omega) (by decide) ?_
                  exact wp_ret rfl rfl rfl ⟨_, _, rfl, Or.inl ⟨by unfold OdD; omega, by unfold osV; rw [← hk2]; first | (rw [if_pos (by omega)]; done) | (rw [if_neg (by omega)]; exact hH _ (by omega))⟩, hF⟩
                · refine wp_n 4 (pc' := 162) (L' := [(2, 127), (0, w), (0, h), (0, x), (0, (wsm c h i)), (0, ((i : Nat) : Int)), w6]) (st' := [(0, (1000 * (wsm c h i)))]) (g' := f) rfl ?_
                  exact wp_ret rfl rfl rfl ⟨_, _, rfl, Or.inl ⟨by unfold OdD; omega, by unfold osV; rw [← hk2]; first | (rw [if_pos (by omega)]; done) | (rw [if_neg (by omega)]; exact hH _ (by omega))⟩, hF⟩
              · have q0 := hI.rg.r16_15 (30 * h.toNat + 5 * i) (by omega)
                have q1 := hI.rg.r16_16 (30 * h.toNat + 5 * i + 1) (by omega)
                have q2 := hI.rg.r16_17 (30 * h.toNat + 5 * i + 2) (by omega)
                have q3 := hI.rg.r16_18 (30 * h.toNat + 5 * i + 3) (by omega)
                have q4 := hI.rg.r16_19 (30 * h.toNat + 5 * i + 4) (by omega)
                refine wp_n 16 (pc' := 79) (L' := [(2, 127), (0, w), (0, h), (0, x), (0, (wsm c h i)), (0, ((i : Nat) : Int)), (0, ((460 + (30 * h)) + (5 * ((i : Nat) : Int))))]) (st' := [(0, (((460 + (30 * h)) + (5 * ((i : Nat) : Int))) + 4)), (2, 128), (0, (wsm c h i))]) (g' := f) rfl ?_
                refine wp_iald (k := 128) ((460 + (30 * h.toNat + 5 * i + 4))) rfl rfl (by omega) (by omega) (by decide) ?_
                refine wp_eq (L' := [(2, 127), (0, w), (0, h), (0, x), (0, (wsm c h i)), (0, ((i : Nat) : Int)), (0, ((460 + (30 * h)) + (5 * ((i : Nat) : Int))))]) (st' := [(0, (c 16 (30 * h.toNat + 5 * i + 4))), (0, (wsm c h i))]) (g' := f) ?_ (by rfl) (by rw [hMf.start _ (by omega)]) (by rfl)
                refine wp_n 4 (pc' := 85) (L' := [(2, 127), (0, w), (0, h), (0, x), (0, ((wsm c h i) + (c 16 (30 * h.toNat + 5 * i + 4)))), (0, ((i : Nat) : Int)), (0, ((460 + (30 * h)) + (5 * ((i : Nat) : Int))))]) (st' := [(0, w), (2, 127)]) (g' := f) rfl ?_
                refine wp_eq (L' := [(2, 127), (0, w), (0, h), (0, x), (0, ((wsm c h i) + (c 16 (30 * h.toNat + 5 * i + 4)))), (0, ((i : Nat) : Int)), (0, ((460 + (30 * h)) + (5 * ((i : Nat) : Int))))]) (st' := [(0, ((w.toNat : Nat) : Int)), (2, 127)]) (g' := f) ?_ (by rfl) (by rw [Int.toNat_of_nonneg (by omega)]) (by rfl)
                refine wp_n 3 (pc' := 91) (L' := [(2, 127), (0, w), (0, h), (0, x), (0, ((wsm c h i) + (c 16 (30 * h.toNat + 5 * i + 4)))), (0, ((i : Nat) : Int)), (0, ((460 + (30 * h)) + (5 * ((i : Nat) : Int))))]) (st' := [(0, ((460 + (30 * h)) + (5 * ((i : Nat) : Int)))), (2, 128), (0, ((w.toNat : Nat) : Int)), (2, 127)]) (g' := f) rfl ?_
                refine wp_iald (k := 128) ((460 + (30 * h.toNat + 5 * i))) rfl rfl (by omega) (by omega) (by decide) ?_
                refine wp_eq (L' := [(2, 127), (0, w), (0, h), (0, x), (0, ((wsm c h i) + (c 16 (30 * h.toNat + 5 * i + 4)))), (0, ((i : Nat) : Int)), (0, ((460 + (30 * h)) + (5 * ((i : Nat) : Int))))]) (st' := [(0, (c 16 (30 * h.toNat + 5 * i))), (0, ((w.toNat : Nat) : Int)), (2, 127)]) (g' := f) ?_ (by rfl) (by rw [hMf.start _ (by omega)]) (by rfl)
                refine wp_n 5 (pc' := 100) (L' := [(2, 127), (0, w), (0, h), (0, x), (0, ((wsm c h i) + (c 16 (30 * h.toNat + 5 * i + 4)))), (0, ((i : Nat) : Int)), (0, ((460 + (30 * h)) + (5 * ((i : Nat) : Int))))]) (st' := [(0, (((460 + (30 * h)) + (5 * ((i : Nat) : Int))) + 1)), (2, 128), (0, (c 16 (30 * h.toNat + 5 * i))), (0, ((w.toNat : Nat) : Int)), (2, 127)]) (g' := f) rfl ?_
                refine wp_iald (k := 128) ((460 + (30 * h.toNat + 5 * i + 1))) rfl rfl (by omega) (by omega) (by decide) ?_
                refine wp_eq (L' := [(2, 127), (0, w), (0, h), (0, x), (0, ((wsm c h i) + (c 16 (30 * h.toNat + 5 * i + 4)))), (0, ((i : Nat) : Int)), (0, ((460 + (30 * h)) + (5 * ((i : Nat) : Int))))]) (st' := [(0, (c 16 (30 * h.toNat + 5 * i + 1))), (0, (c 16 (30 * h.toNat + 5 * i))), (0, ((w.toNat : Nat) : Int)), (2, 127)]) (g' := f) ?_ (by rfl) (by rw [hMf.start _ (by omega)]) (by rfl)
                refine wp_n 5 (pc' := 109) (L' := [(2, 127), (0, w), (0, h), (0, x), (0, ((wsm c h i) + (c 16 (30 * h.toNat + 5 * i + 4)))), (0, ((i : Nat) : Int)), (0, ((460 + (30 * h)) + (5 * ((i : Nat) : Int))))]) (st' := [(0, (((460 + (30 * h)) + (5 * ((i : Nat) : Int))) + 2)), (2, 128), (0, (c 16 (30 * h.toNat + 5 * i + 1))), (0, (c 16 (30 * h.toNat + 5 * i))), (0, ((w.toNat : Nat) : Int)), (2, 127)]) (g' := f) rfl ?_
                refine wp_iald (k := 128) ((460 + (30 * h.toNat + 5 * i + 2))) rfl rfl (by omega) (by omega) (by decide) ?_
                refine wp_eq (L' := [(2, 127), (0, w), (0, h), (0, x), (0, ((wsm c h i) + (c 16 (30 * h.toNat + 5 * i + 4)))), (0, ((i : Nat) : Int)), (0, ((460 + (30 * h)) + (5 * ((i : Nat) : Int))))]) (st' := [(0, (c 16 (30 * h.toNat + 5 * i + 2))), (0, (c 16 (30 * h.toNat + 5 * i + 1))), (0, (c 16 (30 * h.toNat + 5 * i))), (0, ((w.toNat : Nat) : Int)), (2, 127)]) (g' := f) ?_ (by rfl) (by rw [hMf.start _ (by omega)]) (by rfl)
                refine wp_n 5 (pc' := 118) (L' := [(2, 127), (0, w), (0, h), (0, x), (0, ((wsm c h i) + (c 16 (30 * h.toNat + 5 * i + 4)))), (0, ((i : Nat) : Int)), (0, ((460 + (30 * h)) + (5 * ((i : Nat) : Int))))]) (st' := [(0, (((460 + (30 * h)) + (5 * ((i : Nat) : Int))) + 3)), (2, 128), (0, (c 16 (30 * h.toNat + 5 * i + 2))), (0, (c 16 (30 * h.toNat + 5 * i + 1))), (0, (c 16 (30 * h.toNat + 5 * i))), (0, ((w.toNat : Nat) : Int)), (2, 127)]) (g' := f) rfl ?_
                refine wp_iald (k := 128) ((460 + (30 * h.toNat + 5 * i + 3))) rfl rfl (by omega) (by omega) (by decide) ?_
                refine wp_eq (L' := [(2, 127), (0, w), (0, h), (0, x), (0, ((wsm c h i) + (c 16 (30 * h.toNat + 5 * i + 4)))), (0, ((i : Nat) : Int)), (0, ((460 + (30 * h)) + (5 * ((i : Nat) : Int))))]) (st' := [(0, (c 16 (30 * h.toNat + 5 * i + 3))), (0, (c 16 (30 * h.toNat + 5 * i + 2))), (0, (c 16 (30 * h.toNat + 5 * i + 1))), (0, (c 16 (30 * h.toNat + 5 * i))), (0, ((w.toNat : Nat) : Int)), (2, 127)]) (g' := f) ?_ (by rfl) (by rw [hMf.start _ (by omega)]) (by rfl)
                refine wp_cv (as := [(2, 127), (0, ((w.toNat : Nat) : Int)), (0, (c 16 (30 * h.toNat + 5 * i))), (0, (c 16 (30 * h.toNat + 5 * i + 1))), (0, (c 16 (30 * h.toNat + 5 * i + 2))), (0, (c 16 (30 * h.toNat + 5 * i + 3)))]) (rest := []) rfl rfl rfl (Nat.le_of_ble_eq_true rfl) rfl (m_roll (c := c) (w := (w.toNat)) hI hMf (by omega) (by omega) (by omega) (by omega) (by omega)) (by decide) (fun r22 h23 => ?_)
                obtain ⟨g119, rfl, hC119, hF119, hO119⟩ := h23
                refine wp_eq (L' := [(2, 127), (0, w), (0, h), (0, x), (0, ((wsm c h i) + (c 16 (30 * h.toNat + 5 * i + 4)))), (0, ((i : Nat) : Int)), (0, ((460 + (30 * h)) + (5 * ((i : Nat) : Int))))]) (st' := []) (g' := g119) ?_
                refine wp_n 2 (pc' := 124) (L' := [(2, 127), (0, w), (0, h), (0, x), (0, ((wsm c h i) + (c 16 (30 * h.toNat + 5 * i + 4)))), (0, ((i : Nat) : Int)), (0, ((460 + (30 * h)) + (5 * ((i : Nat) : Int))))]) (st' := [(0, w), (2, 127)]) (g' := g119) rfl ?_
                refine wp_eq (L' := [(2, 127), (0, w), (0, h), (0, x), (0, ((wsm c h i) + (c 16 (30 * h.toNat + 5 * i + 4)))), (0, ((i : Nat) : Int)), (0, ((460 + (30 * h)) + (5 * ((i : Nat) : Int))))]) (st' := [(0, ((w.toNat : Nat) : Int)), (2, 127)]) (g' := g119) ?_ (by rfl) (by rw [Int.toNat_of_nonneg (by omega)]) (by rfl)
                refine wp_n 5 (pc' := 132) (L' := [(2, 127), (0, w), (0, h), (0, x), (0, ((wsm c h i) + (c 16 (30 * h.toNat + 5 * i + 4)))), (0, ((i : Nat) : Int)), (0, ((460 + (30 * h)) + (5 * ((i : Nat) : Int))))]) (st' := [(0, (((460 + (30 * h)) + (5 * ((i : Nat) : Int))) + 4)), (2, 128), (0, ((w.toNat : Nat) : Int)), (2, 127)]) (g' := g119) rfl ?_
                refine wp_iald (k := 128) ((460 + (30 * h.toNat + 5 * i + 4))) rfl rfl (by omega) (by omega) (by decide) ?_
                refine wp_eq (L' := [(2, 127), (0, w), (0, h), (0, x), (0, ((wsm c h i) + (c 16 (30 * h.toNat + 5 * i + 4)))), (0, ((i : Nat) : Int)), (0, ((460 + (30 * h)) + (5 * ((i : Nat) : Int))))]) (st' := [(0, (c 16 (30 * h.toNat + 5 * i + 4))), (0, ((w.toNat : Nat) : Int)), (2, 127)]) (g' := g119) ?_ (by rfl) (by rw [(hMf.g_same hF119).start _ (by omega)]) (by rfl)
                refine wp_cv (as := [(2, 127), (0, ((w.toNat : Nat) : Int)), (0, (c 16 (30 * h.toNat + 5 * i + 4)))]) (rest := []) rfl rfl rfl (Nat.le_of_ble_eq_true rfl) rfl (m_addOdds (c := c) (w := (w.toNat)) (st := (rStud c P w.toNat (c 16 (30 * h.toNat + 5 * i)) (c 16 (30 * h.toNat + 5 * i + 1)))) (pk := (rPkt c P w.toNat (c 16 (30 * h.toNat + 5 * i)) (c 16 (30 * h.toNat + 5 * i + 1)) (c 16 (30 * h.toNat + 5 * i + 2)) (c 16 (30 * h.toNat + 5 * i + 3)))) hI (hMf.g_same hF119) (by omega) hC119.2.1 hC119.2.2 (rStud_in _ _ _ _ _) (rPkt_in h5)) (by decide) (fun r24 h25 => ?_)
                obtain ⟨g133, rfl, hA133, hF133⟩ := h25
                refine wp_eq (L' := [(2, 127), (0, w), (0, h), (0, x), (0, ((wsm c h i) + (c 16 (30 * h.toNat + 5 * i + 4)))), (0, ((i : Nat) : Int)), (0, ((460 + (30 * h)) + (5 * ((i : Nat) : Int))))]) (st' := []) (g' := g133) ?_
                refine wp_n 2 (pc' := 39) (L' := [(2, 127), (0, w), (0, h), (0, x), (0, ((wsm c h i) + (c 16 (30 * h.toNat + 5 * i + 4)))), (0, (((i : Nat) : Int) + 1)), (0, ((460 + (30 * h)) + (5 * ((i : Nat) : Int))))]) (st' := []) (g' := g133) rfl ?_
                refine wp_eq (ih39 (i + 1) (g133) ((0, ((460 + (30 * h)) + (5 * ((i : Nat) : Int))))) ?_ ?_ ?_ ?_) (by rw [wsm_s]; rfl) (by rfl) (by rfl)
                · omega
                · omega
                · intro j hj; rw [hA133 j hj, show g119 135 j = f 135 j from congrFun hO119 j, hH j hj, hsm_s]; rfl
                · exact (hF.trans hF119).trans (hF133.n (by decide))
          refine wp_eq (L39 (_ + 1) (0) (g30) ((9, 0)) (Nat.lt_succ_self _) ?_ ?_ ?_) (by rfl) (by rfl) (by rfl)
          · exact Nat.zero_le _
          · exact fun j hj => hZ30 j hj
          · exact hF30.n (by decide)
        · refine wp_eq (L' := [(2, 127), (0, w), (0, h), (0, x), (9, 0), (9, 0), (9, 0)]) (st' := [(0, 0)]) (g' := g) ?_
          refine wp_n 2 (pc' := 28) (L' := [(2, 127), (0, w), (0, h), (0, x), (9, 0), (9, 0), (9, 0)]) (st' := [(0, (-1))]) (g' := g) rfl ?_
          exact wp_ret rfl rfl rfl ⟨_, _, rfl, Or.inr ⟨by unfold OdD; omega, rfl⟩, FrN.rfl⟩
    · refine wp_eq (L' := [(2, 127), (0, w), (0, h), (0, x), (9, 0), (9, 0), (9, 0)]) (st' := [(0, 0)]) (g' := g) ?_
      refine wp_n 2 (pc' := 28) (L' := [(2, 127), (0, w), (0, h), (0, x), (9, 0), (9, 0), (9, 0)]) (st' := [(0, (-1))]) (g' := g) rfl ?_
      exact wp_ret rfl rfl rfl ⟨_, _, rfl, Or.inr ⟨by unfold OdD; omega, rfl⟩, FrN.rfl⟩
  · refine wp_eq (L' := [(2, 127), (0, w), (0, h), (0, x), (9, 0), (9, 0), (9, 0)]) (st' := [(0, 0)]) (g' := g) ?_
    refine wp_n 2 (pc' := 28) (L' := [(2, 127), (0, w), (0, h), (0, x), (9, 0), (9, 0), (9, 0)]) (st' := [(0, (-1))]) (g' := g) rfl ?_
    exact wp_ret rfl rfl rfl ⟨_, _, rfl, Or.inr ⟨by unfold OdD; omega, rfl⟩, FrN.rfl⟩
theorem C_odds {sn : Nat} {sx : Nat → Int} {b : Nat} {g : am_G} {P : Nat} {w h x : Int} (h_w : R32 w) (h_h : R32 h) (h_x : R32 x) (hI : CInv P g) : Ev sn sx 8 109 [(2, 0), (0, w), (0, h), (0, x)] (SH b) g (CPost P g (fun c1 v1 => OdA g P w h x v1 ∧ CoE g c1)) := (e_odds h_w h_h h_x hI).mono fun r hh => cpost_q (A := OdA g P w h x) hI hh
theorem M_odds {sn : Nat} {sx : Nat → Int} {b : Nat} {g c : am_G} {P : Nat} {w h x : Int} (h_w : R32 w) (h_h : R32 h) (h_x : R32 x) (hI : CInv P c) (hM : MRel c g) : Ev sn sx 6 203 [(2, 127), (0, w), (0, h), (0, x)] (SH b) g (MPost b g (fun c1 v1 => OdA c P w h x v1 ∧ CoE c c1)) := (m_odds h_w h_h h_x hI hM).mono fun r hh => mpost_n (A := OdA c P w h x) hM (fun x y h h' => by
  rcases h with h | h <;> rcases h' with h' | h'
  · exact h.2.trans h'.2.symm
  · exact absurd h.1 h'.1
  · exact absurd h'.1 h.1
  · exact h.2.trans h'.2.symm) hh
