/-! PUBLIC METHODS: above, among, need -/
def AbA (P : Nat) (x y z v : Int) : Prop := (AbD P x y z ∧ IsShare (tl z ((P : Int) - z) x.toNat y.toNat) 1000000 ((P : Int) ^ x.toNat) v) ∨ (¬ AbD P x y z ∧ v = -1)
theorem AbA.uniq {P : Nat} {x y z v v' : Int} (h5 : 5 ≤ P) (h : AbA P x y z v) (h' : AbA P x y z v') : v = v' := by
  have hw : (0 : Int) < (P : Int) ^ x.toNat := Int.pow_pos (by omega)
  rcases h with h | h <;> rcases h' with h' | h'
  · exact h.2.uniq hw h'.2
  · exact absurd h.1 h'.1
  · exact absurd h'.1 h.1
  · exact h.2.trans h'.2.symm
def AmA (P : Nat) (x y z v : Int) : Prop := (AmD P x y z ∧ IsShare (tl z ((P : Int) - z) x.toNat y.toNat * cb P z.toNat) 1000000 ((P : Int) ^ x.toNat) v) ∨ (¬ AmD P x y z ∧ v = -1)
theorem AmA.uniq {P : Nat} {x y z v v' : Int} (h5 : 5 ≤ P) (h : AmA P x y z v) (h' : AmA P x y z v') : v = v' := by
  have hw : (0 : Int) < (P : Int) ^ x.toNat := Int.pow_pos (by omega)
  rcases h with h | h <;> rcases h' with h' | h'
  · exact h.2.uniq hw h'.2
  · exact absurd h.1 h'.1
  · exact absurd h'.1 h.1
  · exact h.2.trans h'.2.symm
theorem C_above {sn : Nat} {sx : Nat → Int} {b : Nat} {g : am_G} {P : Nat} {x y z : Int} (hx : R32 x) (hy : R32 y) (hz : R32 z) (hI : CInv P g) : Ev sn sx 6 115 [(2, 0), (0, x), (0, y), (0, z)] (SH b) g (CPost P g (fun c1 v1 => AbA P x y z v1 ∧ CoE g c1)) := (e_above hx hy hz hI.ck.2.1 hI.ck.2.2.2.2.2.2 hI.ck.1 hI.cls).mono fun r h => by
  obtain ⟨g', v, h1, h2, h3, h4⟩ := h
  exact cpost_k (A := AbA P x y z) hI ⟨g', v, h1, h2, h3, h4.k⟩
theorem M_above {sn : Nat} {sx : Nat → Int} {b : Nat} {g c : am_G} {P : Nat} {x y z : Int} (hx : R32 x) (hy : R32 y) (hz : R32 z) (hI : CInv P c) (hM : MRel c g) : Ev sn sx 5 217 [(2, 127), (0, x), (0, y), (0, z)] (SH b) g (MPost b g (fun c1 v1 => AbA P x y z v1 ∧ CoE c c1)) := (m_above hx hy hz (hM.n.trans hI.ck.2.1) hI.ck.1).mono fun r h => by
  obtain ⟨g', v, h1, h2, h3⟩ := h
  refine mpost_n (A := AbA P x y z) hM (fun _ _ => AbA.uniq hI.ck.1.1) ⟨g', v, h1, ?_, FrN.rfl.r h3⟩
  rcases h2 with ⟨hD, hS⟩ | h2
  · exact Or.inl ⟨hD, hS.1, hS.2.1, hS.2.2.1, hS.2.2.2⟩
  · exact Or.inr h2
theorem C_among {sn : Nat} {sx : Nat → Int} {b : Nat} {g : am_G} {P : Nat} {x y z : Int} (hx : R32 x) (hy : R32 y) (hz : R32 z) (hI : CInv P g) : Ev sn sx 6 116 [(2, 0), (0, x), (0, y), (0, z)] (SH b) g (CPost P g (fun c1 v1 => AmA P x y z v1 ∧ CoE g c1)) := (e_among hx hy hz hI.ck.2.1 hI.ck.2.2.2.2.2.2 hI.ck.1 hI.cls).mono fun r h => by
  obtain ⟨g', v, h1, h2, h3, h4⟩ := h
  exact cpost_k (A := AmA P x y z) hI ⟨g', v, h1, h2, h3, h4.k⟩
theorem M_among {sn : Nat} {sx : Nat → Int} {b : Nat} {g c : am_G} {P : Nat} {x y z : Int} (hx : R32 x) (hy : R32 y) (hz : R32 z) (hI : CInv P c) (hM : MRel c g) : Ev sn sx 5 219 [(2, 127), (0, x), (0, y), (0, z)] (SH b) g (MPost b g (fun c1 v1 => AmA P x y z v1 ∧ CoE c c1)) := (m_among hx hy hz (hM.n.trans hI.ck.2.1) hI.ck.1).mono fun r h => by
  obtain ⟨g', v, h1, h2, h3⟩ := h
  refine mpost_n (A := AmA P x y z) hM (fun _ _ => AmA.uniq hI.ck.1.1) ⟨g', v, h1, ?_, FrN.rfl.r h3⟩
  rcases h2 with ⟨hD, hS⟩ | h2
  · exact Or.inl ⟨hD, hS.1, hS.2.1, hS.2.2.1, hS.2.2.2⟩
  · exact Or.inr h2
def NdD (q d s w : Int) : Prop := 1 ≤ q ∧ q ≤ 999 ∧ 2 ≤ d ∧ d ≤ 1000000 ∧ 1 ≤ s ∧ s ≤ 999 ∧ 0 ≤ w ∧ w ≤ 1
def NdA (P : Nat) (q d s w v : Int) : Prop := (NdD q d s w ∧ ∃ n k, IsNeed P d q s n k ∧ v = if w = 0 then n else k) ∨ (¬ NdD q d s w ∧ v = -1)
theorem NdA.uniq {P : Nat} {q d s w v v' : Int} (h : NdA P q d s w v) (h' : NdA P q d s w v') : v = v' := by
  rcases h with ⟨h1, n, k, h2, rfl⟩ | h <;> rcases h' with ⟨h1', n', k', h2', rfl⟩ | h'
  · obtain ⟨rfl, rfl⟩ := h2.uniq h2'; rfl
  · exact absurd h1 h'.1
  · exact absurd h1' h.1
  · exact h.2.trans h'.2.symm
set_option maxHeartbeats 400000 in
set_option maxRecDepth 20000 in
theorem e_need {sn : Nat} {sx : Nat → Int} {b : Nat} {g : am_G} {P : Nat} {q d s w : Int} (h_q : R32 q) (h_d : R32 d) (h_s : R32 s) (h_w : R32 w) (hI : CInv P g) : Ev sn sx 6 118 [(2, 0), (0, q), (0, d), (0, s), (0, w)] (SH b) g (fun y => ∃ g' v, y = (some (0, v), SH b, g') ∧ NdA P q d s w v ∧ CLs g' ∧ FrK g g') := by
  have h5 := hI.ck.1
  have hP2 := hI.ck.2.2.2.2.2.2
  refine ev_of (K := 5) T118 (by decide) rfl rfl (Nat.le_of_ble_eq_true rfl) ?_
  refine wp_eq (L' := [(2, 0), (0, q), (0, d), (0, s), (0, w)]) (st' := []) (g' := g) ?_
  refine wp_n 3 (pc' := 5) (L' := [(2, 0), (0, q), (0, d), (0, s), (0, w)]) (st' := [(0, 999), (0, 1), (0, q)]) (g' := g) rfl ?_
  refine wp_cs (as := [(0, q), (0, 1), (0, 999)]) (rest := []) rfl (by decide) rfl (Nat.le_of_ble_eq_true rfl) (e_within (by omega) (by omega) (by omega)) (by decide) (fun r2 h3 => ?_)
  rcases h3 with ⟨rfl, p1⟩ | ⟨rfl, p1⟩
  · refine wp_eq (L' := [(2, 0), (0, q), (0, d), (0, s), (0, w)]) (st' := [(0, 1)]) (g' := g) ?_
    refine wp_n 4 (pc' := 16) (L' := [(2, 0), (0, q), (0, d), (0, s), (0, w)]) (st' := [(0, 1000000), (0, 2), (0, d)]) (g' := g) rfl ?_
    refine wp_cs (as := [(0, d), (0, 2), (0, 1000000)]) (rest := []) rfl (by decide) rfl (Nat.le_of_ble_eq_true rfl) (e_within (by omega) (by omega) (by omega)) (by decide) (fun r5 h6 => ?_)
    rcases h6 with ⟨rfl, p4⟩ | ⟨rfl, p4⟩
    · refine wp_eq (L' := [(2, 0), (0, q), (0, d), (0, s), (0, w)]) (st' := [(0, 1)]) (g' := g) ?_
      refine wp_n 4 (pc' := 27) (L' := [(2, 0), (0, q), (0, d), (0, s), (0, w)]) (st' := [(0, 999), (0, 1), (0, s)]) (g' := g) rfl ?_
      refine wp_cs (as := [(0, s), (0, 1), (0, 999)]) (rest := []) rfl (by decide) rfl (Nat.le_of_ble_eq_true rfl) (e_within (by omega) (by omega) (by omega)) (by decide) (fun r8 h9 => ?_)
      rcases h9 with ⟨rfl, p7⟩ | ⟨rfl, p7⟩
      · refine wp_eq (L' := [(2, 0), (0, q), (0, d), (0, s), (0, w)]) (st' := [(0, 1)]) (g' := g) ?_
        refine wp_n 4 (pc' := 37) (L' := [(2, 0), (0, q), (0, d), (0, s), (0, w)]) (st' := [(0, 1), (0, 0), (0, w)]) (g' := g) rfl ?_
        refine wp_cs (as := [(0, w), (0, 0), (0, 1)]) (rest := []) rfl (by decide) rfl (Nat.le_of_ble_eq_true rfl) (e_within (by omega) (by omega) (by omega)) (by decide) (fun r11 h12 => ?_)
        rcases h12 with ⟨rfl, p10⟩ | ⟨rfl, p10⟩
        · refine wp_eq (L' := [(2, 0), (0, q), (0, d), (0, s), (0, w)]) (st' := [(0, 1)]) (g' := g) ?_
          refine wp_n 6 (pc' := 52) (L' := [(2, 0), (0, q), (0, d), (0, s), (0, w)]) (st' := [(0, s), (0, d), (0, q), (2, 103)]) (g' := g) rfl ?_
          refine wp_cv (as := [(2, 103), (0, q), (0, d), (0, s)]) (rest := []) rfl rfl rfl (Nat.le_of_ble_eq_true rfl) rfl (e_seek (P := P) hP2 h5 (by omega) (by omega) (by omega) hI.cls) (by decide) (fun r13 h14 => ?_)
          obtain ⟨g52, rfl, hN52, hC52, hF52⟩ := h14
          refine wp_eq (L' := [(2, 0), (0, q), (0, d), (0, s), (0, w)]) (st' := []) (g' := g52) ?_
          refine wp_n 1 (pc' := 57) (L' := [(2, 0), (0, q), (0, d), (0, s), (0, w)]) (st' := [(0, w)]) (g' := g52) rfl ?_
          refine wp_if_ne rfl (fun c15 => ?_) (fun c15 => ?_)
          · refine wp_n 3 (pc' := 77) (L' := [(2, 0), (0, q), (0, d), (0, s), (0, w)]) (st' := [(0, (g52 103 10))]) (g' := g52) rfl ?_
            exact wp_ret rfl rfl rfl ⟨_, _, rfl, Or.inl ⟨by unfold NdD; omega, _, _, hN52, by first | (rw [if_pos (by omega)]; done) | (rw [if_neg (by omega)]; done)⟩, hC52, hF52⟩
          · refine wp_n 4 (pc' := 77) (L' := [(2, 0), (0, q), (0, d), (0, s), (0, w)]) (st' := [(0, (g52 103 9))]) (g' := g52) rfl ?_
            exact wp_ret rfl rfl rfl ⟨_, _, rfl, Or.inl ⟨by unfold NdD; omega, _, _, hN52, by first | (rw [if_pos (by omega)]; done) | (rw [if_neg (by omega)]; done)⟩, hC52, hF52⟩
        · refine wp_eq (L' := [(2, 0), (0, q), (0, d), (0, s), (0, w)]) (st' := [(0, 0)]) (g' := g) ?_
          refine wp_n 2 (pc' := 44) (L' := [(2, 0), (0, q), (0, d), (0, s), (0, w)]) (st' := [(0, (-1))]) (g' := g) rfl ?_
          exact wp_ret rfl rfl rfl ⟨_, _, rfl, Or.inr ⟨by unfold NdD; omega, rfl⟩, hI.cls, fun _ _ _ => rfl⟩
      · refine wp_eq (L' := [(2, 0), (0, q), (0, d), (0, s), (0, w)]) (st' := [(0, 0)]) (g' := g) ?_
        refine wp_n 2 (pc' := 44) (L' := [(2, 0), (0, q), (0, d), (0, s), (0, w)]) (st' := [(0, (-1))]) (g' := g) rfl ?_
        exact wp_ret rfl rfl rfl ⟨_, _, rfl, Or.inr ⟨by unfold NdD; omega, rfl⟩, hI.cls, fun _ _ _ => rfl⟩
    · refine wp_eq (L' := [(2, 0), (0, q), (0, d), (0, s), (0, w)]) (st' := [(0, 0)]) (g' := g) ?_
      refine wp_n 2 (pc' := 44) (L' := [(2, 0), (0, q), (0, d), (0, s), (0, w)]) (st' := [(0, (-1))]) (g' := g) rfl ?_
      exact wp_ret rfl rfl rfl ⟨_, _, rfl, Or.inr ⟨by unfold NdD; omega, rfl⟩, hI.cls, fun _ _ _ => rfl⟩
  · refine wp_eq (L' := [(2, 0), (0, q), (0, d), (0, s), (0, w)]) (st' := [(0, 0)]) (g' := g) ?_
    refine wp_n 2 (pc' := 44) (L' := [(2, 0), (0, q), (0, d), (0, s), (0, w)]) (st' := [(0, (-1))]) (g' := g) rfl ?_
    exact wp_ret rfl rfl rfl ⟨_, _, rfl, Or.inr ⟨by unfold NdD; omega, rfl⟩, hI.cls, fun _ _ _ => rfl⟩
theorem C_need {sn : Nat} {sx : Nat → Int} {b : Nat} {g : am_G} {P : Nat} {q d s w : Int} (h_q : R32 q) (h_d : R32 d) (h_s : R32 s) (h_w : R32 w) (hI : CInv P g) : Ev sn sx 6 118 [(2, 0), (0, q), (0, d), (0, s), (0, w)] (SH b) g (CPost P g (fun c1 v1 => NdA P q d s w v1 ∧ CoE g c1)) := (e_need h_q h_d h_s h_w hI).mono fun r h => cpost_k (A := NdA P q d s w) hI h
theorem BT.frr {f lo hi : Nat} {p q : Int} {t : Nat} {g h : am_G} (H : BT g f p q t) (hF : FrR lo hi g h) (hr : f + t < lo ∨ hi ≤ f) : BT h f p q t := fun k hk => (H k hk).frr hF (by omega)
theorem BT.one {f : Nat} {p q : Int} {g : am_G} (H : MR g f 1) : BT g f p q 0 := fun k hk => by
  obtain rfl : k = 0 := by omega
  rw [bt_00 _ _ 0 (Nat.le_refl _)]
  exact H
theorem pw_b {x : Int} {n : Nat} (h0 : 0 ≤ x) (h : x ≤ 2001) (hn : n ≤ 60) : 0 ≤ x ^ n ∧ x ^ n < 10000 ^ 99 := ⟨Int.pow_nonneg h0, Int.lt_of_le_of_lt (pow_2001 h0 h hn) (by omega)⟩
theorem tl_b {p q : Int} {t k : Nat} (hp : 0 ≤ p) (hq : 0 ≤ q) (h : p + q ≤ 2001) (ht : t ≤ 60) (hk : k ≤ t + 1) : 0 ≤ tl p q t k ∧ tl p q t k ≤ 2001 ^ 60 := ⟨(tl_in hp hq hk).1, Int.le_trans (tl_in hp hq hk).2 (pow_2001 (by omega) h ht)⟩
set_option maxHeartbeats 400000 in
set_option maxRecDepth 20000 in
theorem m_need {sn : Nat} {sx : Nat → Int} {b : Nat} {g : am_G} {P : Nat} {q d s w : Int} (h_q : R32 q) (h_d : R32 d) (h_s : R32 s) (h_w : R32 w) (hP : g 127 0 = (P : Int)) (h5 : 5 ≤ P ∧ P ≤ 37) : Ev sn sx 4 224 [(2, 127), (0, q), (0, d), (0, s), (0, w)] (SH b) g (fun y => ∃ g' v, y = (some (0, v), SH b, g') ∧ NdA P q d s w v ∧ FrN g g') := by
  refine ev_of (K := 3) T224 (by decide) rfl rfl (Nat.le_of_ble_eq_true rfl) ?_
  refine wp_eq (L' := [(2, 127), (0, q), (0, d), (0, s), (0, w), (9, 0), (9, 0), (9, 0)]) (st' := []) (g' := g) ?_
  refine wp_n 1 (pc' := 1) (L' := [(2, 127), (0, q), (0, d), (0, s), (0, w), (9, 0), (9, 0), (9, 0)]) (st' := [(0, q)]) (g' := g) rfl ?_
  refine wp_cs (as := [(0, q)]) (rest := []) rfl (by decide) rfl (Nat.le_of_ble_eq_true rfl) (e_isThousandth (by omega)) (by decide) (fun r2 h3 => ?_)
  rcases h3 with ⟨rfl, p1⟩ | ⟨rfl, p1⟩
  · refine wp_eq (L' := [(2, 127), (0, q), (0, d), (0, s), (0, w), (9, 0), (9, 0), (9, 0)]) (st' := [(0, 1)]) (g' := g) ?_
    refine wp_n 2 (pc' := 8) (L' := [(2, 127), (0, q), (0, d), (0, s), (0, w), (9, 0), (9, 0), (9, 0)]) (st' := [(0, d)]) (g' := g) rfl ?_
    refine wp_cs (as := [(0, d)]) (rest := []) rfl (by decide) rfl (Nat.le_of_ble_eq_true rfl) (e_isTold (by omega)) (by decide) (fun r5 h6 => ?_)
    rcases h6 with ⟨rfl, p4⟩ | ⟨rfl, p4⟩
    · refine wp_eq (L' := [(2, 127), (0, q), (0, d), (0, s), (0, w), (9, 0), (9, 0), (9, 0)]) (st' := [(0, 1)]) (g' := g) ?_
      refine wp_n 2 (pc' := 15) (L' := [(2, 127), (0, q), (0, d), (0, s), (0, w), (9, 0), (9, 0), (9, 0)]) (st' := [(0, s)]) (g' := g) rfl ?_
      refine wp_cs (as := [(0, s)]) (rest := []) rfl (by decide) rfl (Nat.le_of_ble_eq_true rfl) (e_isThousandth (by omega)) (by decide) (fun r8 h9 => ?_)
      rcases h9 with ⟨rfl, p7⟩ | ⟨rfl, p7⟩
      · refine wp_eq (L' := [(2, 127), (0, q), (0, d), (0, s), (0, w), (9, 0), (9, 0), (9, 0)]) (st' := [(0, 1)]) (g' := g) ?_
        refine wp_n 4 (pc' := 25) (L' := [(2, 127), (0, q), (0, d), (0, s), (0, w), (9, 0), (9, 0), (9, 0)]) (st' := [(0, 1), (0, 0), (0, w)]) (g' := g) rfl ?_
        refine wp_cs (as := [(0, w), (0, 0), (0, 1)]) (rest := []) rfl (by decide) rfl (Nat.le_of_ble_eq_true rfl) (e_isIn (by omega) (by omega) (by omega)) (by decide) (fun r11 h12 => ?_)
        rcases h12 with ⟨rfl, p10⟩ | ⟨rfl, p10⟩
        · refine wp_eq (L' := [(2, 127), (0, q), (0, d), (0, s), (0, w), (9, 0), (9, 0), (9, 0)]) (st' := [(0, 1)]) (g' := g) ?_
          refine wp_n 4 (pc' := 36) (L' := [(2, 127), (0, q), (0, d), (0, s), (0, w), (9, 0), (9, 0), (9, 0)]) (st' := [(0, 1), (0, 0), (2, 127)]) (g' := g) rfl ?_
          refine wp_cv (as := [(2, 127), (0, 0), (0, 1)]) (rest := []) rfl rfl rfl (Nat.le_of_ble_eq_true rfl) rfl (m_put (r := 0) (by omega) (by omega)) (by decide) (fun r13 h14 => ?_)
          obtain ⟨g36, rfl, hR36, hF36⟩ := h14
          refine wp_eq (L' := [(2, 127), (0, q), (0, d), (0, s), (0, w), (9, 0), (9, 0), (9, 0)]) (st' := []) (g' := g36) ?_
          refine wp_n 3 (pc' := 43) (L' := [(2, 127), (0, q), (0, d), (0, s), (0, w), (9, 0), (9, 0), (9, 0)]) (st' := [(0, 1), (0, 62), (2, 127)]) (g' := g36) rfl ?_
          refine wp_cv (as := [(2, 127), (0, 62), (0, 1)]) (rest := []) rfl rfl rfl (Nat.le_of_ble_eq_true rfl) rfl (m_put (r := 62) (by omega) (by omega)) (by decide) (fun r15 h16 => ?_)
          obtain ⟨g43, rfl, hR43, hF43⟩ := h16
          refine wp_eq (L' := [(2, 127), (0, q), (0, d), (0, s), (0, w), (9, 0), (9, 0), (9, 0)]) (st' := []) (g' := g43) ?_
          refine wp_n 3 (pc' := 50) (L' := [(2, 127), (0, q), (0, d), (0, s), (0, w), (9, 0), (9, 0), (9, 0)]) (st' := [(0, 1), (0, 127), (2, 127)]) (g' := g43) rfl ?_
          refine wp_cv (as := [(2, 127), (0, 127), (0, 1)]) (rest := []) rfl rfl rfl (Nat.le_of_ble_eq_true rfl) rfl (m_put (r := 127) (by omega) (by omega)) (by decide) (fun r17 h18 => ?_)
          obtain ⟨g50, rfl, hR50, hF50⟩ := h18
          refine wp_eq (L' := [(2, 127), (0, q), (0, d), (0, s), (0, w), (9, 0), (9, 0), (9, 0)]) (st' := []) (g' := g50) ?_
          refine wp_n 3 (pc' := 58) (L' := [(2, 127), (0, q), (0, d), (0, s), (0, w), (9, 0), (9, 0), (9, 0)]) (st' := [(0, 1), (0, 128), (2, 127)]) (g' := g50) rfl ?_
          refine wp_cv (as := [(2, 127), (0, 128), (0, 1)]) (rest := []) rfl rfl rfl (Nat.le_of_ble_eq_true rfl) rfl (m_put (r := 128) (by omega) (by omega)) (by decide) (fun r19 h20 => ?_)
          obtain ⟨g58, rfl, hR58, hF58⟩ := h20
          refine wp_eq (L' := [(2, 127), (0, q), (0, d), (0, s), (0, w), (9, 0), (9, 0), (9, 0)]) (st' := []) (g' := g58) ?_
          refine wp_n 2 (pc' := 64) (L' := [(2, 127), (0, q), (0, d), (0, s), (0, w), (0, 1), (9, 0), (9, 0)]) (st' := []) (g' := g58) rfl ?_
          have L64 : ∀ (lf : Nat) (n : Nat) (h : am_G) (w6 w7 : am_V), 60 - n < lf → (n ≤ 60) → (∀ m j, 1 ≤ m → m ≤ n → ¬ Good P d q s m j) → (BT h 0 1 ((P : Int) - 1) n) → (BT h 62 q (1000 - q) n) → (MR h 127 ((P : Int) ^ n)) → (MR h 128 ((1000 : Int) ^ n)) → (FrR 0 129 g h) → Wp sn sx 3 T224 64 [(2, 127), (0, q), (0, d), (0, s), (0, w), (0, ((n : Int) + 1)), w6, w7] [] (SH b) h (fun y => ∃ g' v, y = (some (0, v), SH b, g') ∧ NdA P q d s w v ∧ FrN g g') := by
            intro lf
            induction lf with
            | zero => intro n h w6 w7 hlf; exact absurd hlf (Nat.not_lt_zero _)
            | succ lf ih64 =>
              intro n h w6 w7 hlf hn hb hB0 hB1 hU hV hF
              refine wp_n 2 (pc' := 68) (L' := [(2, 127), (0, q), (0, d), (0, s), (0, w), (0, ((n : Int) + 1)), w6, w7]) (st' := [(0, 60), (0, ((n : Int) + 1))]) (g' := h) rfl ?_
              refine wp_ic_gt rfl (fun c21 => ?_) (fun c21 => ?_)
              · have hn6 : n = 60 := by omega
                refine wp_n 1 (pc' := 260) (L' := [(2, 127), (0, q), (0, d), (0, s), (0, w), (0, ((n : Int) + 1)), w6, w7]) (st' := [(0, (-1))]) (g' := h) rfl ?_
                exact wp_ret rfl rfl rfl ⟨_, _, rfl, Or.inl ⟨by unfold NdD; omega, -1, -1, Or.inr ⟨rfl, rfl, fun m j h1 h2 => hb m j h1 (by omega)⟩, by split <;> rfl⟩, FrN.rfl.r hF⟩
              · have hn1 : n + 1 ≤ 60 := by omega
                have hpb := pw_b (x := (P : Int)) (n := n) (by omega) (by omega) hn
                have hpb1 := pw_b (x := (P : Int)) (n := n + 1) (by omega) (by omega) hn1
                have htb := pw_b (x := 1000) (n := n) (by omega) (by omega) hn
                have htb1 := pw_b (x := 1000) (n := n + 1) (by omega) (by omega) hn1
                refine wp_n 5 (pc' := 77) (L' := [(2, 127), (0, q), (0, d), (0, s), (0, w), (0, ((n : Int) + 1)), w6, w7]) (st' := [(0, (((n : Int) + 1) - 1)), (0, 0), (2, 127)]) (g' := h) rfl ?_
                refine wp_eq (L' := [(2, 127), (0, q), (0, d), (0, s), (0, w), (0, ((n : Int) + 1)), w6, w7]) (st' := [(0, ((n : Nat) : Int)), (0, 0), (2, 127)]) (g' := h) ?_ (by rfl) (by rw [show ((n : Int) + 1 - 1) = (n : Int) by omega]) (by rfl)
                refine wp_n 3 (pc' := 82) (L' := [(2, 127), (0, q), (0, d), (0, s), (0, w), (0, ((n : Int) + 1)), w6, w7]) (st' := [(0, (h 127 0)), (0, 1), (0, ((n : Nat) : Int)), (0, 0), (2, 127)]) (g' := h) rfl ?_
                refine wp_eq (L' := [(2, 127), (0, q), (0, d), (0, s), (0, w), (0, ((n : Int) + 1)), w6, w7]) (st' := [(0, ((P : Nat) : Int)), (0, 1), (0, ((n : Nat) : Int)), (0, 0), (2, 127)]) (g' := h) ?_ (by rfl) (by rw [hF 127 0 (fun e => absurd e (by decide)), hP]) (by rfl)
                refine wp_cv (as := [(2, 127), (0, 0), (0, ((n : Nat) : Int)), (0, 1), (0, ((P : Nat) : Int))]) (rest := []) rfl rfl rfl (Nat.le_of_ble_eq_true rfl) rfl (m_tryMore (f := 0) (t := n) (by omega) (by omega) (by omega) (by omega) hB0) (by decide) (fun r22 h23 => ?_)
                obtain ⟨g82, rfl, hR82, hF82⟩ := h23
                refine wp_eq (L' := [(2, 127), (0, q), (0, d), (0, s), (0, w), (0, ((n : Int) + 1)), w6, w7]) (st' := []) (g' := g82) ?_
                refine wp_n 5 (pc' := 92) (L' := [(2, 127), (0, q), (0, d), (0, s), (0, w), (0, ((n : Int) + 1)), w6, w7]) (st' := [(0, (((n : Int) + 1) - 1)), (0, 62), (2, 127)]) (g' := g82) rfl ?_
                refine wp_eq (L' := [(2, 127), (0, q), (0, d), (0, s), (0, w), (0, ((n : Int) + 1)), w6, w7]) (st' := [(0, ((n : Nat) : Int)), (0, 62), (2, 127)]) (g' := g82) ?_ (by rfl) (by rw [show ((n : Int) + 1 - 1) = (n : Int) by omega]) (by rfl)
                refine wp_n 2 (pc' := 96) (L' := [(2, 127), (0, q), (0, d), (0, s), (0, w), (0, ((n : Int) + 1)), w6, w7]) (st' := [(0, 1000), (0, q), (0, ((n : Nat) : Int)), (0, 62), (2, 127)]) (g' := g82) rfl ?_
                refine wp_cv (as := [(2, 127), (0, 62), (0, ((n : Nat) : Int)), (0, q), (0, 1000)]) (rest := []) rfl rfl rfl (Nat.le_of_ble_eq_true rfl) rfl (m_tryMore (f := 62) (t := n) (by omega) (by omega) (by omega) (by omega) (hB1.frr hF82 (by omega))) (by decide) (fun r24 h25 => ?_)
                obtain ⟨g96, rfl, hR96, hF96⟩ := h25
                refine wp_eq (L' := [(2, 127), (0, q), (0, d), (0, s), (0, w), (0, ((n : Int) + 1)), w6, w7]) (st' := []) (g' := g96) ?_
                refine wp_n 4 (pc' := 106) (L' := [(2, 127), (0, q), (0, d), (0, s), (0, w), (0, ((n : Int) + 1)), w6, w7]) (st' := [(0, (g96 127 0)), (0, 127), (2, 127)]) (g' := g96) rfl ?_
                refine wp_eq (L' := [(2, 127), (0, q), (0, d), (0, s), (0, w), (0, ((n : Int) + 1)), w6, w7]) (st' := [(0, ((P : Nat) : Int)), (0, 127), (2, 127)]) (g' := g96) ?_ (by rfl) (by rw [hF96 127 0 (fun e => absurd e (by decide)), hF82 127 0 (fun e => absurd e (by decide)), hF 127 0 (fun e => absurd e (by decide)), hP]) (by rfl)
                refine wp_cv (as := [(2, 127), (0, 127), (0, ((P : Nat) : Int))]) (rest := []) rfl rfl rfl (Nat.le_of_ble_eq_true rfl) rfl (m_times (r := 127) (by omega) ((hU.frr hF82 (by omega)).frr hF96 (by omega)) (by omega) (by rw [← Int.pow_succ]; exact Int.lt_trans hpb1.2 (by omega))) (by decide) (fun r26 h27 => ?_)
                obtain ⟨g106, rfl, hR106, hF106⟩ := h27
                refine wp_eq (L' := [(2, 127), (0, q), (0, d), (0, s), (0, w), (0, ((n : Int) + 1)), w6, w7]) (st' := []) (g' := g106) ?_
                refine wp_n 3 (pc' := 116) (L' := [(2, 127), (0, q), (0, d), (0, s), (0, w), (0, ((n : Int) + 1)), w6, w7]) (st' := [(0, 1000), (0, 128), (2, 127)]) (g' := g106) rfl ?_
                refine wp_cv (as := [(2, 127), (0, 128), (0, 1000)]) (rest := []) rfl rfl rfl (Nat.le_of_ble_eq_true rfl) rfl (m_times (r := 128) (by omega) (((hV.frr hF82 (by omega)).frr hF96 (by omega)).fr hF106 (by omega)) (by omega) (by omega)) (by decide) (fun r28 h29 => ?_)
                obtain ⟨g116, rfl, hR116, hF116⟩ := h29
                refine wp_eq (L' := [(2, 127), (0, q), (0, d), (0, s), (0, w), (0, ((n : Int) + 1)), w6, w7]) (st' := []) (g' := g116) ?_
                refine wp_n 4 (pc' := 125) (L' := [(2, 127), (0, q), (0, d), (0, s), (0, w), (0, ((n : Int) + 1)), (0, 0), (0, 0)]) (st' := []) (g' := g116) rfl ?_
                have L125 : ∀ (lf : Nat) (k : Nat) (r : Int) (f : am_G), 2 * (n + 2 - k) + (1 - r.toNat) < lf → (k ≤ n + 2) → (r = 0 ∨ (r = 1 ∧ k ≤ n + 1 ∧ Rare P d (n + 1) k)) → (∀ j, j < k → ¬ Rare P d (n + 1) j) → (BT f 0 1 ((P : Int) - 1) (n + 1)) → (BT f 62 q (1000 - q) (n + 1)) → (MR f 127 ((P : Int) ^ (n + 1))) → (MR f 128 ((1000 : Int) ^ (n + 1))) → (FrR 0 129 g f) → Wp sn sx 3 T224 125 [(2, 127), (0, q), (0, d), (0, s), (0, w), (0, ((n : Int) + 1)), (0, ((k : Nat) : Int)), (0, r)] [] (SH b) f (fun y => ∃ g' v, y = (some (0, v), SH b, g') ∧ NdA P q d s w v ∧ FrN g g') := by
                  intro lf
                  induction lf with
                  | zero => intro k r f hlf; exact absurd hlf (Nat.not_lt_zero _)
                  | succ lf ih125 =>
                    intro k r f hlf hk hr hr2 hC0 hC1 hCU hCV hCF
                    refine wp_n 2 (pc' := 129) (L' := [(2, 127), (0, q), (0, d), (0, s), (0, w), (0, ((n : Int) + 1)), (0, ((k : Nat) : Int)), (0, r)]) (st' := [(0, ((n : Int) + 1)), (0, ((k : Nat) : Int))]) (g' := f) rfl ?_
                    refine wp_ic_gt rfl (fun c30 => ?_) (fun c30 => ?_)
                    · have hr0 : r = 0 := by rcases hr with e | e; exact e; exact absurd e.2.1 (by omega)
                      have hng : ∀ j, ¬ Good P d q s (n + 1) j := fun j hG => hr2 j (by have := hG.1; omega) hG.2.1
                      refine wp_eq (L' := [(2, 127), (0, q), (0, d), (0, s), (0, w), (0, ((n : Int) + 1)), (0, ((k : Nat) : Int)), (0, 0)]) (st' := []) (g' := f) ?_ (by rw [hr0]) (by rfl) (by rfl)
                      refine wp_n 5 (pc' := 64) (L' := [(2, 127), (0, q), (0, d), (0, s), (0, w), (0, (((n : Int) + 1) + 1)), (0, ((k : Nat) : Int)), (0, 0)]) (st' := []) (g' := f) rfl ?_
                      refine wp_eq (ih64 (n + 1) (f) ((0, ((k : Nat) : Int))) ((0, 0)) ?_ ?_ ?_ ?_ ?_ ?_ ?_ ?_) (by simp) (by rfl) (by rfl)
                      · omega
                      · omega
                      · intro m j h1 h2
                        by_cases e : m = n + 1
                        · subst e
                          first | exact hng j | exact hng2 j
                        · exact hb m j h1 (by omega)
                      · first | exact hC0 | exact ((((hC0.fr hF201 (by omega)).fr hF210 (by omega)).fr hF219 (by omega)).fr hF226 (by omega))
                      · first | exact hC1 | exact ((((hC1.fr hF201 (by omega)).fr hF210 (by omega)).fr hF219 (by omega)).fr hF226 (by omega))
                      · first | exact hCU | exact ((((hCU.fr hF201 (by omega)).fr hF210 (by omega)).fr hF219 (by omega)).fr hF226 (by omega))
                      · first | exact hCV | exact ((((hCV.fr hF201 (by omega)).fr hF210 (by omega)).fr hF219 (by omega)).fr hF226 (by omega))
                      · first | exact hCF | exact ((((hCF.m hF201 (by omega) (by omega)).m hF210 (by omega) (by omega)).m hF219 (by omega) (by omega)).m hF226 (by omega) (by omega))
                    · have htl := tl_b (p := 1) (q := (P : Int) - 1) (t := n + 1) (k := k) (by omega) (by omega) (by omega) hn1 (by omega)
                      have htd := Int.mul_le_mul_of_nonneg_left (show d ≤ 1000000 by omega) htl.1
                      have htl2 := tl_b (p := q) (q := 1000 - q) (t := n + 1) (k := k) (by omega) (by omega) (by omega) hn1 (by omega)
                      have hsd := Int.mul_le_mul_of_nonneg_left (show s ≤ 1000 by omega) htb1.1
                      refine wp_n 1 (pc' := 134) (L' := [(2, 127), (0, q), (0, d), (0, s), (0, w), (0, ((n : Int) + 1)), (0, ((k : Nat) : Int)), (0, r)]) (st' := [(0, r)]) (g' := f) rfl ?_
                      refine wp_if_ne rfl (fun c31 => ?_) (fun c31 => ?_)
                      · have hrr : r = 1 ∧ k ≤ n + 1 ∧ Rare P d (n + 1) k := by rcases hr with e | e; exact absurd e (by omega); exact e
                        refine wp_eq (L' := [(2, 127), (0, q), (0, d), (0, s), (0, w), (0, ((n : Int) + 1)), (0, ((k : Nat) : Int)), (0, 1)]) (st' := []) (g' := f) ?_ (by rw [hrr.1]) (by rfl) (by rfl)
                        refine wp_n 7 (pc' := 201) (L' := [(2, 127), (0, q), (0, d), (0, s), (0, w), (0, ((n : Int) + 1)), (0, ((k : Nat) : Int)), (0, 1)]) (st' := [(0, ((n : Int) + 1)), (0, ((k : Nat) : Int)), (0, 62), (0, 124), (2, 127)]) (g' := f) rfl ?_
                        refine wp_eq (L' := [(2, 127), (0, q), (0, d), (0, s), (0, w), (0, ((n : Int) + 1)), (0, ((k : Nat) : Int)), (0, 1)]) (st' := [(0, (((n + 2 : Nat) : Int) - 1)), (0, ((k : Nat) : Int)), (0, 62), (0, 124), (2, 127)]) (g' := f) ?_ (by rfl) (by rw [show (((n + 2 : Nat) : Int) - 1) = (n : Int) + 1 by omega]) (by rfl)
                        refine wp_cv (as := [(2, 127), (0, 124), (0, 62), (0, ((k : Nat) : Int)), (0, (((n + 2 : Nat) : Int) - 1))]) (rest := []) rfl rfl rfl (Nat.le_of_ble_eq_true rfl) rfl (m_sum (r := 124) (f := 62) (u := k) (v := n + 2) (t := n + 1) (by omega) (by omega) (by omega) (by omega) (by omega) (by omega) (by omega) (by omega) (by omega) hC1) (by decide) (fun r32 h33 => ?_)
                        obtain ⟨g201, rfl, hR201, hF201⟩ := h33
                        refine wp_eq (L' := [(2, 127), (0, q), (0, d), (0, s), (0, w), (0, ((n : Int) + 1)), (0, ((k : Nat) : Int)), (0, 1)]) (st' := []) (g' := g201) ?_
                        refine wp_n 3 (pc' := 210) (L' := [(2, 127), (0, q), (0, d), (0, s), (0, w), (0, ((n : Int) + 1)), (0, ((k : Nat) : Int)), (0, 1)]) (st' := [(0, 1000), (0, 124), (2, 127)]) (g' := g201) rfl ?_
                        refine wp_cv (as := [(2, 127), (0, 124), (0, 1000)]) (rest := []) rfl rfl rfl (Nat.le_of_ble_eq_true rfl) rfl (m_times (r := 124) (by omega) (show MR g201 124 (tl q (1000 - q) (n + 1) k) from hR201) (by omega) (by omega)) (by decide) (fun r34 h35 => ?_)
                        obtain ⟨g210, rfl, hR210, hF210⟩ := h35
                        refine wp_eq (L' := [(2, 127), (0, q), (0, d), (0, s), (0, w), (0, ((n : Int) + 1)), (0, ((k : Nat) : Int)), (0, 1)]) (st' := []) (g' := g210) ?_
                        refine wp_n 3 (pc' := 219) (L' := [(2, 127), (0, q), (0, d), (0, s), (0, w), (0, ((n : Int) + 1)), (0, ((k : Nat) : Int)), (0, 1)]) (st' := [(0, 125), (0, 128), (2, 127)]) (g' := g210) rfl ?_
                        refine wp_cv (as := [(2, 127), (0, 128), (0, 125)]) (rest := []) rfl rfl rfl (Nat.le_of_ble_eq_true rfl) rfl (m_lay (s := 128) (r := 125) (by omega) (by omega) (by omega) ((hCV.fr hF201 (by omega)).fr hF210 (by omega))) (by decide) (fun r36 h37 => ?_)
                        obtain ⟨g219, rfl, hR219, hF219⟩ := h37
                        refine wp_eq (L' := [(2, 127), (0, q), (0, d), (0, s), (0, w), (0, ((n : Int) + 1)), (0, ((k : Nat) : Int)), (0, 1)]) (st' := []) (g' := g219) ?_
                        refine wp_n 3 (pc' := 226) (L' := [(2, 127), (0, q), (0, d), (0, s), (0, w), (0, ((n : Int) + 1)), (0, ((k : Nat) : Int)), (0, 1)]) (st' := [(0, s), (0, 125), (2, 127)]) (g' := g219) rfl ?_
                        refine wp_cv (as := [(2, 127), (0, 125), (0, s)]) (rest := []) rfl rfl rfl (Nat.le_of_ble_eq_true rfl) rfl (m_times (r := 125) (by omega) hR219 (by omega) (by omega)) (by decide) (fun r38 h39 => ?_)
                        obtain ⟨g226, rfl, hR226, hF226⟩ := h39
                        refine wp_eq (L' := [(2, 127), (0, q), (0, d), (0, s), (0, w), (0, ((n : Int) + 1)), (0, ((k : Nat) : Int)), (0, 1)]) (st' := []) (g' := g226) ?_
                        refine wp_n 3 (pc' := 234) (L' := [(2, 127), (0, q), (0, d), (0, s), (0, w), (0, ((n : Int) + 1)), (0, ((k : Nat) : Int)), (0, 1)]) (st' := [(0, 125), (0, 124), (2, 127)]) (g' := g226) rfl ?_
                        refine wp_cv (as := [(2, 127), (0, 124), (0, 125)]) (rest := []) rfl rfl rfl (Nat.le_of_ble_eq_true rfl) rfl (m_compare (r := 124) (s := 125) (by omega) (by omega) ((hR210.fr hF219 (by omega)).fr hF226 (by omega)) hR226) (by decide) (fun r40 h41 => ?_)
                        obtain ⟨c234, rfl, hc234⟩ := h41
                        refine wp_eq (L' := [(2, 127), (0, q), (0, d), (0, s), (0, w), (0, ((n : Int) + 1)), (0, ((k : Nat) : Int)), (0, 1)]) (st' := [(0, c234)]) (g' := g226) ?_
                        refine wp_if_lt rfl (fun c42 => ?_) (fun c42 => ?_)
                        · have hng2 : ∀ j, ¬ Good P d q s (n + 1) j := fun j hG => by
                            have e := Good.uniq2 hG hrr.2.2 hr2
                            subst e
                            have := hG.2.2.2
                            unfold Sure at this
                            omega
                          refine wp_n 2 (pc' := 64) (L' := [(2, 127), (0, q), (0, d), (0, s), (0, w), (0, (((n : Int) + 1) + 1)), (0, ((k : Nat) : Int)), (0, 1)]) (st' := []) (g' := g226) rfl ?_
                          refine wp_eq (ih64 (n + 1) (g226) ((0, ((k : Nat) : Int))) ((0, 1)) ?_ ?_ ?_ ?_ ?_ ?_ ?_ ?_) (by simp) (by rfl) (by rfl)
                          · omega
                          · omega
                          · intro m j h1 h2
                            by_cases e : m = n + 1
                            · subst e
                              first | exact hng j | exact hng2 j
                            · exact hb m j h1 (by omega)
                          · first | exact hC0 | exact ((((hC0.fr hF201 (by omega)).fr hF210 (by omega)).fr hF219 (by omega)).fr hF226 (by omega))
                          · first | exact hC1 | exact ((((hC1.fr hF201 (by omega)).fr hF210 (by omega)).fr hF219 (by omega)).fr hF226 (by omega))
                          · first | exact hCU | exact ((((hCU.fr hF201 (by omega)).fr hF210 (by omega)).fr hF219 (by omega)).fr hF226 (by omega))
                          · first | exact hCV | exact ((((hCV.fr hF201 (by omega)).fr hF210 (by omega)).fr hF219 (by omega)).fr hF226 (by omega))
                          · first | exact hCF | exact ((((hCF.m hF201 (by omega) (by omega)).m hF210 (by omega) (by omega)).m hF219 (by omega) (by omega)).m hF226 (by omega) (by omega))
                        · have hgd : Good P d q s (n + 1) k := ⟨hrr.2.1, hrr.2.2, hr2, by unfold Sure; omega⟩
                          refine wp_n 1 (pc' := 242) (L' := [(2, 127), (0, q), (0, d), (0, s), (0, w), (0, ((n : Int) + 1)), (0, ((k : Nat) : Int)), (0, 1)]) (st' := [(0, w)]) (g' := g226) rfl ?_
                          refine wp_if_ne rfl (fun c43 => ?_) (fun c43 => ?_)
                          · refine wp_n 1 (pc' := 252) (L' := [(2, 127), (0, q), (0, d), (0, s), (0, w), (0, ((n : Int) + 1)), (0, ((k : Nat) : Int)), (0, 1)]) (st' := [(0, ((k : Nat) : Int))]) (g' := g226) rfl ?_
                            exact wp_ret rfl rfl rfl ⟨_, _, rfl, Or.inl ⟨by unfold NdD; omega, ((n + 1 : Nat) : Int), (k : Int), Or.inl ⟨n + 1, k, rfl, rfl, by omega, hn1, hgd, fun m j h1 h2 => hb m j h1 (by omega)⟩, by first | (rw [if_pos (by omega)]; done) | (rw [if_pos (by omega)]; rfl) | (rw [if_neg (by omega)]; done)⟩, FrN.rfl.r ((((hCF.m hF201 (by omega) (by omega)).m hF210 (by omega) (by omega)).m hF219 (by omega) (by omega)).m hF226 (by omega) (by omega))⟩
                          · refine wp_n 2 (pc' := 252) (L' := [(2, 127), (0, q), (0, d), (0, s), (0, w), (0, ((n : Int) + 1)), (0, ((k : Nat) : Int)), (0, 1)]) (st' := [(0, ((n : Int) + 1))]) (g' := g226) rfl ?_
                            exact wp_ret rfl rfl rfl ⟨_, _, rfl, Or.inl ⟨by unfold NdD; omega, ((n + 1 : Nat) : Int), (k : Int), Or.inl ⟨n + 1, k, rfl, rfl, by omega, hn1, hgd, fun m j h1 h2 => hb m j h1 (by omega)⟩, by first | (rw [if_pos (by omega)]; done) | (rw [if_pos (by omega)]; rfl) | (rw [if_neg (by omega)]; done)⟩, FrN.rfl.r ((((hCF.m hF201 (by omega) (by omega)).m hF210 (by omega) (by omega)).m hF219 (by omega) (by omega)).m hF226 (by omega) (by omega))⟩
                      · refine wp_n 5 (pc' := 145) (L' := [(2, 127), (0, q), (0, d), (0, s), (0, w), (0, ((n : Int) + 1)), (0, ((k : Nat) : Int)), (0, r)]) (st' := [(0, ((n : Int) + 1)), (0, ((k : Nat) : Int)), (0, 0), (0, 124), (2, 127)]) (g' := f) rfl ?_
                        refine wp_eq (L' := [(2, 127), (0, q), (0, d), (0, s), (0, w), (0, ((n : Int) + 1)), (0, ((k : Nat) : Int)), (0, r)]) (st' := [(0, (((n + 2 : Nat) : Int) - 1)), (0, ((k : Nat) : Int)), (0, 0), (0, 124), (2, 127)]) (g' := f) ?_ (by rfl) (by rw [show (((n + 2 : Nat) : Int) - 1) = (n : Int) + 1 by omega]) (by rfl)
                        refine wp_cv (as := [(2, 127), (0, 124), (0, 0), (0, ((k : Nat) : Int)), (0, (((n + 2 : Nat) : Int) - 1))]) (rest := []) rfl rfl rfl (Nat.le_of_ble_eq_true rfl) rfl (m_sum (r := 124) (f := 0) (u := k) (v := n + 2) (t := n + 1) (by omega) (by omega) (by omega) (by omega) (by omega) (by omega) (by omega) (by omega) (by omega) hC0) (by decide) (fun r44 h45 => ?_)
                        obtain ⟨g145, rfl, hR145, hF145⟩ := h45
                        refine wp_eq (L' := [(2, 127), (0, q), (0, d), (0, s), (0, w), (0, ((n : Int) + 1)), (0, ((k : Nat) : Int)), (0, r)]) (st' := []) (g' := g145) ?_
                        refine wp_n 3 (pc' := 152) (L' := [(2, 127), (0, q), (0, d), (0, s), (0, w), (0, ((n : Int) + 1)), (0, ((k : Nat) : Int)), (0, r)]) (st' := [(0, d), (0, 124), (2, 127)]) (g' := g145) rfl ?_
                        refine wp_cv (as := [(2, 127), (0, 124), (0, d)]) (rest := []) rfl rfl rfl (Nat.le_of_ble_eq_true rfl) rfl (m_times (r := 124) (by omega) (show MR g145 124 (tl 1 ((P : Int) - 1) (n + 1) k) from hR145) (by omega) (by omega)) (by decide) (fun r46 h47 => ?_)
                        obtain ⟨g152, rfl, hR152, hF152⟩ := h47
                        refine wp_eq (L' := [(2, 127), (0, q), (0, d), (0, s), (0, w), (0, ((n : Int) + 1)), (0, ((k : Nat) : Int)), (0, r)]) (st' := []) (g' := g152) ?_
                        refine wp_n 3 (pc' := 160) (L' := [(2, 127), (0, q), (0, d), (0, s), (0, w), (0, ((n : Int) + 1)), (0, ((k : Nat) : Int)), (0, r)]) (st' := [(0, 127), (0, 124), (2, 127)]) (g' := g152) rfl ?_
                        refine wp_cv (as := [(2, 127), (0, 124), (0, 127)]) (rest := []) rfl rfl rfl (Nat.le_of_ble_eq_true rfl) rfl (m_compare (r := 124) (s := 127) (by omega) (by omega) hR152 ((hCU.fr hF145 (by omega)).fr hF152 (by omega))) (by decide) (fun r48 h49 => ?_)
                        obtain ⟨c160, rfl, hc160⟩ := h49
                        refine wp_eq (L' := [(2, 127), (0, q), (0, d), (0, s), (0, w), (0, ((n : Int) + 1)), (0, ((k : Nat) : Int)), (0, r)]) (st' := [(0, c160)]) (g' := g152) ?_
                        refine wp_if_gt rfl (fun c50 => ?_) (fun c50 => ?_)
                        · have hcq : ¬ Rare P d (n + 1) k := by unfold Rare; omega
                          refine wp_n 6 (pc' := 125) (L' := [(2, 127), (0, q), (0, d), (0, s), (0, w), (0, ((n : Int) + 1)), (0, (((k : Nat) : Int) + 1)), (0, 0)]) (st' := []) (g' := g152) rfl ?_
                          refine wp_eq (ih125 ((k + 1)) (0) (g152) ?_ ?_ ?_ ?_ ?_ ?_ ?_ ?_ ?_) (by first | rfl | (simp; done) | (simp; omega)) (by rfl) (by rfl)
                          · omega
                          · omega
                          · first | exact Or.inl rfl | exact Or.inr ⟨rfl, by omega, hcq⟩
                          · first | exact hr2 | (intro j hj; rcases Nat.lt_succ_iff_lt_or_eq.mp hj with e | e; exact hr2 j e; rw [e]; exact hcq)
                          · exact ((hC0.fr hF145 (by omega)).fr hF152 (by omega))
                          · exact ((hC1.fr hF145 (by omega)).fr hF152 (by omega))
                          · exact ((hCU.fr hF145 (by omega)).fr hF152 (by omega))
                          · exact ((hCV.fr hF145 (by omega)).fr hF152 (by omega))
                          · exact (hCF.m hF145 (by omega) (by omega)).m hF152 (by omega) (by omega)
                        · have hcq : Rare P d (n + 1) k := by unfold Rare; omega
                          refine wp_n 5 (pc' := 125) (L' := [(2, 127), (0, q), (0, d), (0, s), (0, w), (0, ((n : Int) + 1)), (0, ((k : Nat) : Int)), (0, 1)]) (st' := []) (g' := g152) rfl ?_
                          refine wp_eq (ih125 (k) (1) (g152) ?_ ?_ ?_ ?_ ?_ ?_ ?_ ?_ ?_) (by first | rfl | (simp; done) | (simp; omega)) (by rfl) (by rfl)
                          · omega
                          · omega
                          · first | exact Or.inl rfl | exact Or.inr ⟨rfl, by omega, hcq⟩
                          · first | exact hr2 | (intro j hj; rcases Nat.lt_succ_iff_lt_or_eq.mp hj with e | e; exact hr2 j e; rw [e]; exact hcq)
                          · exact ((hC0.fr hF145 (by omega)).fr hF152 (by omega))
                          · exact ((hC1.fr hF145 (by omega)).fr hF152 (by omega))
                          · exact ((hCU.fr hF145 (by omega)).fr hF152 (by omega))
                          · exact ((hCV.fr hF145 (by omega)).fr hF152 (by omega))
                          · exact (hCF.m hF145 (by omega) (by omega)).m hF152 (by omega) (by omega)
                refine wp_eq (L125 (_ + 1) (0) (0) (g116) (Nat.lt_succ_self _) ?_ ?_ ?_ ?_ ?_ ?_ ?_ ?_) (by first | rfl | (simp; done) | (simp; omega)) (by rfl) (by rfl)
                · omega
                · exact Or.inl rfl
                · intro j hj; omega
                · exact (((hR82.frr hF96 (by omega)).fr hF106 (by omega)).fr hF116 (by omega))
                · exact ((hR96.fr hF106 (by omega)).fr hF116 (by omega))
                · rw [Int.pow_succ]; exact hR106.fr hF116 (by omega)
                · rw [Int.pow_succ]; exact hR116
                · exact (((hF.trans (hF82.wide (by omega) (by omega))).trans (hF96.wide (by omega) (by omega))).m hF106 (by omega) (by omega)).m hF116 (by omega) (by omega)
          refine wp_eq (L64 (_ + 1) (0) (g58) ((9, 0)) ((9, 0)) (Nat.lt_succ_self _) ?_ ?_ ?_ ?_ ?_ ?_ ?_) (by rfl) (by rfl) (by rfl)
          · decide
          · intro m j h1 h2; omega
          · exact BT.one (((hR36.fr hF43 (by omega)).fr hF50 (by omega)).fr hF58 (by omega))
          · exact BT.one ((hR43.fr hF50 (by omega)).fr hF58 (by omega))
          · rw [Int.pow_zero]; exact hR50.fr hF58 (by omega)
          · rw [Int.pow_zero]; exact hR58
          · exact (((FrR.rfl.m hF36 (by omega) (by omega)).m hF43 (by omega) (by omega)).m hF50 (by omega) (by omega)).m hF58 (by omega) (by omega)
        · refine wp_eq (L' := [(2, 127), (0, q), (0, d), (0, s), (0, w), (9, 0), (9, 0), (9, 0)]) (st' := [(0, 0)]) (g' := g) ?_
          refine wp_n 2 (pc' := 32) (L' := [(2, 127), (0, q), (0, d), (0, s), (0, w), (9, 0), (9, 0), (9, 0)]) (st' := [(0, (-1))]) (g' := g) rfl ?_
          exact wp_ret rfl rfl rfl ⟨_, _, rfl, Or.inr ⟨by unfold NdD; omega, rfl⟩, FrN.rfl⟩
      · refine wp_eq (L' := [(2, 127), (0, q), (0, d), (0, s), (0, w), (9, 0), (9, 0), (9, 0)]) (st' := [(0, 0)]) (g' := g) ?_
        refine wp_n 2 (pc' := 32) (L' := [(2, 127), (0, q), (0, d), (0, s), (0, w), (9, 0), (9, 0), (9, 0)]) (st' := [(0, (-1))]) (g' := g) rfl ?_
        exact wp_ret rfl rfl rfl ⟨_, _, rfl, Or.inr ⟨by unfold NdD; omega, rfl⟩, FrN.rfl⟩
    · refine wp_eq (L' := [(2, 127), (0, q), (0, d), (0, s), (0, w), (9, 0), (9, 0), (9, 0)]) (st' := [(0, 0)]) (g' := g) ?_
      refine wp_n 2 (pc' := 32) (L' := [(2, 127), (0, q), (0, d), (0, s), (0, w), (9, 0), (9, 0), (9, 0)]) (st' := [(0, (-1))]) (g' := g) rfl ?_
      exact wp_ret rfl rfl rfl ⟨_, _, rfl, Or.inr ⟨by unfold NdD; omega, rfl⟩, FrN.rfl⟩
  · refine wp_eq (L' := [(2, 127), (0, q), (0, d), (0, s), (0, w), (9, 0), (9, 0), (9, 0)]) (st' := [(0, 0)]) (g' := g) ?_
    refine wp_n 2 (pc' := 32) (L' := [(2, 127), (0, q), (0, d), (0, s), (0, w), (9, 0), (9, 0), (9, 0)]) (st' := [(0, (-1))]) (g' := g) rfl ?_
    exact wp_ret rfl rfl rfl ⟨_, _, rfl, Or.inr ⟨by unfold NdD; omega, rfl⟩, FrN.rfl⟩
theorem M_need {sn : Nat} {sx : Nat → Int} {b : Nat} {g c : am_G} {P : Nat} {q d s w : Int} (h_q : R32 q) (h_d : R32 d) (h_s : R32 s) (h_w : R32 w) (hI : CInv P c) (hM : MRel c g) : Ev sn sx 4 224 [(2, 127), (0, q), (0, d), (0, s), (0, w)] (SH b) g (MPost b g (fun c1 v1 => NdA P q d s w v1 ∧ CoE c c1)) := (m_need h_q h_d h_s h_w (hM.n.trans hI.ck.2.1) hI.ck.1).mono fun r h => mpost_n (A := NdA P q d s w) hM (fun _ _ => NdA.uniq) h
