/-! SPAN -/
theorem CLs.fr468 {g g' : am_G} (h : CLs g) (hF : (∀ c j, c ≠ 104 → c ≠ 105 → c ≠ 106 → c ≠ 107 → c ≠ 108 → c ≠ 109 → g' c j = g c j)) (h1 : BigL g' 104) (h2 : BigL g' 106) (h3 : BigL g' 108) : CLs g' := by
  obtain ⟨a1, a2, a3, a4, a5, a6, a7, a8⟩ := h
  have k (a : Nat) (hk : 110 ≤ a) (H : BigL g a) : BigL g' a := by
    intro j hj
    rw [hF (a + 1) j (by omega) (by omega) (by omega) (by omega) (by omega) (by omega)]
    exact H j hj
  exact ⟨h1, h2, h3, k 110 (by decide) a4, k 112 (by decide) a5, k 114 (by decide) a6, k 116 (by decide) a7, k 118 (by decide) a8⟩
theorem gk_iff {n x : Nat} {q d : Int} (hx : x ≤ n) : (1000 ^ n ≤ (ps (bt q (1000 - q) n) (x + 1) - ps (bt q (1000 - q) n) 0) * d) ↔ LK n (n - x) d (1000 - q) := by
  unfold LK
  rw [ps_sym hx, show ps (bt q (1000 - q) n) 0 = 0 from rfl, Int.sub_zero, show 1000 - (1000 - q) = q by omega]
theorem m_isLikely2 {sn : Nat} {sx : Nat → Int} {b : Nat} {g : am_G} {t u v : Nat} {q d : Int} (ht : t ≤ 60) (hq : 0 ≤ q ∧ q ≤ 1000) (hu : u ≤ v) (hv : v ≤ t + 1) (hd : 0 ≤ d ∧ d ≤ 1000000) : Ev sn sx 4 220 [(2, 127), (0, ((t : Nat) : Int)), (0, q), (0, ((u : Nat) : Int)), (0, ((v : Int) - 1)), (0, d)] (SH b) g (fun r => (∃ g', r = (some (0, 1), SH b, g') ∧ 1000 ^ t ≤ (ps (bt q (1000 - q) t) v - ps (bt q (1000 - q) t) u) * d ∧ FrR 0 126 g g') ∨ (∃ g', r = (some (0, 0), SH b, g') ∧ ¬ 1000 ^ t ≤ (ps (bt q (1000 - q) t) v - ps (bt q (1000 - q) t) u) * d ∧ FrR 0 126 g g')) := (m_isLikely ht hq hu hv hd).mono fun r h => by
  obtain ⟨g', h1, h2⟩ := h
  rcases h1 with ⟨h1, h3⟩ | ⟨h1, h3⟩
  · exact Or.inl ⟨g', h1, h3, h2⟩
  · exact Or.inr ⟨g', h1, h3, h2⟩
def SnD (n x d : Int) : Prop := 1 ≤ n ∧ n ≤ 60 ∧ 0 ≤ x ∧ x ≤ n ∧ 2 ≤ d ∧ d ≤ 1000000
def SnA (n x d w v : Int) : Prop := (¬ SnD n x d ∧ v = -1) ∨ (SnD n x d ∧ w = 0 ∧ IsLeast n.toNat x.toNat d v) ∨ (SnD n x d ∧ w ≠ 0 ∧ IsLeast n.toNat (n.toNat - x.toNat) d (1000 - v))
theorem SnA.uniq {n x d w v v' : Int} (H : SnA n x d w v) (H' : SnA n x d w v') : v = v' := by
  rcases H with H | H | H <;> rcases H' with H' | H' | H'
  · exact H.2.trans H'.2.symm
  · exact absurd H'.1 H.1
  · exact absurd H'.1 H.1
  · exact absurd H.1 H'.1
  · have hD := H.1
    unfold SnD at hD
    exact H.2.2.uniq H'.2.2 (by omega) (by omega)
  · exact absurd H.2.1 H'.2.1
  · exact absurd H.1 H'.1
  · exact absurd H'.2.1 H.2.1
  · have hD := H.1
    unfold SnD at hD
    have := H.2.2.uniq H'.2.2 (by omega) (by omega)
    omega
set_option maxHeartbeats 400000 in
set_option maxRecDepth 20000 in
theorem e_span {sn : Nat} {sx : Nat → Int} {b : Nat} {g : am_G} {P : Nat} {n x d w : Int} (h_n : R32 n) (h_x : R32 x) (h_d : R32 d) (h_w : R32 w) (hI : CInv P g) : Ev sn sx 6 117 [(2, 0), (0, n), (0, x), (0, d), (0, w)] (SH b) g (fun y => ∃ g' v, y = (some (0, v), SH b, g') ∧ SnA n x d w v ∧ CLs g' ∧ FrK g g') := by
  have hP := hI.ck.2.1
  have h5 := hI.ck.1
  refine ev_of (K := 5) T117 (by decide) rfl rfl (Nat.le_of_ble_eq_true rfl) ?_
  refine wp_eq (L' := [(2, 0), (0, n), (0, x), (0, d), (0, w)]) (st' := []) (g' := g) ?_
  refine wp_n 2 (pc' := 2) (L' := [(2, 0), (0, n), (0, x), (0, d), (0, w)]) (st' := [(0, x), (0, n)]) (g' := g) rfl ?_
  refine wp_cs (as := [(0, n), (0, x)]) (rest := []) rfl (by decide) rfl (Nat.le_of_ble_eq_true rfl) (e_isCount (by omega) (by omega)) (by decide) (fun r2 h3 => ?_)
  rcases h3 with ⟨rfl, p1⟩ | ⟨rfl, p1⟩
  · refine wp_eq (L' := [(2, 0), (0, n), (0, x), (0, d), (0, w)]) (st' := [(0, 1)]) (g' := g) ?_
    refine wp_n 4 (pc' := 13) (L' := [(2, 0), (0, n), (0, x), (0, d), (0, w)]) (st' := [(0, 1000000), (0, 2), (0, d)]) (g' := g) rfl ?_
    refine wp_cs (as := [(0, d), (0, 2), (0, 1000000)]) (rest := []) rfl (by decide) rfl (Nat.le_of_ble_eq_true rfl) (e_within (by omega) (by omega) (by omega)) (by decide) (fun r5 h6 => ?_)
    rcases h6 with ⟨rfl, p4⟩ | ⟨rfl, p4⟩
    · refine wp_eq (L' := [(2, 0), (0, n), (0, x), (0, d), (0, w)]) (st' := [(0, 1)]) (g' := g) ?_
      refine wp_n 2 (pc' := 23) (L' := [(2, 0), (0, n), (0, x), (0, d), (0, w)]) (st' := [(0, w)]) (g' := g) rfl ?_
      refine wp_if_eq rfl (fun c7 => ?_) (fun c7 => ?_)
      · refine wp_n 3 (pc' := 50) (L' := [(2, 0), (0, n), (0, x), (0, d), (0, w)]) (st' := [(0, n), (2, 103)]) (g' := g) rfl ?_
        refine wp_eq (L' := [(2, 0), (0, n), (0, x), (0, d), (0, w)]) (st' := [(0, ((n.toNat : Nat) : Int)), (2, 103)]) (g' := g) ?_ (by rfl) (by rw [Int.toNat_of_nonneg (by omega)]) (by rfl)
        refine wp_n 1 (pc' := 51) (L' := [(2, 0), (0, n), (0, x), (0, d), (0, w)]) (st' := [(0, x), (0, ((n.toNat : Nat) : Int)), (2, 103)]) (g' := g) rfl ?_
        refine wp_eq (L' := [(2, 0), (0, n), (0, x), (0, d), (0, w)]) (st' := [(0, ((x.toNat : Nat) : Int)), (0, ((n.toNat : Nat) : Int)), (2, 103)]) (g' := g) ?_ (by rfl) (by rw [Int.toNat_of_nonneg (by omega)]) (by rfl)
        refine wp_n 1 (pc' := 52) (L' := [(2, 0), (0, n), (0, x), (0, d), (0, w)]) (st' := [(0, d), (0, ((x.toNat : Nat) : Int)), (0, ((n.toNat : Nat) : Int)), (2, 103)]) (g' := g) rfl ?_
        refine wp_cv (as := [(2, 103), (0, ((n.toNat : Nat) : Int)), (0, ((x.toNat : Nat) : Int)), (0, d)]) (rest := []) rfl rfl rfl (Nat.le_of_ble_eq_true rfl) rfl (e_least (n := (n.toNat)) (x := (x.toNat)) (by omega) (by omega) (by omega) hI.cls.1 hI.cls.2.1 hI.cls.2.2.1) (by decide) (fun r8 h9 => ?_)
        obtain ⟨g52, q52, rfl, hI52, hA52, hB52, hC52, hF52⟩ := h9
        refine wp_eq (L' := [(2, 0), (0, n), (0, x), (0, d), (0, w)]) (st' := [(0, q52)]) (g' := g52) ?_
        exact wp_ret rfl rfl rfl ⟨_, _, rfl, Or.inr (Or.inl ⟨by unfold SnD; omega, by omega, hI52⟩), hI.cls.fr468 hF52 hA52 hB52 hC52, fun c j hc => hF52 c j (by omega) (by omega) (by omega) (by omega) (by omega) (by omega)⟩
      · refine wp_n 4 (pc' := 34) (L' := [(2, 0), (0, n), (0, x), (0, d), (0, w)]) (st' := [(0, n), (2, 103), (0, 1000)]) (g' := g) rfl ?_
        refine wp_eq (L' := [(2, 0), (0, n), (0, x), (0, d), (0, w)]) (st' := [(0, ((n.toNat : Nat) : Int)), (2, 103), (0, 1000)]) (g' := g) ?_ (by rfl) (by rw [Int.toNat_of_nonneg (by omega)]) (by rfl)
        refine wp_n 3 (pc' := 37) (L' := [(2, 0), (0, n), (0, x), (0, d), (0, w)]) (st' := [(0, (n - x)), (0, ((n.toNat : Nat) : Int)), (2, 103), (0, 1000)]) (g' := g) rfl ?_
        refine wp_eq (L' := [(2, 0), (0, n), (0, x), (0, d), (0, w)]) (st' := [(0, (((n.toNat - x.toNat) : Nat) : Int)), (0, ((n.toNat : Nat) : Int)), (2, 103), (0, 1000)]) (g' := g) ?_ (by rfl) (by rw [show n - x = ((n.toNat - x.toNat : Nat) : Int) by omega]) (by rfl)
        refine wp_n 1 (pc' := 38) (L' := [(2, 0), (0, n), (0, x), (0, d), (0, w)]) (st' := [(0, d), (0, (((n.toNat - x.toNat) : Nat) : Int)), (0, ((n.toNat : Nat) : Int)), (2, 103), (0, 1000)]) (g' := g) rfl ?_
        refine wp_cv (as := [(2, 103), (0, ((n.toNat : Nat) : Int)), (0, (((n.toNat - x.toNat) : Nat) : Int)), (0, d)]) (rest := [(0, 1000)]) rfl rfl rfl (Nat.le_of_ble_eq_true rfl) rfl (e_least (n := (n.toNat)) (x := ((n.toNat - x.toNat))) (by omega) (by omega) (by omega) hI.cls.1 hI.cls.2.1 hI.cls.2.2.1) (by decide) (fun r10 h11 => ?_)
        obtain ⟨g38, q38, rfl, hI38, hA38, hB38, hC38, hF38⟩ := h11
        refine wp_eq (L' := [(2, 0), (0, n), (0, x), (0, d), (0, w)]) (st' := [(0, q38), (0, 1000)]) (g' := g38) ?_
        refine wp_n 2 (pc' := 55) (L' := [(2, 0), (0, n), (0, x), (0, d), (0, w)]) (st' := [(0, (1000 - q38))]) (g' := g38) rfl ?_
        exact wp_ret rfl rfl rfl ⟨_, _, rfl, Or.inr (Or.inr ⟨by unfold SnD; omega, by omega, by rw [show (1000 : Int) - (1000 - q38) = q38 by omega]; exact hI38⟩), hI.cls.fr468 hF38 hA38 hB38 hC38, fun c j hc => hF38 c j (by omega) (by omega) (by omega) (by omega) (by omega) (by omega)⟩
    · refine wp_eq (L' := [(2, 0), (0, n), (0, x), (0, d), (0, w)]) (st' := [(0, 0)]) (g' := g) ?_
      refine wp_n 2 (pc' := 20) (L' := [(2, 0), (0, n), (0, x), (0, d), (0, w)]) (st' := [(0, (-1))]) (g' := g) rfl ?_
      exact wp_ret rfl rfl rfl ⟨_, _, rfl, Or.inl ⟨by unfold SnD; omega, rfl⟩, hI.cls, fun _ _ _ => rfl⟩
  · refine wp_eq (L' := [(2, 0), (0, n), (0, x), (0, d), (0, w)]) (st' := [(0, 0)]) (g' := g) ?_
    refine wp_n 2 (pc' := 20) (L' := [(2, 0), (0, n), (0, x), (0, d), (0, w)]) (st' := [(0, (-1))]) (g' := g) rfl ?_
    exact wp_ret rfl rfl rfl ⟨_, _, rfl, Or.inl ⟨by unfold SnD; omega, rfl⟩, hI.cls, fun _ _ _ => rfl⟩
set_option maxHeartbeats 400000 in
set_option maxRecDepth 20000 in
theorem m_span {sn : Nat} {sx : Nat → Int} {b : Nat} {g : am_G} {c : am_G} {P : Nat} {n x d w : Int} (h_n : R32 n) (h_x : R32 x) (h_d : R32 d) (h_w : R32 w) (hI : CInv P c) (hM : MRel c g) : Ev sn sx 5 222 [(2, 127), (0, n), (0, x), (0, d), (0, w)] (SH b) g (fun y => ∃ g' v, y = (some (0, v), SH b, g') ∧ SnA n x d w v ∧ FrN g g') := by
  have h5 := hI.ck.1
  have hP : g 127 0 = (P : Int) := hM.n.trans hI.ck.2.1
  refine ev_of (K := 4) T222 (by decide) rfl rfl (Nat.le_of_ble_eq_true rfl) ?_
  refine wp_eq (L' := [(2, 127), (0, n), (0, x), (0, d), (0, w), (9, 0), (9, 0), (9, 0), (9, 0)]) (st' := []) (g' := g) ?_
  refine wp_n 3 (pc' := 4) (L' := [(2, 127), (0, n), (0, x), (0, d), (0, w), (9, 0), (9, 0), (9, 0), (9, 0)]) (st' := [(0, 60), (0, 1), (0, n)]) (g' := g) rfl ?_
  refine wp_cs (as := [(0, n), (0, 1), (0, 60)]) (rest := []) rfl (by decide) rfl (Nat.le_of_ble_eq_true rfl) (e_isIn (by omega) (by omega) (by omega)) (by decide) (fun r2 h3 => ?_)
  rcases h3 with ⟨rfl, p1⟩ | ⟨rfl, p1⟩
  · refine wp_eq (L' := [(2, 127), (0, n), (0, x), (0, d), (0, w), (9, 0), (9, 0), (9, 0), (9, 0)]) (st' := [(0, 1)]) (g' := g) ?_
    refine wp_n 4 (pc' := 13) (L' := [(2, 127), (0, n), (0, x), (0, d), (0, w), (9, 0), (9, 0), (9, 0), (9, 0)]) (st' := [(0, n), (0, 0), (0, x)]) (g' := g) rfl ?_
    refine wp_cs (as := [(0, x), (0, 0), (0, n)]) (rest := []) rfl (by decide) rfl (Nat.le_of_ble_eq_true rfl) (e_isIn (by omega) (by omega) (by omega)) (by decide) (fun r5 h6 => ?_)
    rcases h6 with ⟨rfl, p4⟩ | ⟨rfl, p4⟩
    · refine wp_eq (L' := [(2, 127), (0, n), (0, x), (0, d), (0, w), (9, 0), (9, 0), (9, 0), (9, 0)]) (st' := [(0, 1)]) (g' := g) ?_
      refine wp_n 2 (pc' := 20) (L' := [(2, 127), (0, n), (0, x), (0, d), (0, w), (9, 0), (9, 0), (9, 0), (9, 0)]) (st' := [(0, d)]) (g' := g) rfl ?_
      refine wp_cs (as := [(0, d)]) (rest := []) rfl (by decide) rfl (Nat.le_of_ble_eq_true rfl) (e_isTold (by omega)) (by decide) (fun r8 h9 => ?_)
      rcases h9 with ⟨rfl, p7⟩ | ⟨rfl, p7⟩
      · refine wp_eq (L' := [(2, 127), (0, n), (0, x), (0, d), (0, w), (9, 0), (9, 0), (9, 0), (9, 0)]) (st' := [(0, 1)]) (g' := g) ?_
        refine wp_n 5 (pc' := 36) (L' := [(2, 127), (0, n), (0, x), (0, d), (0, w), (0, 0), (0, 1000), (9, 0), (9, 0)]) (st' := []) (g' := g) rfl ?_
        have L36 : ∀ (lf : Nat) (lo hi : Int) (f : am_G) (w7 : am_V), (hi - lo).toNat < lf → (0 ≤ lo ∧ lo ≤ hi ∧ hi ≤ 1000) → (lo = 0 ∨ ¬ LK n.toNat x.toNat d (lo - 1)) → (1000 ≤ hi ∨ LK n.toNat x.toNat d (hi)) → (FrN g f) → Wp sn sx 4 T222 36 [(2, 127), (0, n), (0, x), (0, d), (0, w), (0, lo), (0, hi), w7, (9, 0)] [] (SH b) f (fun y => ∃ g' v, y = (some (0, v), SH b, g') ∧ SnA n x d w v ∧ FrN g g') := by
          intro lf
          induction lf with
          | zero => intro lo hi f w7 hlf; exact absurd hlf (Nat.not_lt_zero _)
          | succ lf ih36 =>
            intro lo hi f w7 hlf hb hl hh hF
            refine wp_n 2 (pc' := 40) (L' := [(2, 127), (0, n), (0, x), (0, d), (0, w), (0, lo), (0, hi), w7, (9, 0)]) (st' := [(0, hi), (0, lo)]) (g' := f) rfl ?_
            refine wp_ic_ge rfl (fun c10 => ?_) (fun c10 => ?_)
            · have he : lo = hi := by omega
              have hI1 : IsLeast n.toNat x.toNat d lo := ⟨hb.1, by omega, hl, by rw [he]; exact hh⟩
              refine wp_n 6 (pc' := 93) (L' := [(2, 127), (0, n), (0, x), (0, d), (0, w), (0, 0), (0, 1000), (0, lo), (9, 0)]) (st' := []) (g' := f) rfl ?_
              have L93 : ∀ (lf : Nat) (ka kb : Int) (f2 : am_G) (w8 : am_V), (kb - ka).toNat < lf → (0 ≤ ka ∧ ka ≤ kb ∧ kb ≤ 1000) → (kb = 1000 ∨ ¬ LK n.toNat (n.toNat - x.toNat) d (1000 - (kb + 1))) → (ka = 0 ∨ LK n.toNat (n.toNat - x.toNat) d (1000 - (ka))) → (FrN g f2) → Wp sn sx 4 T222 93 [(2, 127), (0, n), (0, x), (0, d), (0, w), (0, ka), (0, kb), (0, lo), w8] [] (SH b) f2 (fun y => ∃ g' v, y = (some (0, v), SH b, g') ∧ SnA n x d w v ∧ FrN g g') := by
                intro lf
                induction lf with
                | zero => intro ka kb f2 w8 hlf; exact absurd hlf (Nat.not_lt_zero _)
                | succ lf ih93 =>
                  intro ka kb f2 w8 hlf hb hl hh hF
                  refine wp_n 2 (pc' := 97) (L' := [(2, 127), (0, n), (0, x), (0, d), (0, w), (0, ka), (0, kb), (0, lo), w8]) (st' := [(0, kb), (0, ka)]) (g' := f2) rfl ?_
                  refine wp_ic_ge rfl (fun c11 => ?_) (fun c11 => ?_)
                  · have he : ka = kb := by omega
                    have hI2 : IsLeast n.toNat (n.toNat - x.toNat) d (1000 - ka) := by
                      refine ⟨by omega, by omega, ?_, ?_⟩
                      · rcases hl with e | e
                        · exact Or.inl (by omega)
                        · exact Or.inr (by rw [show 1000 - ka - 1 = 1000 - (kb + 1) by omega]; exact e)
                      · rcases hh with e | e
                        · exact Or.inl (by omega)
                        · exact Or.inr e
                    refine wp_n 2 (pc' := 144) (L' := [(2, 127), (0, n), (0, x), (0, d), (0, w), (0, ka), (0, kb), (0, lo), w8]) (st' := [(0, ka), (0, lo)]) (g' := f2) rfl ?_
                    refine wp_ic_le rfl (fun c12 => ?_) (fun c12 => ?_)
                    · refine wp_n 1 (pc' := 153) (L' := [(2, 127), (0, n), (0, x), (0, d), (0, w), (0, ka), (0, kb), (0, lo), w8]) (st' := [(0, w)]) (g' := f2) rfl ?_
                      refine wp_if_eq rfl (fun c13 => ?_) (fun c13 => ?_)
                      · refine wp_n 1 (pc' := 163) (L' := [(2, 127), (0, n), (0, x), (0, d), (0, w), (0, ka), (0, kb), (0, lo), w8]) (st' := [(0, lo)]) (g' := f2) rfl ?_
                        first
                        | exact wp_ret rfl rfl rfl ⟨_, _, rfl, Or.inl ⟨by unfold SnD; omega, rfl⟩, FrN.rfl⟩
                        | (exfalso; have := span_ne (by omega) (by omega) (by omega) hI1 hI2; omega)
                        | exact wp_ret rfl rfl rfl ⟨_, _, rfl, Or.inr (Or.inl ⟨by unfold SnD; omega, by omega, hI1⟩), hF⟩
                        | exact wp_ret rfl rfl rfl ⟨_, _, rfl, Or.inr (Or.inr ⟨by unfold SnD; omega, by omega, hI2⟩), hF⟩
                      · refine wp_n 2 (pc' := 163) (L' := [(2, 127), (0, n), (0, x), (0, d), (0, w), (0, ka), (0, kb), (0, lo), w8]) (st' := [(0, ka)]) (g' := f2) rfl ?_
                        first
                        | exact wp_ret rfl rfl rfl ⟨_, _, rfl, Or.inl ⟨by unfold SnD; omega, rfl⟩, FrN.rfl⟩
                        | (exfalso; have := span_ne (by omega) (by omega) (by omega) hI1 hI2; omega)
                        | exact wp_ret rfl rfl rfl ⟨_, _, rfl, Or.inr (Or.inl ⟨by unfold SnD; omega, by omega, hI1⟩), hF⟩
                        | exact wp_ret rfl rfl rfl ⟨_, _, rfl, Or.inr (Or.inr ⟨by unfold SnD; omega, by omega, hI2⟩), hF⟩
                    · refine wp_n 2 (pc' := 163) (L' := [(2, 127), (0, n), (0, x), (0, d), (0, w), (0, ka), (0, kb), (0, lo), w8]) (st' := [(0, (-1))]) (g' := f2) rfl ?_
                      first
                      | exact wp_ret rfl rfl rfl ⟨_, _, rfl, Or.inl ⟨by unfold SnD; omega, rfl⟩, FrN.rfl⟩
                      | (exfalso; have := span_ne (by omega) (by omega) (by omega) hI1 hI2; omega)
                      | exact wp_ret rfl rfl rfl ⟨_, _, rfl, Or.inr (Or.inl ⟨by unfold SnD; omega, by omega, hI1⟩), hF⟩
                      | exact wp_ret rfl rfl rfl ⟨_, _, rfl, Or.inr (Or.inr ⟨by unfold SnD; omega, by omega, hI2⟩), hF⟩
                  · refine wp_n 6 (pc' := 108) (L' := [(2, 127), (0, n), (0, x), (0, d), (0, w), (0, ka), (0, kb), (0, lo), w8]) (st' := [(0, 2), (0, ((ka + kb) + 1))]) (g' := f2) rfl ?_
                    refine wp_idiv rfl (by omega) (by omega) (by omega) ?_
                    refine wp_eq (L' := [(2, 127), (0, n), (0, x), (0, d), (0, w), (0, ka), (0, kb), (0, lo), w8]) (st' := [(0, (((ka + kb) + 1) / 2))]) (g' := f2) ?_ (by rfl) (by rw [Int.tdiv_eq_ediv_of_nonneg (show 0 ≤ ka + kb + 1 by omega)]) (by rfl)
                    refine wp_n 3 (pc' := 113) (L' := [(2, 127), (0, n), (0, x), (0, d), (0, w), (0, ka), (0, kb), (0, lo), (0, (((ka + kb) + 1) / 2))]) (st' := [(0, n), (2, 127)]) (g' := f2) rfl ?_
                    refine wp_eq (L' := [(2, 127), (0, n), (0, x), (0, d), (0, w), (0, ka), (0, kb), (0, lo), (0, (((ka + kb) + 1) / 2))]) (st' := [(0, ((n.toNat : Nat) : Int)), (2, 127)]) (g' := f2) ?_ (by rfl) (by rw [Int.toNat_of_nonneg (by omega)]) (by rfl)
                    refine wp_n 3 (pc' := 117) (L' := [(2, 127), (0, n), (0, x), (0, d), (0, w), (0, ka), (0, kb), (0, lo), (0, (((ka + kb) + 1) / 2))]) (st' := [(0, x), (0, 0), (0, (((ka + kb) + 1) / 2)), (0, ((n.toNat : Nat) : Int)), (2, 127)]) (g' := f2) rfl ?_
                    refine wp_eq (L' := [(2, 127), (0, n), (0, x), (0, d), (0, w), (0, ka), (0, kb), (0, lo), (0, (((ka + kb) + 1) / 2))]) (st' := [(0, (((x.toNat + 1 : Nat) : Int) - 1)), (0, 0), (0, (((ka + kb) + 1) / 2)), (0, ((n.toNat : Nat) : Int)), (2, 127)]) (g' := f2) ?_ (by rfl) (by rw [show (((x.toNat + 1 : Nat) : Int) - 1) = x by omega]) (by rfl)
                    refine wp_n 1 (pc' := 118) (L' := [(2, 127), (0, n), (0, x), (0, d), (0, w), (0, ka), (0, kb), (0, lo), (0, (((ka + kb) + 1) / 2))]) (st' := [(0, d), (0, (((x.toNat + 1 : Nat) : Int) - 1)), (0, 0), (0, (((ka + kb) + 1) / 2)), (0, ((n.toNat : Nat) : Int)), (2, 127)]) (g' := f2) rfl ?_
                    refine wp_cv (as := [(2, 127), (0, ((n.toNat : Nat) : Int)), (0, (((ka + kb) + 1) / 2)), (0, 0), (0, (((x.toNat + 1 : Nat) : Int) - 1)), (0, d)]) (rest := []) rfl rfl rfl (Nat.le_of_ble_eq_true rfl) rfl (m_isLikely2 (t := (n.toNat)) (u := 0) (v := (x.toNat + 1)) (by omega) (by omega) (by omega) (by omega) (by omega)) (by decide) (fun r14 h15 => ?_)
                    rcases h15 with ⟨g118, rfl, p118, hF118⟩ | ⟨g118, rfl, p118, hF118⟩
                    · refine wp_eq (L' := [(2, 127), (0, n), (0, x), (0, d), (0, w), (0, ka), (0, kb), (0, lo), (0, (((ka + kb) + 1) / 2))]) (st' := [(0, 1)]) (g' := g118) ?_
                      refine wp_n 5 (pc' := 93) (L' := [(2, 127), (0, n), (0, x), (0, d), (0, w), (0, (((ka + kb) + 1) / 2)), (0, kb), (0, lo), (0, (((ka + kb) + 1) / 2))]) (st' := []) (g' := g118) rfl ?_
                      refine wp_eq (ih93 ((((ka + kb) + 1) / 2)) (kb) (g118) ((0, (((ka + kb) + 1) / 2))) ?_ ?_ ?_ ?_ ?_) (by first | rfl | (simp; done) | (simp; omega)) (by rfl) (by rfl)
                      · omega
                      · omega
                      · first | exact hl | (refine Or.inr ?_; rw [Int.sub_add_cancel]; exact fun e => p118 ((gk_iff (by omega)).mpr e))
                      · first | exact hh | exact Or.inr ((gk_iff (by omega)).mp p118)
                      · exact hF.r hF118
                    · refine wp_eq (L' := [(2, 127), (0, n), (0, x), (0, d), (0, w), (0, ka), (0, kb), (0, lo), (0, (((ka + kb) + 1) / 2))]) (st' := [(0, 0)]) (g' := g118) ?_
                      refine wp_n 6 (pc' := 93) (L' := [(2, 127), (0, n), (0, x), (0, d), (0, w), (0, ka), (0, ((((ka + kb) + 1) / 2) - 1)), (0, lo), (0, (((ka + kb) + 1) / 2))]) (st' := []) (g' := g118) rfl ?_
                      refine wp_eq (ih93 (ka) (((((ka + kb) + 1) / 2) - 1)) (g118) ((0, (((ka + kb) + 1) / 2))) ?_ ?_ ?_ ?_ ?_) (by first | rfl | (simp; done) | (simp; omega)) (by rfl) (by rfl)
                      · omega
                      · omega
                      · first | exact hl | (refine Or.inr ?_; rw [Int.sub_add_cancel]; exact fun e => p118 ((gk_iff (by omega)).mpr e))
                      · first | exact hh | exact Or.inr ((gk_iff (by omega)).mp p118)
                      · exact hF.r hF118
              refine wp_eq (L93 (_ + 1) (0) (1000) (f) ((9, 0)) (Nat.lt_succ_self _) ?_ ?_ ?_ ?_) (by first | rfl | (simp; done) | (simp; omega)) (by rfl) (by rfl)
              · decide
              · exact Or.inl rfl
              · exact Or.inl rfl
              · exact hF
            · refine wp_n 4 (pc' := 49) (L' := [(2, 127), (0, n), (0, x), (0, d), (0, w), (0, lo), (0, hi), w7, (9, 0)]) (st' := [(0, 2), (0, (lo + hi))]) (g' := f) rfl ?_
              refine wp_idiv rfl (by omega) (by omega) (by omega) ?_
              refine wp_eq (L' := [(2, 127), (0, n), (0, x), (0, d), (0, w), (0, lo), (0, hi), w7, (9, 0)]) (st' := [(0, ((lo + hi) / 2))]) (g' := f) ?_ (by rfl) (by rw [Int.tdiv_eq_ediv_of_nonneg (show 0 ≤ lo + hi by omega)]) (by rfl)
              refine wp_n 3 (pc' := 54) (L' := [(2, 127), (0, n), (0, x), (0, d), (0, w), (0, lo), (0, hi), (0, ((lo + hi) / 2)), (9, 0)]) (st' := [(0, n), (2, 127)]) (g' := f) rfl ?_
              refine wp_eq (L' := [(2, 127), (0, n), (0, x), (0, d), (0, w), (0, lo), (0, hi), (0, ((lo + hi) / 2)), (9, 0)]) (st' := [(0, ((n.toNat : Nat) : Int)), (2, 127)]) (g' := f) ?_ (by rfl) (by rw [Int.toNat_of_nonneg (by omega)]) (by rfl)
              refine wp_n 2 (pc' := 57) (L' := [(2, 127), (0, n), (0, x), (0, d), (0, w), (0, lo), (0, hi), (0, ((lo + hi) / 2)), (9, 0)]) (st' := [(0, x), (0, ((lo + hi) / 2)), (0, ((n.toNat : Nat) : Int)), (2, 127)]) (g' := f) rfl ?_
              refine wp_eq (L' := [(2, 127), (0, n), (0, x), (0, d), (0, w), (0, lo), (0, hi), (0, ((lo + hi) / 2)), (9, 0)]) (st' := [(0, ((x.toNat : Nat) : Int)), (0, ((lo + hi) / 2)), (0, ((n.toNat : Nat) : Int)), (2, 127)]) (g' := f) ?_ (by rfl) (by rw [Int.toNat_of_nonneg (by omega)]) (by rfl)
              refine wp_n 1 (pc' := 58) (L' := [(2, 127), (0, n), (0, x), (0, d), (0, w), (0, lo), (0, hi), (0, ((lo + hi) / 2)), (9, 0)]) (st' := [(0, n), (0, ((x.toNat : Nat) : Int)), (0, ((lo + hi) / 2)), (0, ((n.toNat : Nat) : Int)), (2, 127)]) (g' := f) rfl ?_
              refine wp_eq (L' := [(2, 127), (0, n), (0, x), (0, d), (0, w), (0, lo), (0, hi), (0, ((lo + hi) / 2)), (9, 0)]) (st' := [(0, (((n.toNat + 1 : Nat) : Int) - 1)), (0, ((x.toNat : Nat) : Int)), (0, ((lo + hi) / 2)), (0, ((n.toNat : Nat) : Int)), (2, 127)]) (g' := f) ?_ (by rfl) (by rw [show (((n.toNat + 1 : Nat) : Int) - 1) = n by omega]) (by rfl)
              refine wp_n 1 (pc' := 59) (L' := [(2, 127), (0, n), (0, x), (0, d), (0, w), (0, lo), (0, hi), (0, ((lo + hi) / 2)), (9, 0)]) (st' := [(0, d), (0, (((n.toNat + 1 : Nat) : Int) - 1)), (0, ((x.toNat : Nat) : Int)), (0, ((lo + hi) / 2)), (0, ((n.toNat : Nat) : Int)), (2, 127)]) (g' := f) rfl ?_
              refine wp_cv (as := [(2, 127), (0, ((n.toNat : Nat) : Int)), (0, ((lo + hi) / 2)), (0, ((x.toNat : Nat) : Int)), (0, (((n.toNat + 1 : Nat) : Int) - 1)), (0, d)]) (rest := []) rfl rfl rfl (Nat.le_of_ble_eq_true rfl) rfl (m_isLikely2 (t := (n.toNat)) (u := x.toNat) (v := (n.toNat + 1)) (by omega) (by omega) (by omega) (by omega) (by omega)) (by decide) (fun r16 h17 => ?_)
              rcases h17 with ⟨g59, rfl, p59, hF59⟩ | ⟨g59, rfl, p59, hF59⟩
              · refine wp_eq (L' := [(2, 127), (0, n), (0, x), (0, d), (0, w), (0, lo), (0, hi), (0, ((lo + hi) / 2)), (9, 0)]) (st' := [(0, 1)]) (g' := g59) ?_
                refine wp_n 5 (pc' := 36) (L' := [(2, 127), (0, n), (0, x), (0, d), (0, w), (0, lo), (0, ((lo + hi) / 2)), (0, ((lo + hi) / 2)), (9, 0)]) (st' := []) (g' := g59) rfl ?_
                refine wp_eq (ih36 (lo) (((lo + hi) / 2)) (g59) ((0, ((lo + hi) / 2))) ?_ ?_ ?_ ?_ ?_) (by first | rfl | (simp; done) | (simp; omega)) (by rfl) (by rfl)
                · omega
                · omega
                · first | exact hl | (refine Or.inr ?_; rw [Int.add_sub_cancel]; exact p59)
                · first | exact hh | exact Or.inr p59
                · exact hF.r hF59
              · refine wp_eq (L' := [(2, 127), (0, n), (0, x), (0, d), (0, w), (0, lo), (0, hi), (0, ((lo + hi) / 2)), (9, 0)]) (st' := [(0, 0)]) (g' := g59) ?_
                refine wp_n 6 (pc' := 36) (L' := [(2, 127), (0, n), (0, x), (0, d), (0, w), (0, (((lo + hi) / 2) + 1)), (0, hi), (0, ((lo + hi) / 2)), (9, 0)]) (st' := []) (g' := g59) rfl ?_
                refine wp_eq (ih36 ((((lo + hi) / 2) + 1)) (hi) (g59) ((0, ((lo + hi) / 2))) ?_ ?_ ?_ ?_ ?_) (by first | rfl | (simp; done) | (simp; omega)) (by rfl) (by rfl)
                · omega
                · omega
                · first | exact hl | (refine Or.inr ?_; rw [Int.add_sub_cancel]; exact p59)
                · first | exact hh | exact Or.inr p59
                · exact hF.r hF59
        refine wp_eq (L36 (_ + 1) (0) (1000) (g) ((9, 0)) (Nat.lt_succ_self _) ?_ ?_ ?_ ?_) (by first | rfl | (simp; done) | (simp; omega)) (by rfl) (by rfl)
        · decide
        · exact Or.inl rfl
        · exact Or.inl (by decide)
        · exact FrN.rfl
      · refine wp_eq (L' := [(2, 127), (0, n), (0, x), (0, d), (0, w), (9, 0), (9, 0), (9, 0), (9, 0)]) (st' := [(0, 0)]) (g' := g) ?_
        refine wp_n 2 (pc' := 27) (L' := [(2, 127), (0, n), (0, x), (0, d), (0, w), (9, 0), (9, 0), (9, 0), (9, 0)]) (st' := [(0, (-1))]) (g' := g) rfl ?_
        first
        | exact wp_ret rfl rfl rfl ⟨_, _, rfl, Or.inl ⟨by unfold SnD; omega, rfl⟩, FrN.rfl⟩
        | (exfalso; have := span_ne (by omega) (by omega) (by omega) hI1 hI2; omega)
        | exact wp_ret rfl rfl rfl ⟨_, _, rfl, Or.inr (Or.inl ⟨by unfold SnD; omega, by omega, hI1⟩), hF⟩
        | exact wp_ret rfl rfl rfl ⟨_, _, rfl, Or.inr (Or.inr ⟨by unfold SnD; omega, by omega, hI2⟩), hF⟩
    · refine wp_eq (L' := [(2, 127), (0, n), (0, x), (0, d), (0, w), (9, 0), (9, 0), (9, 0), (9, 0)]) (st' := [(0, 0)]) (g' := g) ?_
      refine wp_n 2 (pc' := 27) (L' := [(2, 127), (0, n), (0, x), (0, d), (0, w), (9, 0), (9, 0), (9, 0), (9, 0)]) (st' := [(0, (-1))]) (g' := g) rfl ?_
      first
      | exact wp_ret rfl rfl rfl ⟨_, _, rfl, Or.inl ⟨by unfold SnD; omega, rfl⟩, FrN.rfl⟩
      | (exfalso; have := span_ne (by omega) (by omega) (by omega) hI1 hI2; omega)
      | exact wp_ret rfl rfl rfl ⟨_, _, rfl, Or.inr (Or.inl ⟨by unfold SnD; omega, by omega, hI1⟩), hF⟩
      | exact wp_ret rfl rfl rfl ⟨_, _, rfl, Or.inr (Or.inr ⟨by unfold SnD; omega, by omega, hI2⟩), hF⟩
  · refine wp_eq (L' := [(2, 127), (0, n), (0, x), (0, d), (0, w), (9, 0), (9, 0), (9, 0), (9, 0)]) (st' := [(0, 0)]) (g' := g) ?_
    refine wp_n 2 (pc' := 27) (L' := [(2, 127), (0, n), (0, x), (0, d), (0, w), (9, 0), (9, 0), (9, 0), (9, 0)]) (st' := [(0, (-1))]) (g' := g) rfl ?_
    first
    | exact wp_ret rfl rfl rfl ⟨_, _, rfl, Or.inl ⟨by unfold SnD; omega, rfl⟩, FrN.rfl⟩
    | (exfalso; have := span_ne (by omega) (by omega) (by omega) hI1 hI2; omega)
    | exact wp_ret rfl rfl rfl ⟨_, _, rfl, Or.inr (Or.inl ⟨by unfold SnD; omega, by omega, hI1⟩), hF⟩
    | exact wp_ret rfl rfl rfl ⟨_, _, rfl, Or.inr (Or.inr ⟨by unfold SnD; omega, by omega, hI2⟩), hF⟩
theorem C_span {sn : Nat} {sx : Nat → Int} {b : Nat} {g : am_G} {P : Nat} {n x d w : Int} (h_n : R32 n) (h_x : R32 x) (h_d : R32 d) (h_w : R32 w) (hI : CInv P g) : Ev sn sx 6 117 [(2, 0), (0, n), (0, x), (0, d), (0, w)] (SH b) g (CPost P g (fun c1 v1 => SnA n x d w v1 ∧ CoE g c1)) := (e_span h_n h_x h_d h_w hI).mono fun r hh => cpost_k (A := SnA n x d w) hI hh
theorem M_span {sn : Nat} {sx : Nat → Int} {b : Nat} {g c : am_G} {P : Nat} {n x d w : Int} (h_n : R32 n) (h_x : R32 x) (h_d : R32 d) (h_w : R32 w) (hI : CInv P c) (hM : MRel c g) : Ev sn sx 5 222 [(2, 127), (0, n), (0, x), (0, d), (0, w)] (SH b) g (MPost b g (fun c1 v1 => SnA n x d w v1 ∧ CoE c c1)) := (m_span h_n h_x h_d h_w hI hM).mono fun r hh => mpost_n (A := SnA n x d w) hM (fun _ _ => SnA.uniq) hh
