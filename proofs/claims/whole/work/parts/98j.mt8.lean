/-! THE REFERENCE: text -/
set_option maxHeartbeats 400000 in
set_option maxRecDepth 20000 in
theorem m_text {sn : Nat} {sx : Nat → Int} {b : Nat} {g : am_G} {T : Nat → Int} {L t p9 F9 f q : Nat} {cs : List (Nat × List Int × Nat)} (hR : RdM T L g) (ht : g 128 0 = (t : Int)) (ht7 : t ≤ 6) (hE : t < 6 → TrN T L (sk T L 0) 0 cs p9 F9 ∧ ((tK T L p9 = -1 ∧ f = 0) ∨ ((1 ≤ f ∧ f ≤ 5) ∧ PClF T L p9 (fun c => fnd cs 0 c ≠ none) f q))) (hf5 : f ≤ 5) : Ev sn sx 9 186 [(2, 127)] (SH b) g (fun r => (t = 6 ∧ r = (some (0, -1), SH b, g)) ∨ (∃ g15 g', t < 6 ∧ FrRx t g g15 ∧ f = 0 ∧ (∀ k, k < 4 → ClMm t g15 k (fnd cs 0 k)) ∧ r = (some (0, (t : Int)), SH b, g') ∧ g' = am_up (am_up (am_up (am_up g15 127 7 0) 127 8 (-1)) 127 5 0) 128 0 ((t : Int) + 1)) ∨ (∃ g15 g', t < 6 ∧ FrRx t g g15 ∧ f ≠ 0 ∧ r = (some (0, -1), SH b, g') ∧ g' = am_up (am_up (am_up g15 127 7 (f : Int)) 127 8 (q : Int)) 127 5 0)) := by
  refine ev_of (K := 8) T186 (by decide) rfl rfl (Nat.le_of_ble_eq_true rfl) ?_
  refine wp_eq (L' := [(2, 127)]) (st' := []) (g' := g) ?_
  refine wp_n 3 (pc' := 5) (L' := [(2, 127)]) (st' := [(0, 0), (2, 128)]) (g' := g) rfl ?_
  refine wp_iald (k := 128) (0) rfl rfl (by omega) (by omega) (by decide) ?_
  refine wp_eq (L' := [(2, 127)]) (st' := [(0, ((t : Nat) : Int))]) (g' := g) ?_ (by rfl) (by rw [ht]) (by rfl)
  refine wp_n 1 (pc' := 8) (L' := [(2, 127)]) (st' := [(0, 6), (0, ((t : Nat) : Int))]) (g' := g) rfl ?_
  refine wp_ic_ne rfl (fun c1 => ?_) (fun c1 => ?_)
  · have ht6 : t < 6 := by omega
    refine wp_n 2 (pc' := 15) (L' := [(2, 127)]) (st' := [(2, 127), (2, 127)]) (g' := g) rfl ?_
    refine wp_cv (as := [(2, 127)]) (rest := [(2, 127)]) rfl rfl rfl (Nat.le_of_ble_eq_true rfl) rfl (m_readText hR ht ht6 (hE ht6).1 (hE ht6).2) (by decide) (fun r2 h3 => ?_)
    obtain ⟨g15, rfl, hF15, hq15, hr15⟩ := h3
    refine wp_eq (L' := [(2, 127)]) (st' := [(0, ((f : Nat) : Int)), (2, 127)]) (g' := g15) ?_
    refine wp_n 4 (pc' := 26) (L' := [(2, 127)]) (st' := [(0, ((f : Nat) : Int)), (2, 127)]) (g' := (am_up g15 127 7 ((f : Nat) : Int))) rfl ?_
    refine wp_if_ne rfl (fun c4 => ?_) (fun c4 => ?_)
    · have hf1 : f ≠ 0 := by omega
      refine wp_n 2 (pc' := 37) (L' := [(2, 127)]) (st' := [(0, (g15 127 10)), (2, 127)]) (g' := (am_up g15 127 7 ((f : Nat) : Int))) rfl ?_
      refine wp_eq (L' := [(2, 127)]) (st' := [(0, ((q : Nat) : Int)), (2, 127)]) (g' := (am_up g15 127 7 ((f : Nat) : Int))) ?_ (by rfl) (by first | rw [hq15 hf1] | rw [up_nj (by decide), hq15 hf1]) (by rfl)
      refine wp_n 6 (pc' := 49) (L' := [(2, 127)]) (st' := [(0, ((f : Nat) : Int))]) (g' := (am_up (am_up (am_up g15 127 7 ((f : Nat) : Int)) 127 8 ((q : Nat) : Int)) 127 5 0)) rfl ?_
      refine wp_if_eq rfl (fun c5 => ?_) (fun c5 => ?_)
      · exfalso; omega
      · refine wp_n 1 (pc' := 53) (L' := [(2, 127)]) (st' := [(0, (-1))]) (g' := (am_up (am_up (am_up g15 127 7 ((f : Nat) : Int)) 127 8 ((q : Nat) : Int)) 127 5 0)) rfl ?_
        exact wp_ret rfl rfl rfl (Or.inr (Or.inr ⟨g15, _, ht6, hF15, hf1, rfl, rfl⟩))
    · have hf0 : f = 0 := by omega
      refine wp_n 8 (pc' := 49) (L' := [(2, 127)]) (st' := [(0, ((f : Nat) : Int))]) (g' := (am_up (am_up (am_up g15 127 7 ((f : Nat) : Int)) 127 8 (-1)) 127 5 0)) rfl ?_
      refine wp_if_eq rfl (fun c6 => ?_) (fun c6 => ?_)
      · refine wp_n 4 (pc' := 60) (L' := [(2, 127)]) (st' := [(0, 0), (2, 128), (0, 0), (2, 128)]) (g' := (am_up (am_up (am_up g15 127 7 ((f : Nat) : Int)) 127 8 (-1)) 127 5 0)) rfl ?_
        refine wp_iald (k := 128) (0) rfl rfl (by omega) (by omega) (by decide) ?_
        refine wp_eq (L' := [(2, 127)]) (st' := [(0, ((t : Nat) : Int)), (0, 0), (2, 128)]) (g' := (am_up (am_up (am_up g15 127 7 ((f : Nat) : Int)) 127 8 (-1)) 127 5 0)) ?_ (by rfl) (by first | rw [hF15 128 0 (by omega) (by omega) (by omega), ht] | rw [up_ne (by decide), up_ne (by decide), up_ne (by decide), hF15 128 0 (by omega) (by omega) (by omega), ht]) (by rfl)
        refine wp_n 2 (pc' := 63) (L' := [(2, 127)]) (st' := [(0, (((t : Nat) : Int) + 1)), (0, 0), (2, 128)]) (g' := (am_up (am_up (am_up g15 127 7 ((f : Nat) : Int)) 127 8 (-1)) 127 5 0)) rfl ?_
        refine wp_iast (k := 128) (0) rfl rfl (by omega) (by omega) (by decide) ?_
        refine wp_n 3 (pc' := 69) (L' := [(2, 127)]) (st' := [(0, 0), (2, 128)]) (g' := (am_up (am_up (am_up (am_up g15 127 7 ((f : Nat) : Int)) 127 8 (-1)) 127 5 0) 128 0 (((t : Nat) : Int) + 1))) rfl ?_
        refine wp_iald (k := 128) (0) rfl rfl (by omega) (by omega) (by decide) ?_
        refine wp_eq (L' := [(2, 127)]) (st' := [(0, ((t : Int) + 1))]) (g' := (am_up (am_up (am_up (am_up g15 127 7 ((f : Nat) : Int)) 127 8 (-1)) 127 5 0) 128 0 (((t : Nat) : Int) + 1))) ?_ (by rfl) (by first | rfl | rw [up_eq]) (by rfl)
        refine wp_n 2 (pc' := 72) (L' := [(2, 127)]) (st' := [(0, (((t : Int) + 1) - 1))]) (g' := (am_up (am_up (am_up (am_up g15 127 7 ((f : Nat) : Int)) 127 8 (-1)) 127 5 0) 128 0 (((t : Nat) : Int) + 1))) rfl ?_
        exact wp_ret rfl rfl rfl (by rw [show ((t : Nat) : Int) + 1 - 1 = (t : Int) by omega]; exact Or.inr (Or.inl ⟨g15, _, ht6, hF15, hf0, hr15 hf0, rfl, by rw [hf0]; rfl⟩))
      · exfalso; omega
  · refine wp_n 1 (pc' := 12) (L' := [(2, 127)]) (st' := [(0, (-1))]) (g' := g) rfl ?_
    exact wp_ret rfl rfl rfl (Or.inl ⟨by omega, rfl⟩)
theorem cpC_n7 (i : Nat) : cpC i = 99 ∨ cpC i ≤ 6 ∨ 10 ≤ cpC i := by
  rcases (show (0 ≤ i ∧ i < 1) ∨ (1 ≤ i ∧ i < 2) ∨ (2 ≤ i ∧ i < 3) ∨ (3 ≤ i ∧ i < 4) ∨ (4 ≤ i ∧ i < 5) ∨ (5 ≤ i ∧ i < 6) ∨ (6 ≤ i ∧ i < 11) ∨ (11 ≤ i ∧ i < 20) ∨ (20 ≤ i ∧ i < 168) ∨ (168 ≤ i ∧ i < 170) ∨ (170 ≤ i ∧ i < 318) ∨ (318 ≤ i ∧ i < 320) ∨ (320 ≤ i ∧ i < 448) ∨ (448 ≤ i ∧ i < 450) ∨ (450 ≤ i ∧ i < 454) ∨ (454 ≤ i ∧ i < 455) ∨ (455 ≤ i ∧ i < 459) ∨ (459 ≤ i ∧ i < 460) ∨ (460 ≤ i ∧ i < 580) ∨ (580 ≤ i ∧ i < 1380) ∨ (1380 ≤ i ∧ i < 1392) ∨ (1392 ≤ i ∧ i < 1400) ∨ (1400 ≤ i ∧ i < 1580) ∨ (1580 ≤ i ∧ i < 1620) ∨ 1620 ≤ i by omega) with ⟨q1, q2⟩ | ⟨q1, q2⟩ | ⟨q1, q2⟩ | ⟨q1, q2⟩ | ⟨q1, q2⟩ | ⟨q1, q2⟩ | ⟨q1, q2⟩ | ⟨q1, q2⟩ | ⟨q1, q2⟩ | ⟨q1, q2⟩ | ⟨q1, q2⟩ | ⟨q1, q2⟩ | ⟨q1, q2⟩ | ⟨q1, q2⟩ | ⟨q1, q2⟩ | ⟨q1, q2⟩ | ⟨q1, q2⟩ | ⟨q1, q2⟩ | ⟨q1, q2⟩ | ⟨q1, q2⟩ | ⟨q1, q2⟩ | ⟨q1, q2⟩ | ⟨q1, q2⟩ | ⟨q1, q2⟩ | q1
  · rw [cp_i0 i q2]; omega
  · rw [cp_i1 i q1 q2]; omega
  · rw [cp_i2 i q1 q2]; omega
  · rw [cp_i3 i q1 q2]; omega
  · rw [cp_i4 i q1 q2]; omega
  · rw [cp_i5 i q1 q2]; omega
  · rw [cp_late i q1 q2]; omega
  · rw [cp_x1 i q1 q2]; omega
  · rw [cp_hold i q1 q2]; omega
  · rw [cp_x2 i q1 q2]; omega
  · rw [cp_lean i q1 q2]; omega
  · rw [cp_x3 i q1 q2]; omega
  · rw [cp_skip i q1 q2]; omega
  · rw [cp_x4 i q1 q2]; omega
  · rw [cp_tilt i q1 q2]; omega
  · rw [cp_x5 i q1 q2]; omega
  · rw [cp_many i q1 q2]; omega
  · rw [cp_x6 i q1 q2]; omega
  · rw [cp_start i q1 q2]; omega
  · rw [cp_wr i q1 q2]; omega
  · rw [cp_scr i q1 q2]; omega
  · rw [cp_x7 i q1 q2]; omega
  · rw [cp_bet i q1 q2]; omega
  · rw [cp_see i q1 q2]; omega
  · rw [cp_x8 i q1]; omega
theorem rel_tx {c c1 g g2 : am_G} {x : Int} (h : Rel 128 0 c g) (h0 : g2 128 0 = x) (hg : ∀ j, j ≠ 0 → g2 128 j = g 128 j) (hx : c1 6 3 = x) (hc : ∀ a j, (a ≠ 6 ∨ j ≠ 3) → a < 7 ∨ (9 < a ∧ a < 47) → c1 a j = c a j) : Rel 128 0 c1 g2 := by
  intro i hi h9
  have hr := cpC_in i h9
  have h7 := (cpC_n7 i).resolve_left h9
  by_cases e : i = 0
  · subst e
    have e1 : cpC (0) = 6 := (cp_i0 (0) (by omega)).trans (by omega)
    have e2 : cpJ (0) = 3 := (cj_i0 (0) (by omega)).trans (by omega)
    rw [e1, e2, h0]
    exact hx.symm
  · rw [hg i e, h i hi h9]
    refine (hc _ _ ?_ (by omega)).symm
    by_cases q : cpC i = 6 ∧ cpJ i = 3
    · exfalso
      have h8 := pc_cp i h9
      rw [q.1, q.2] at h8
      exact e (h8.symm.trans rfl)
    · omega
theorem trc_same {c c1 g g2 : am_G} {t t' k : Nat} (h : TRc c g t' k) (ht : t' < t) (hk : k < 4) (hc : ∀ a j, (a = 7 ∧ j < 300 * t) ∨ ((a = 8 ∨ a = 9) ∧ j < 4 * t) → c1 a j = c a j) (hg : ∀ j, j < 800 * t → g2 130 j = g 130 j) : TRc c1 g2 t' k := by
  rcases h with ⟨h1, h2⟩ | ⟨a, n, h1, h2, h3, h4, h5, h6, h7⟩
  · exact Or.inl ⟨(hc 8 _ (by omega)).trans h1, by rw [hg _ (by omega), hg _ (by omega)]; exact h2⟩
  · exact Or.inr ⟨a, n, (hc 8 _ (by omega)).trans h1, (hc 9 _ (by omega)).trans h2, h3, h4, (hg _ (by omega)).trans h5, (hg _ (by omega)).trans h6, fun i hi => by rw [hc 7 _ (by omega), hg _ (by omega), hg _ (by omega)]; exact h7 i hi⟩
theorem trc_new {c1 g2 : am_G} {t k : Nat} {x : Option (Nat × List Int)} (h1 : Cls t c1 k x) (h2 : ClMm t g2 k x) : TRc c1 g2 t k := by
  cases x with
  | none => exact Or.inl ⟨h1, h2.1.trans h2.2.symm⟩
  | some y =>
    have hl := h1.2.2.2.2
    refine Or.inr ⟨300 * t + y.1, y.2.length, h1.1, h1.2.1, by omega, by omega, ?_, ?_, fun i hi => ?_⟩
    · rw [show 300 * t + y.1 - 300 * t = y.1 by omega]; exact h2.1
    · rw [show 300 * t + y.1 - 300 * t + y.2.length = y.1 + y.2.length by omega]; exact h2.2.1
    · rw [show 300 * t + y.1 - 300 * t + i = y.1 + i by omega, h1.2.2.1 i hi]
      exact h2.2.2 i hi
theorem ClMm.same {t k : Nat} {g h : am_G} {x : Option (Nat × List Int)} (hc : ClMm t g k x) (hF : ∀ j, h 130 j = g 130 j) : ClMm t h k x := by
  cases x with
  | none => exact ⟨(hF _).trans hc.1, (hF _).trans hc.2⟩
  | some y => exact ⟨(hF _).trans hc.1, (hF _).trans hc.2.1, hc.2.2.same fun j _ _ => hF j⟩
theorem mrel_tx {c c1 g g2 : am_G} {t : Nat} (hM : MRel c g) (ht6 : t < 6) (hF : ∀ a j, (a ≠ 47 ∨ j = 0) → (a ≠ 6 ∨ j ≠ 3) → (a ≠ 7 ∨ j < 300 * t) → ((a ≠ 8 ∧ a ≠ 9) ∨ j < 4 * t ∨ 4 * t + 4 ≤ j) → c1 a j = c a j) (hG : ∀ a j, (a ≠ 127 ∨ j < 5) → (a ≠ 128 ∨ j ≠ 0) → (a ≠ 130 ∨ j < 800 * t ∨ 800 * t + 800 ≤ j) → a ≠ 132 → g2 a j = g a j) (h0 : g2 128 0 = c1 6 3) (h5 : g2 127 5 = c1 47 1) (h7 : g2 127 7 = c1 47 2) (h8 : g2 127 8 = c1 47 3) (ht : ∀ t' : Nat, (t' : Int) < c1 6 3 → t' < t ∨ t' = t) (hc6 : c 6 3 = (t : Int)) (hnew : (t : Int) < c1 6 3 → ∀ k, k < 4 → TRc c1 g2 t k) : MRel c1 g2 := by
  obtain ⟨m1, m2, m3, m4, m5, m6, m7, m8⟩ := hM
  refine ⟨rel_tx m1 h0 (fun j hj => hG 128 j (by omega) (by omega) (by omega) (by omega)) rfl (fun a j q1 q2 => hF a j (by omega) q1 (by omega) (by omega)), ?_, ?_, h5, h7, h8, fun j hj => ?_, fun t' k h hk => ?_⟩
  · exact (m2.c_same fun k j q1 q2 => hF k j (by omega) (by omega) (by omega) (by omega)).g_same fun j => hG 129 j (by omega) (by omega) (by omega) (by omega)
  · rw [hG 127 0 (by omega) (by omega) (by omega) (by omega), hF 0 0 (by omega) (by omega) (by omega) (by omega)]; exact m3
  · rw [hG 131 j (by omega) (by omega) (by omega) (by omega), hF 48 j (by omega) (by omega) (by omega) (by omega)]; exact m7 j hj
  · rcases ht t' h with q | q
    · exact trc_same (m8 t' k (by omega) hk) q hk (fun a j hh => hF a j (by omega) (by omega) (by omega) (by omega)) (fun j hj => hG 130 j (by omega) (by omega) (by omega) (by omega))
    · subst q; exact hnew h k hk
theorem M_text {sn : Nat} {sx : Nat → Int} {b : Nat} {g c c1 : am_G} {P : Nat} {v1 : Int} (hI : CInv P c) (hM : MRel c g) (hE : TxE c c1 v1) : Ev sn sx 9 186 [(2, 127)] (SH b) g (fun r => ∃ g2, r = (some (0, v1), SH b, g2) ∧ (∀ a j, a ≤ 126 → g2 a j = g a j) ∧ MRel c1 g2) := by
  have hT := hI.rdt
  have hR : RdM (c 48) (c 47 1).toNat g := ⟨fun j hj => hM.2.2.2.2.2.2.1 j (by have := hT.2.2.1; omega), hM.2.2.2.1.trans hT.2.1, hT.2.2⟩
  have hx := hM.texts
  rcases hE with ⟨h1, rfl, rfl⟩ | ⟨t, ht, ht6, hF, hz, hd⟩
  · refine (m_text (t := 6) (p9 := 0) (F9 := 0) (f := 0) (q := 0) (cs := []) hR (hx.trans h1) (Nat.le_refl _) (fun h => absurd h (by decide)) (Nat.zero_le _)).mono fun r h => ?_
    rcases h with ⟨_, h⟩ | ⟨_, _, h, _⟩ | ⟨_, _, h, _⟩
    · exact ⟨g, h, fun _ _ _ => rfl, hM⟩
    · omega
    · omega
  · rcases hd with ⟨cs, p, F, hv, h6, h2, h3, hTr, hFp, hpL, hk, hC⟩ | ⟨cs, f, q, hv, h6, h2, hf, h3, p, F, hTr, hFp, hpL, hPF⟩
    · refine (m_text (t := t) (f := 0) (q := 0) hR (hx.trans ht) (by omega) (fun _ => ⟨hTr, Or.inl ⟨hk, rfl⟩⟩) (Nat.zero_le _)).mono fun r h => ?_
      rcases h with ⟨h, _⟩ | ⟨g15, g', _, hF15, _, hrw, hr, hg⟩ | ⟨_, _, _, _, h, _⟩
      · omega
      · have hG : ∀ a j, (a ≠ 127 ∨ j < 5) → (a ≠ 128 ∨ j ≠ 0) → (a ≠ 130 ∨ j < 800 * t ∨ 800 * t + 800 ≤ j) → a ≠ 132 → g' a j = g a j := fun a j q1 q2 q3 q4 => by
          rw [hg, up_no (by omega), up_no (by omega), up_no (by omega), up_no (by omega)]
          exact hF15 a j (by omega) q3 q4
        refine ⟨g', by rw [hr, hv], fun a j ha => hG a j (by omega) (by omega) (by omega) (by omega), mrel_tx hM ht6 hF hG ?_ ?_ ?_ ?_ (fun t' h => by omega) ht (fun _ k hk4 => ?_)⟩
        · rw [hg, up_eq, h6]
        · rw [hg, up_ne (by decide), up_eq, hz]
        · rw [hg, up_ne (by decide), up_nj (by decide), up_nj (by decide), up_eq, h2]
        · rw [hg, up_ne (by decide), up_nj (by decide), up_eq, h3]
        · exact trc_new (hC k hk4) ((hrw k hk4).same fun j => by rw [hg, up_ne (by decide), up_ne (by decide), up_ne (by decide), up_ne (by decide)])
      · omega
    · refine (m_text (t := t) (f := f) (q := q) hR (hx.trans ht) (by omega) (fun _ => ⟨hTr, Or.inr ⟨hf, hPF⟩⟩) hf.2).mono fun r h => ?_
      rcases h with ⟨h, _⟩ | ⟨_, _, _, _, h, _⟩ | ⟨g15, g', _, hF15, _, hr, hg⟩
      · omega
      · omega
      · have hG : ∀ a j, (a ≠ 127 ∨ j < 5) → (a ≠ 128 ∨ j ≠ 0) → (a ≠ 130 ∨ j < 800 * t ∨ 800 * t + 800 ≤ j) → a ≠ 132 → g' a j = g a j := fun a j q1 q2 q3 q4 => by
          rw [hg, up_no (by omega), up_no (by omega), up_no (by omega)]
          exact hF15 a j (by omega) q3 q4
        refine ⟨g', by rw [hr, hv], fun a j ha => hG a j (by omega) (by omega) (by omega) (by omega), mrel_tx hM ht6 hF hG ?_ ?_ ?_ ?_ (fun t' h => by omega) ht (fun h => by omega)⟩
        · rw [hg, up_ne (by decide), up_ne (by decide), up_ne (by decide), hF15 128 0 (by omega) (by omega) (by omega), hx, ht, h6]
        · rw [hg, up_eq, hz]
        · rw [hg, up_nj (by decide), up_nj (by decide), up_eq, h2]
        · rw [hg, up_nj (by decide), up_eq, h3]
