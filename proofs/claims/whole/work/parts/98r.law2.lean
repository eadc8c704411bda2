/-! THE LAW: one call of each side, and each of its ways -/
theorem CInv.le {P : Nat} {g g' : am_G} (h : CInv P g) (k : ∀ c j, c ≤ 126 → g' c j = g c j) : CInv P g' := ⟨h.ck.same fun c j q => k c j (by omega), h.rg.same fun c j a b => k c j (by omega), h.rgi.same fun c j a b => k c j (by omega), h.e24.same fun c j q => k c j (by omega), h.e24i.same fun c j q => k c j (by omega), h.tx.same fun c j a b => k c j (by omega), h.txi.same fun c j a b => k c j (by omega), h.ti.same fun c j q => k c j (by omega), h.tap.same fun c j q => k c j (by omega), h.cls.same fun c j a b => k c j (by omega), h.wls.same fun c j a b => k c j (by omega), h.caw.same fun c j q => k c j (by omega), h.cal.same fun c j q => k c j (by omega)⟩
theorem MRel.hi {c g g' : am_G} (h : MRel c g) (k : ∀ a j, 126 < a → g' a j = g a j) : MRel c g' := by
  obtain ⟨h1, h2, h3, h4, h5, h6, h7, h8⟩ := h
  refine ⟨h1.g_same fun j => k 128 j (by omega), h2.g_same fun j => k 129 j (by omega), ?_, ?_, ?_, ?_, fun j hj => ?_, h8.g_same fun j => k 130 j (by omega)⟩
  · rw [k 127 0 (by omega)]; exact h3
  · rw [k 127 5 (by omega)]; exact h4
  · rw [k 127 7 (by omega)]; exact h5
  · rw [k 127 8 (by omega)]; exact h6
  · rw [k 131 j (by omega)]; exact h7 j hj
theorem law_behind {P : Nat} {c1 g2 : am_G} (hI : CInv P c1) (hF : ∀ c j, c ≤ 126 → g2 c j = c1 c j) (hM : MRel c1 g2) : CInv P g2 ∧ MRel g2 g2 := ⟨hI.le hF, hM.c_same fun k j a => hF k j (by unfold Co at a; omega)⟩
theorem law_pair {P : Nat} {g : am_G} {E : am_G → Int → Prop} {r : am_R} (hM : MRel g g) (hC : CPost P g E r) : ∃ g1 v b1, r = (some (0, v), SH b1, g1) ∧ MRel g g1 ∧ ∀ r2, MPost b1 g1 E r2 → ∃ g2, r2 = (some (0, v), SH b1, g2) ∧ CInv P g2 ∧ MRel g2 g2 := by
  obtain ⟨g1, v, b1, h1, h2, h3, h4⟩ := hC
  refine ⟨g1, v, b1, h1, hM.hi h3, fun r2 h5 => ?_⟩
  obtain ⟨g2, v2, h6, h7, h8⟩ := h5
  obtain ⟨h9, h10⟩ := h8 g1 v h4
  subst h9
  exact ⟨g2, h6, law_behind h2 h7 h10⟩
theorem am_stps_sub {sn : Nat} {sx : Nat → Int} {T T' : List (Nat × am_E)} (hT : ∀ pc e, am_fd T' pc = some e → am_fd T pc = some e) : ∀ (k : Nat) (s s' : am_St), am_stps sn sx T' k s = some s' → am_stps sn sx T k s = some s' := by
  intro k
  induction k with
  | zero => intro s s' h; exact h
  | succ k ih =>
    intro s s' h
    unfold am_stps at h ⊢
    obtain ⟨e, h1, h2⟩ := Option.bind_eq_some_iff.mp h
    refine Option.bind_eq_some_iff.mpr ⟨e, hT _ _ h1, ?_⟩
    split at h2
    case isFalse => cases h2
    rename_i hk
    rw [if_pos hk]
    obtain ⟨s1, h3, h4⟩ := Option.bind_eq_some_iff.mp h2
    exact Option.bind_eq_some_iff.mpr ⟨s1, h3, ih _ _ h4⟩
theorem wp_nT {sn : Nat} {sx : Nat → Int} {K : Nat} {T T' : List (Nat × am_E)} {pc : Nat} {L st : List am_V} {sh : am_Sh} {g : am_G} {Q : am_R → Prop} (hT : ∀ pc e, am_fd T' pc = some e → am_fd T pc = some e) (k : Nat) {pc' : Nat} {L' st' : List am_V} {g' : am_G} (h : am_stps sn sx T' k (pc, L, st, sh, g) = some (pc', L', st', sh, g')) (kk : Wp sn sx K T pc' L' st' sh g' Q) : Wp sn sx K T pc L st sh g Q := wp_n k (am_stps_sub hT k _ _ h) kk
theorem tl_of {T T' : List (Nat × am_E)} (h : ∀ x ∈ T', am_fd T x.1 = some x.2) : ∀ pc e, am_fd T' pc = some e → am_fd T pc = some e := fun pc e h1 => h (pc, e) (am_fd_mem h1)
section
variable {sn : Nat} {sx : Nat → Int} {P b k : Nat} {z : Int} {g : am_G} {Q : am_R → Prop}
def TLw0 : List (Nat × am_E) := [(196, .aload_n 1, 1, 0, 0), (197, .aload_n 0, 1, 0, 0), (198, .iload_n 3, 1, 0, 0), (199, .iconst 1, 1, 0, 0), (200, .iadd, 1, 0, 0), (201, .iaload, 1, 0, 0), (202, .aload_n 0, 1, 0, 0), (203, .iload_n 3, 1, 0, 0), (204, .iconst 2, 1, 0, 0), (205, .iadd, 1, 0, 0), (206, .iaload, 1, 0, 0), (207, .aload_n 0, 1, 0, 0), (208, .iload_n 3, 1, 0, 0), (209, .iconst 3, 1, 0, 0), (210, .iadd, 1, 0, 0), (211, .iaload, 1, 0, 0), (212, .aload_n 0, 1, 0, 0), (213, .iload_n 3, 1, 0, 0), (214, .iconst 4, 1, 0, 0), (215, .iadd, 1, 0, 0), (216, .iaload, 1, 0, 0), (217, .invokevirtual 21, 3, 96, 4), (220, .aload_n 2, 1, 0, 0), (221, .aload_n 0, 1, 0, 0), (222, .iload_n 3, 1, 0, 0), (223, .iconst 1, 1, 0, 0), (224, .iadd, 1, 0, 0), (225, .iaload, 1, 0, 0), (226, .aload_n 0, 1, 0, 0), (227, .iload_n 3, 1, 0, 0), (228, .iconst 2, 1, 0, 0), (229, .iadd, 1, 0, 0), (230, .iaload, 1, 0, 0), (231, .aload_n 0, 1, 0, 0), (232, .iload_n 3, 1, 0, 0), (233, .iconst 3, 1, 0, 0), (234, .iadd, 1, 0, 0), (235, .iaload, 1, 0, 0), (236, .aload_n 0, 1, 0, 0), (237, .iload_n 3, 1, 0, 0), (238, .iconst 4, 1, 0, 0), (239, .iadd, 1, 0, 0), (240, .iaload, 1, 0, 0), (241, .invokevirtual 25, 3, 155, 4), (244, .if_icmp .eq 1491, 3, 1735, 0), (247, .iconst 0, 1, 0, 0), (248, .ireturn, 1, 1, 0)]
theorem hTLw0 : ∀ pc e, am_fd TLw0 pc = some e → am_fd TL pc = some e := tl_of (by decide +kernel)
theorem law_w0 (hs : sn ≤ 3585) (hx : ∀ j, R32 (sx j)) (hk : k + 7 ≤ sn) (hI : CInv P g) (hM : MRel g g) (kk : ∀ b2 g2, CInv P g2 → MRel g2 g2 → Wp sn sx 80 TL 1735 [(5, z), (2, 0), (2, 127), (0, ((k : Nat) : Int))] [] (SH b2) g2 Q) : Wp sn sx 80 TL 196 [(5, z), (2, 0), (2, 127), (0, ((k : Nat) : Int))] [] (SH b) g Q := by
  refine wp_nT hTLw0 5 (pc' := 201) (L' := [(5, z), (2, 0), (2, 127), (0, ((k : Nat) : Int))]) (st' := [(0, ((k : Nat) : Int) + 1), (5, z), (2, 0)]) (g' := g) rfl ?_
  refine wp_sald (k + 1) (hTLw0 _ _ rfl) (by omega) (by omega) (by omega) ?_
  refine wp_nT hTLw0 4 (pc' := 206) (L' := [(5, z), (2, 0), (2, 127), (0, ((k : Nat) : Int))]) (st' := [(0, ((k : Nat) : Int) + 2), (5, z), (0, sx (k + 1)), (2, 0)]) (g' := g) rfl ?_
  refine wp_sald (k + 2) (hTLw0 _ _ rfl) (by omega) (by omega) (by omega) ?_
  refine wp_nT hTLw0 4 (pc' := 211) (L' := [(5, z), (2, 0), (2, 127), (0, ((k : Nat) : Int))]) (st' := [(0, ((k : Nat) : Int) + 3), (5, z), (0, sx (k + 2)), (0, sx (k + 1)), (2, 0)]) (g' := g) rfl ?_
  refine wp_sald (k + 3) (hTLw0 _ _ rfl) (by omega) (by omega) (by omega) ?_
  refine wp_nT hTLw0 4 (pc' := 216) (L' := [(5, z), (2, 0), (2, 127), (0, ((k : Nat) : Int))]) (st' := [(0, ((k : Nat) : Int) + 4), (5, z), (0, sx (k + 3)), (0, sx (k + 2)), (0, sx (k + 1)), (2, 0)]) (g' := g) rfl ?_
  refine wp_sald (k + 4) (hTLw0 _ _ rfl) (by omega) (by omega) (by omega) ?_
  refine wp_cv (as := [(2, 0), (0, sx (k + 1)), (0, sx (k + 2)), (0, sx (k + 3)), (0, sx (k + 4))]) (rest := []) (hTLw0 _ _ rfl) rfl rfl (Nat.le_of_ble_eq_true rfl) rfl (C_pocket (hx _) (hx _) (hx _) (hx _) hI) (by decide) (fun r1 hr1 => ?_)
  obtain ⟨g1, v, b1, rfl, hM1, h2⟩ := law_pair hM hr1
  refine wp_nT hTLw0 5 (pc' := 225) (L' := [(5, z), (2, 0), (2, 127), (0, ((k : Nat) : Int))]) (st' := [(0, ((k : Nat) : Int) + 1), (5, z), (2, 127), (0, v)]) (g' := g1) rfl ?_
  refine wp_sald (k + 1) (hTLw0 _ _ rfl) (by omega) (by omega) (by omega) ?_
  refine wp_nT hTLw0 4 (pc' := 230) (L' := [(5, z), (2, 0), (2, 127), (0, ((k : Nat) : Int))]) (st' := [(0, ((k : Nat) : Int) + 2), (5, z), (0, sx (k + 1)), (2, 127), (0, v)]) (g' := g1) rfl ?_
  refine wp_sald (k + 2) (hTLw0 _ _ rfl) (by omega) (by omega) (by omega) ?_
  refine wp_nT hTLw0 4 (pc' := 235) (L' := [(5, z), (2, 0), (2, 127), (0, ((k : Nat) : Int))]) (st' := [(0, ((k : Nat) : Int) + 3), (5, z), (0, sx (k + 2)), (0, sx (k + 1)), (2, 127), (0, v)]) (g' := g1) rfl ?_
  refine wp_sald (k + 3) (hTLw0 _ _ rfl) (by omega) (by omega) (by omega) ?_
  refine wp_nT hTLw0 4 (pc' := 240) (L' := [(5, z), (2, 0), (2, 127), (0, ((k : Nat) : Int))]) (st' := [(0, ((k : Nat) : Int) + 4), (5, z), (0, sx (k + 3)), (0, sx (k + 2)), (0, sx (k + 1)), (2, 127), (0, v)]) (g' := g1) rfl ?_
  refine wp_sald (k + 4) (hTLw0 _ _ rfl) (by omega) (by omega) (by omega) ?_
  refine wp_cv (as := [(2, 127), (0, sx (k + 1)), (0, sx (k + 2)), (0, sx (k + 3)), (0, sx (k + 4))]) (rest := [(0, v)]) (hTLw0 _ _ rfl) rfl rfl (Nat.le_of_ble_eq_true rfl) rfl (M_pocket (hx _) (hx _) (hx _) (hx _) hI hM1) (by decide) (fun r2 hr2 => ?_)
  obtain ⟨g2, rfl, hI2, hM2⟩ := h2 _ hr2
  exact wp_ic_eq (hTLw0 _ _ rfl) (fun _ => kk b1 g2 hI2 hM2) (fun c => absurd rfl c)
def TLw1 : List (Nat × am_E) := [(249, .aload_n 1, 1, 0, 0), (250, .aload_n 0, 1, 0, 0), (251, .iload_n 3, 1, 0, 0), (252, .iconst 1, 1, 0, 0), (253, .iadd, 1, 0, 0), (254, .iaload, 1, 0, 0), (255, .aload_n 0, 1, 0, 0), (256, .iload_n 3, 1, 0, 0), (257, .iconst 2, 1, 0, 0), (258, .iadd, 1, 0, 0), (259, .iaload, 1, 0, 0), (260, .aload_n 0, 1, 0, 0), (261, .iload_n 3, 1, 0, 0), (262, .iconst 3, 1, 0, 0), (263, .iadd, 1, 0, 0), (264, .iaload, 1, 0, 0), (265, .aload_n 0, 1, 0, 0), (266, .iload_n 3, 1, 0, 0), (267, .iconst 4, 1, 0, 0), (268, .iadd, 1, 0, 0), (269, .iaload, 1, 0, 0), (270, .aload_n 0, 1, 0, 0), (271, .iload_n 3, 1, 0, 0), (272, .iconst 5, 1, 0, 0), (273, .iadd, 1, 0, 0), (274, .iaload, 1, 0, 0), (275, .aload_n 0, 1, 0, 0), (276, .iload_n 3, 1, 0, 0), (277, .bipush 6, 2, 0, 0), (279, .iadd, 1, 0, 0), (280, .iaload, 1, 0, 0), (281, .invokevirtual 26, 3, 97, 6), (284, .aload_n 2, 1, 0, 0), (285, .aload_n 0, 1, 0, 0), (286, .iload_n 3, 1, 0, 0), (287, .iconst 1, 1, 0, 0), (288, .iadd, 1, 0, 0), (289, .iaload, 1, 0, 0), (290, .aload_n 0, 1, 0, 0), (291, .iload_n 3, 1, 0, 0), (292, .iconst 2, 1, 0, 0), (293, .iadd, 1, 0, 0), (294, .iaload, 1, 0, 0), (295, .aload_n 0, 1, 0, 0), (296, .iload_n 3, 1, 0, 0), (297, .iconst 3, 1, 0, 0), (298, .iadd, 1, 0, 0), (299, .iaload, 1, 0, 0), (300, .aload_n 0, 1, 0, 0), (301, .iload_n 3, 1, 0, 0), (302, .iconst 4, 1, 0, 0), (303, .iadd, 1, 0, 0), (304, .iaload, 1, 0, 0), (305, .aload_n 0, 1, 0, 0), (306, .iload_n 3, 1, 0, 0), (307, .iconst 5, 1, 0, 0), (308, .iadd, 1, 0, 0), (309, .iaload, 1, 0, 0), (310, .aload_n 0, 1, 0, 0), (311, .iload_n 3, 1, 0, 0), (312, .bipush 6, 2, 0, 0), (314, .iadd, 1, 0, 0), (315, .iaload, 1, 0, 0), (316, .invokevirtual 30, 3, 157, 6), (319, .if_icmp .eq 1416, 3, 1735, 0), (322, .iconst 0, 1, 0, 0), (323, .ireturn, 1, 1, 0)]
theorem hTLw1 : ∀ pc e, am_fd TLw1 pc = some e → am_fd TL pc = some e := tl_of (by decide +kernel)
theorem law_w1 (hs : sn ≤ 3585) (hx : ∀ j, R32 (sx j)) (hk : k + 7 ≤ sn) (hI : CInv P g) (hM : MRel g g) (kk : ∀ b2 g2, CInv P g2 → MRel g2 g2 → Wp sn sx 80 TL 1735 [(5, z), (2, 0), (2, 127), (0, ((k : Nat) : Int))] [] (SH b2) g2 Q) : Wp sn sx 80 TL 249 [(5, z), (2, 0), (2, 127), (0, ((k : Nat) : Int))] [] (SH b) g Q := by
  refine wp_nT hTLw1 5 (pc' := 254) (L' := [(5, z), (2, 0), (2, 127), (0, ((k : Nat) : Int))]) (st' := [(0, ((k : Nat) : Int) + 1), (5, z), (2, 0)]) (g' := g) rfl ?_
  refine wp_sald (k + 1) (hTLw1 _ _ rfl) (by omega) (by omega) (by omega) ?_
  refine wp_nT hTLw1 4 (pc' := 259) (L' := [(5, z), (2, 0), (2, 127), (0, ((k : Nat) : Int))]) (st' := [(0, ((k : Nat) : Int) + 2), (5, z), (0, sx (k + 1)), (2, 0)]) (g' := g) rfl ?_
  refine wp_sald (k + 2) (hTLw1 _ _ rfl) (by omega) (by omega) (by omega) ?_
  refine wp_nT hTLw1 4 (pc' := 264) (L' := [(5, z), (2, 0), (2, 127), (0, ((k : Nat) : Int))]) (st' := [(0, ((k : Nat) : Int) + 3), (5, z), (0, sx (k + 2)), (0, sx (k + 1)), (2, 0)]) (g' := g) rfl ?_
  refine wp_sald (k + 3) (hTLw1 _ _ rfl) (by omega) (by omega) (by omega) ?_
  refine wp_nT hTLw1 4 (pc' := 269) (L' := [(5, z), (2, 0), (2, 127), (0, ((k : Nat) : Int))]) (st' := [(0, ((k : Nat) : Int) + 4), (5, z), (0, sx (k + 3)), (0, sx (k + 2)), (0, sx (k + 1)), (2, 0)]) (g' := g) rfl ?_
  refine wp_sald (k + 4) (hTLw1 _ _ rfl) (by omega) (by omega) (by omega) ?_
  refine wp_nT hTLw1 4 (pc' := 274) (L' := [(5, z), (2, 0), (2, 127), (0, ((k : Nat) : Int))]) (st' := [(0, ((k : Nat) : Int) + 5), (5, z), (0, sx (k + 4)), (0, sx (k + 3)), (0, sx (k + 2)), (0, sx (k + 1)), (2, 0)]) (g' := g) rfl ?_
  refine wp_sald (k + 5) (hTLw1 _ _ rfl) (by omega) (by omega) (by omega) ?_
  refine wp_nT hTLw1 4 (pc' := 280) (L' := [(5, z), (2, 0), (2, 127), (0, ((k : Nat) : Int))]) (st' := [(0, ((k : Nat) : Int) + 6), (5, z), (0, sx (k + 5)), (0, sx (k + 4)), (0, sx (k + 3)), (0, sx (k + 2)), (0, sx (k + 1)), (2, 0)]) (g' := g) rfl ?_
  refine wp_sald (k + 6) (hTLw1 _ _ rfl) (by omega) (by omega) (by omega) ?_
  refine wp_cv (as := [(2, 0), (0, sx (k + 1)), (0, sx (k + 2)), (0, sx (k + 3)), (0, sx (k + 4)), (0, sx (k + 5)), (0, sx (k + 6))]) (rest := []) (hTLw1 _ _ rfl) rfl rfl (Nat.le_of_ble_eq_true rfl) rfl (C_stud (hx _) (hx _) (hx _) (hx _) (hx _) (hx _) hI) (by decide) (fun r1 hr1 => ?_)
  obtain ⟨g1, v, b1, rfl, hM1, h2⟩ := law_pair hM hr1
  refine wp_nT hTLw1 5 (pc' := 289) (L' := [(5, z), (2, 0), (2, 127), (0, ((k : Nat) : Int))]) (st' := [(0, ((k : Nat) : Int) + 1), (5, z), (2, 127), (0, v)]) (g' := g1) rfl ?_
  refine wp_sald (k + 1) (hTLw1 _ _ rfl) (by omega) (by omega) (by omega) ?_
  refine wp_nT hTLw1 4 (pc' := 294) (L' := [(5, z), (2, 0), (2, 127), (0, ((k : Nat) : Int))]) (st' := [(0, ((k : Nat) : Int) + 2), (5, z), (0, sx (k + 1)), (2, 127), (0, v)]) (g' := g1) rfl ?_
  refine wp_sald (k + 2) (hTLw1 _ _ rfl) (by omega) (by omega) (by omega) ?_
  refine wp_nT hTLw1 4 (pc' := 299) (L' := [(5, z), (2, 0), (2, 127), (0, ((k : Nat) : Int))]) (st' := [(0, ((k : Nat) : Int) + 3), (5, z), (0, sx (k + 2)), (0, sx (k + 1)), (2, 127), (0, v)]) (g' := g1) rfl ?_
  refine wp_sald (k + 3) (hTLw1 _ _ rfl) (by omega) (by omega) (by omega) ?_
  refine wp_nT hTLw1 4 (pc' := 304) (L' := [(5, z), (2, 0), (2, 127), (0, ((k : Nat) : Int))]) (st' := [(0, ((k : Nat) : Int) + 4), (5, z), (0, sx (k + 3)), (0, sx (k + 2)), (0, sx (k + 1)), (2, 127), (0, v)]) (g' := g1) rfl ?_
  refine wp_sald (k + 4) (hTLw1 _ _ rfl) (by omega) (by omega) (by omega) ?_
  refine wp_nT hTLw1 4 (pc' := 309) (L' := [(5, z), (2, 0), (2, 127), (0, ((k : Nat) : Int))]) (st' := [(0, ((k : Nat) : Int) + 5), (5, z), (0, sx (k + 4)), (0, sx (k + 3)), (0, sx (k + 2)), (0, sx (k + 1)), (2, 127), (0, v)]) (g' := g1) rfl ?_
  refine wp_sald (k + 5) (hTLw1 _ _ rfl) (by omega) (by omega) (by omega) ?_
  refine wp_nT hTLw1 4 (pc' := 315) (L' := [(5, z), (2, 0), (2, 127), (0, ((k : Nat) : Int))]) (st' := [(0, ((k : Nat) : Int) + 6), (5, z), (0, sx (k + 5)), (0, sx (k + 4)), (0, sx (k + 3)), (0, sx (k + 2)), (0, sx (k + 1)), (2, 127), (0, v)]) (g' := g1) rfl ?_
  refine wp_sald (k + 6) (hTLw1 _ _ rfl) (by omega) (by omega) (by omega) ?_
  refine wp_cv (as := [(2, 127), (0, sx (k + 1)), (0, sx (k + 2)), (0, sx (k + 3)), (0, sx (k + 4)), (0, sx (k + 5)), (0, sx (k + 6))]) (rest := [(0, v)]) (hTLw1 _ _ rfl) rfl rfl (Nat.le_of_ble_eq_true rfl) rfl (M_stud (hx _) (hx _) (hx _) (hx _) (hx _) (hx _) hI hM1) (by decide) (fun r2 hr2 => ?_)
  obtain ⟨g2, rfl, hI2, hM2⟩ := h2 _ hr2
  exact wp_ic_eq (hTLw1 _ _ rfl) (fun _ => kk b1 g2 hI2 hM2) (fun c => absurd rfl c)
def TLw2 : List (Nat × am_E) := [(324, .aload_n 1, 1, 0, 0), (325, .aload_n 0, 1, 0, 0), (326, .iload_n 3, 1, 0, 0), (327, .iconst 1, 1, 0, 0), (328, .iadd, 1, 0, 0), (329, .iaload, 1, 0, 0), (330, .aload_n 0, 1, 0, 0), (331, .iload_n 3, 1, 0, 0), (332, .iconst 2, 1, 0, 0), (333, .iadd, 1, 0, 0), (334, .iaload, 1, 0, 0), (335, .invokevirtual 31, 3, 98, 2), (338, .aload_n 2, 1, 0, 0), (339, .aload_n 0, 1, 0, 0), (340, .iload_n 3, 1, 0, 0), (341, .iconst 1, 1, 0, 0), (342, .iadd, 1, 0, 0), (343, .iaload, 1, 0, 0), (344, .aload_n 0, 1, 0, 0), (345, .iload_n 3, 1, 0, 0), (346, .iconst 2, 1, 0, 0), (347, .iadd, 1, 0, 0), (348, .iaload, 1, 0, 0), (349, .invokevirtual 35, 3, 158, 2), (352, .if_icmp .eq 1383, 3, 1735, 0), (355, .iconst 0, 1, 0, 0), (356, .ireturn, 1, 1, 0)]
theorem hTLw2 : ∀ pc e, am_fd TLw2 pc = some e → am_fd TL pc = some e := tl_of (by decide +kernel)
theorem law_w2 (hs : sn ≤ 3585) (hx : ∀ j, R32 (sx j)) (hk : k + 7 ≤ sn) (hI : CInv P g) (hM : MRel g g) (kk : ∀ b2 g2, CInv P g2 → MRel g2 g2 → Wp sn sx 80 TL 1735 [(5, z), (2, 0), (2, 127), (0, ((k : Nat) : Int))] [] (SH b2) g2 Q) : Wp sn sx 80 TL 324 [(5, z), (2, 0), (2, 127), (0, ((k : Nat) : Int))] [] (SH b) g Q := by
  refine wp_nT hTLw2 5 (pc' := 329) (L' := [(5, z), (2, 0), (2, 127), (0, ((k : Nat) : Int))]) (st' := [(0, ((k : Nat) : Int) + 1), (5, z), (2, 0)]) (g' := g) rfl ?_
  refine wp_sald (k + 1) (hTLw2 _ _ rfl) (by omega) (by omega) (by omega) ?_
  refine wp_nT hTLw2 4 (pc' := 334) (L' := [(5, z), (2, 0), (2, 127), (0, ((k : Nat) : Int))]) (st' := [(0, ((k : Nat) : Int) + 2), (5, z), (0, sx (k + 1)), (2, 0)]) (g' := g) rfl ?_
  refine wp_sald (k + 2) (hTLw2 _ _ rfl) (by omega) (by omega) (by omega) ?_
  refine wp_cv (as := [(2, 0), (0, sx (k + 1)), (0, sx (k + 2))]) (rest := []) (hTLw2 _ _ rfl) rfl rfl (Nat.le_of_ble_eq_true rfl) rfl (C_tilt (hx _) (hx _) hI) (by decide) (fun r1 hr1 => ?_)
  obtain ⟨g1, v, b1, rfl, hM1, h2⟩ := law_pair hM hr1
  refine wp_nT hTLw2 5 (pc' := 343) (L' := [(5, z), (2, 0), (2, 127), (0, ((k : Nat) : Int))]) (st' := [(0, ((k : Nat) : Int) + 1), (5, z), (2, 127), (0, v)]) (g' := g1) rfl ?_
  refine wp_sald (k + 1) (hTLw2 _ _ rfl) (by omega) (by omega) (by omega) ?_
  refine wp_nT hTLw2 4 (pc' := 348) (L' := [(5, z), (2, 0), (2, 127), (0, ((k : Nat) : Int))]) (st' := [(0, ((k : Nat) : Int) + 2), (5, z), (0, sx (k + 1)), (2, 127), (0, v)]) (g' := g1) rfl ?_
  refine wp_sald (k + 2) (hTLw2 _ _ rfl) (by omega) (by omega) (by omega) ?_
  refine wp_cv (as := [(2, 127), (0, sx (k + 1)), (0, sx (k + 2))]) (rest := [(0, v)]) (hTLw2 _ _ rfl) rfl rfl (Nat.le_of_ble_eq_true rfl) rfl (M_tilt (hx _) (hx _) hI hM1) (by decide) (fun r2 hr2 => ?_)
  obtain ⟨g2, rfl, hI2, hM2⟩ := h2 _ hr2
  exact wp_ic_eq (hTLw2 _ _ rfl) (fun _ => kk b1 g2 hI2 hM2) (fun c => absurd rfl c)
def TLw3 : List (Nat × am_E) := [(357, .aload_n 1, 1, 0, 0), (358, .aload_n 0, 1, 0, 0), (359, .iload_n 3, 1, 0, 0), (360, .iconst 1, 1, 0, 0), (361, .iadd, 1, 0, 0), (362, .iaload, 1, 0, 0), (363, .aload_n 0, 1, 0, 0), (364, .iload_n 3, 1, 0, 0), (365, .iconst 2, 1, 0, 0), (366, .iadd, 1, 0, 0), (367, .iaload, 1, 0, 0), (368, .aload_n 0, 1, 0, 0), (369, .iload_n 3, 1, 0, 0), (370, .iconst 3, 1, 0, 0), (371, .iadd, 1, 0, 0), (372, .iaload, 1, 0, 0), (373, .aload_n 0, 1, 0, 0), (374, .iload_n 3, 1, 0, 0), (375, .iconst 4, 1, 0, 0), (376, .iadd, 1, 0, 0), (377, .iaload, 1, 0, 0), (378, .aload_n 0, 1, 0, 0), (379, .iload_n 3, 1, 0, 0), (380, .iconst 5, 1, 0, 0), (381, .iadd, 1, 0, 0), (382, .iaload, 1, 0, 0), (383, .invokevirtual 36, 3, 99, 5), (386, .aload_n 2, 1, 0, 0), (387, .aload_n 0, 1, 0, 0), (388, .iload_n 3, 1, 0, 0), (389, .iconst 1, 1, 0, 0), (390, .iadd, 1, 0, 0), (391, .iaload, 1, 0, 0), (392, .aload_n 0, 1, 0, 0), (393, .iload_n 3, 1, 0, 0), (394, .iconst 2, 1, 0, 0), (395, .iadd, 1, 0, 0), (396, .iaload, 1, 0, 0), (397, .aload_n 0, 1, 0, 0), (398, .iload_n 3, 1, 0, 0), (399, .iconst 3, 1, 0, 0), (400, .iadd, 1, 0, 0), (401, .iaload, 1, 0, 0), (402, .aload_n 0, 1, 0, 0), (403, .iload_n 3, 1, 0, 0), (404, .iconst 4, 1, 0, 0), (405, .iadd, 1, 0, 0), (406, .iaload, 1, 0, 0), (407, .aload_n 0, 1, 0, 0), (408, .iload_n 3, 1, 0, 0), (409, .iconst 5, 1, 0, 0), (410, .iadd, 1, 0, 0), (411, .iaload, 1, 0, 0), (412, .invokevirtual 40, 3, 159, 5), (415, .if_icmp .eq 1320, 3, 1735, 0), (418, .iconst 0, 1, 0, 0), (419, .ireturn, 1, 1, 0)]
theorem hTLw3 : ∀ pc e, am_fd TLw3 pc = some e → am_fd TL pc = some e := tl_of (by decide +kernel)
theorem law_w3 (hs : sn ≤ 3585) (hx : ∀ j, R32 (sx j)) (hk : k + 7 ≤ sn) (hI : CInv P g) (hM : MRel g g) (kk : ∀ b2 g2, CInv P g2 → MRel g2 g2 → Wp sn sx 80 TL 1735 [(5, z), (2, 0), (2, 127), (0, ((k : Nat) : Int))] [] (SH b2) g2 Q) : Wp sn sx 80 TL 357 [(5, z), (2, 0), (2, 127), (0, ((k : Nat) : Int))] [] (SH b) g Q := by
  refine wp_nT hTLw3 5 (pc' := 362) (L' := [(5, z), (2, 0), (2, 127), (0, ((k : Nat) : Int))]) (st' := [(0, ((k : Nat) : Int) + 1), (5, z), (2, 0)]) (g' := g) rfl ?_
  refine wp_sald (k + 1) (hTLw3 _ _ rfl) (by omega) (by omega) (by omega) ?_
  refine wp_nT hTLw3 4 (pc' := 367) (L' := [(5, z), (2, 0), (2, 127), (0, ((k : Nat) : Int))]) (st' := [(0, ((k : Nat) : Int) + 2), (5, z), (0, sx (k + 1)), (2, 0)]) (g' := g) rfl ?_
  refine wp_sald (k + 2) (hTLw3 _ _ rfl) (by omega) (by omega) (by omega) ?_
  refine wp_nT hTLw3 4 (pc' := 372) (L' := [(5, z), (2, 0), (2, 127), (0, ((k : Nat) : Int))]) (st' := [(0, ((k : Nat) : Int) + 3), (5, z), (0, sx (k + 2)), (0, sx (k + 1)), (2, 0)]) (g' := g) rfl ?_
  refine wp_sald (k + 3) (hTLw3 _ _ rfl) (by omega) (by omega) (by omega) ?_
  refine wp_nT hTLw3 4 (pc' := 377) (L' := [(5, z), (2, 0), (2, 127), (0, ((k : Nat) : Int))]) (st' := [(0, ((k : Nat) : Int) + 4), (5, z), (0, sx (k + 3)), (0, sx (k + 2)), (0, sx (k + 1)), (2, 0)]) (g' := g) rfl ?_
  refine wp_sald (k + 4) (hTLw3 _ _ rfl) (by omega) (by omega) (by omega) ?_
  refine wp_nT hTLw3 4 (pc' := 382) (L' := [(5, z), (2, 0), (2, 127), (0, ((k : Nat) : Int))]) (st' := [(0, ((k : Nat) : Int) + 5), (5, z), (0, sx (k + 4)), (0, sx (k + 3)), (0, sx (k + 2)), (0, sx (k + 1)), (2, 0)]) (g' := g) rfl ?_
  refine wp_sald (k + 5) (hTLw3 _ _ rfl) (by omega) (by omega) (by omega) ?_
  refine wp_cv (as := [(2, 0), (0, sx (k + 1)), (0, sx (k + 2)), (0, sx (k + 3)), (0, sx (k + 4)), (0, sx (k + 5))]) (rest := []) (hTLw3 _ _ rfl) rfl rfl (Nat.le_of_ble_eq_true rfl) rfl (C_late (hx _) (hx _) (hx _) (hx _) (hx _) hI) (by decide) (fun r1 hr1 => ?_)
  obtain ⟨g1, v, b1, rfl, hM1, h2⟩ := law_pair hM hr1
  refine wp_nT hTLw3 5 (pc' := 391) (L' := [(5, z), (2, 0), (2, 127), (0, ((k : Nat) : Int))]) (st' := [(0, ((k : Nat) : Int) + 1), (5, z), (2, 127), (0, v)]) (g' := g1) rfl ?_
  refine wp_sald (k + 1) (hTLw3 _ _ rfl) (by omega) (by omega) (by omega) ?_
  refine wp_nT hTLw3 4 (pc' := 396) (L' := [(5, z), (2, 0), (2, 127), (0, ((k : Nat) : Int))]) (st' := [(0, ((k : Nat) : Int) + 2), (5, z), (0, sx (k + 1)), (2, 127), (0, v)]) (g' := g1) rfl ?_
  refine wp_sald (k + 2) (hTLw3 _ _ rfl) (by omega) (by omega) (by omega) ?_
  refine wp_nT hTLw3 4 (pc' := 401) (L' := [(5, z), (2, 0), (2, 127), (0, ((k : Nat) : Int))]) (st' := [(0, ((k : Nat) : Int) + 3), (5, z), (0, sx (k + 2)), (0, sx (k + 1)), (2, 127), (0, v)]) (g' := g1) rfl ?_
  refine wp_sald (k + 3) (hTLw3 _ _ rfl) (by omega) (by omega) (by omega) ?_
  refine wp_nT hTLw3 4 (pc' := 406) (L' := [(5, z), (2, 0), (2, 127), (0, ((k : Nat) : Int))]) (st' := [(0, ((k : Nat) : Int) + 4), (5, z), (0, sx (k + 3)), (0, sx (k + 2)), (0, sx (k + 1)), (2, 127), (0, v)]) (g' := g1) rfl ?_
  refine wp_sald (k + 4) (hTLw3 _ _ rfl) (by omega) (by omega) (by omega) ?_
  refine wp_nT hTLw3 4 (pc' := 411) (L' := [(5, z), (2, 0), (2, 127), (0, ((k : Nat) : Int))]) (st' := [(0, ((k : Nat) : Int) + 5), (5, z), (0, sx (k + 4)), (0, sx (k + 3)), (0, sx (k + 2)), (0, sx (k + 1)), (2, 127), (0, v)]) (g' := g1) rfl ?_
  refine wp_sald (k + 5) (hTLw3 _ _ rfl) (by omega) (by omega) (by omega) ?_
  refine wp_cv (as := [(2, 127), (0, sx (k + 1)), (0, sx (k + 2)), (0, sx (k + 3)), (0, sx (k + 4)), (0, sx (k + 5))]) (rest := [(0, v)]) (hTLw3 _ _ rfl) rfl rfl (Nat.le_of_ble_eq_true rfl) rfl (M_late (hx _) (hx _) (hx _) (hx _) (hx _) hI hM1) (by decide) (fun r2 hr2 => ?_)
  obtain ⟨g2, rfl, hI2, hM2⟩ := h2 _ hr2
  exact wp_ic_eq (hTLw3 _ _ rfl) (fun _ => kk b1 g2 hI2 hM2) (fun c => absurd rfl c)
def TLw4 : List (Nat × am_E) := [(420, .aload_n 1, 1, 0, 0), (421, .aload_n 0, 1, 0, 0), (422, .iload_n 3, 1, 0, 0), (423, .iconst 1, 1, 0, 0), (424, .iadd, 1, 0, 0), (425, .iaload, 1, 0, 0), (426, .invokevirtual 41, 3, 100, 1), (429, .aload_n 2, 1, 0, 0), (430, .aload_n 0, 1, 0, 0), (431, .iload_n 3, 1, 0, 0), (432, .iconst 1, 1, 0, 0), (433, .iadd, 1, 0, 0), (434, .iaload, 1, 0, 0), (435, .invokevirtual 45, 3, 160, 1), (438, .if_icmp .eq 1297, 3, 1735, 0), (441, .iconst 0, 1, 0, 0), (442, .ireturn, 1, 1, 0)]
theorem hTLw4 : ∀ pc e, am_fd TLw4 pc = some e → am_fd TL pc = some e := tl_of (by decide +kernel)
theorem law_w4 (hs : sn ≤ 3585) (hx : ∀ j, R32 (sx j)) (hk : k + 7 ≤ sn) (hI : CInv P g) (hM : MRel g g) (kk : ∀ b2 g2, CInv P g2 → MRel g2 g2 → Wp sn sx 80 TL 1735 [(5, z), (2, 0), (2, 127), (0, ((k : Nat) : Int))] [] (SH b2) g2 Q) : Wp sn sx 80 TL 420 [(5, z), (2, 0), (2, 127), (0, ((k : Nat) : Int))] [] (SH b) g Q := by
  refine wp_nT hTLw4 5 (pc' := 425) (L' := [(5, z), (2, 0), (2, 127), (0, ((k : Nat) : Int))]) (st' := [(0, ((k : Nat) : Int) + 1), (5, z), (2, 0)]) (g' := g) rfl ?_
  refine wp_sald (k + 1) (hTLw4 _ _ rfl) (by omega) (by omega) (by omega) ?_
  refine wp_cv (as := [(2, 0), (0, sx (k + 1))]) (rest := []) (hTLw4 _ _ rfl) rfl rfl (Nat.le_of_ble_eq_true rfl) rfl (C_pays (hx _) hI) (by decide) (fun r1 hr1 => ?_)
  obtain ⟨g1, v, b1, rfl, hM1, h2⟩ := law_pair hM hr1
  refine wp_nT hTLw4 5 (pc' := 434) (L' := [(5, z), (2, 0), (2, 127), (0, ((k : Nat) : Int))]) (st' := [(0, ((k : Nat) : Int) + 1), (5, z), (2, 127), (0, v)]) (g' := g1) rfl ?_
  refine wp_sald (k + 1) (hTLw4 _ _ rfl) (by omega) (by omega) (by omega) ?_
  refine wp_cv (as := [(2, 127), (0, sx (k + 1))]) (rest := [(0, v)]) (hTLw4 _ _ rfl) rfl rfl (Nat.le_of_ble_eq_true rfl) rfl (M_pays (hx _) hI hM1) (by decide) (fun r2 hr2 => ?_)
  obtain ⟨g2, rfl, hI2, hM2⟩ := h2 _ hr2
  exact wp_ic_eq (hTLw4 _ _ rfl) (fun _ => kk b1 g2 hI2 hM2) (fun c => absurd rfl c)
def TLw5 : List (Nat × am_E) := [(443, .aload_n 1, 1, 0, 0), (444, .aload_n 0, 1, 0, 0), (445, .iload_n 3, 1, 0, 0), (446, .iconst 1, 1, 0, 0), (447, .iadd, 1, 0, 0), (448, .iaload, 1, 0, 0), (449, .aload_n 0, 1, 0, 0), (450, .iload_n 3, 1, 0, 0), (451, .iconst 2, 1, 0, 0), (452, .iadd, 1, 0, 0), (453, .iaload, 1, 0, 0), (454, .aload_n 0, 1, 0, 0), (455, .iload_n 3, 1, 0, 0), (456, .iconst 3, 1, 0, 0), (457, .iadd, 1, 0, 0), (458, .iaload, 1, 0, 0), (459, .aload_n 0, 1, 0, 0), (460, .iload_n 3, 1, 0, 0), (461, .iconst 4, 1, 0, 0), (462, .iadd, 1, 0, 0), (463, .iaload, 1, 0, 0), (464, .aload_n 0, 1, 0, 0), (465, .iload_n 3, 1, 0, 0), (466, .iconst 5, 1, 0, 0), (467, .iadd, 1, 0, 0), (468, .iaload, 1, 0, 0), (469, .invokevirtual 46, 3, 101, 5), (472, .aload_n 2, 1, 0, 0), (473, .aload_n 0, 1, 0, 0), (474, .iload_n 3, 1, 0, 0), (475, .iconst 1, 1, 0, 0), (476, .iadd, 1, 0, 0), (477, .iaload, 1, 0, 0), (478, .aload_n 0, 1, 0, 0), (479, .iload_n 3, 1, 0, 0), (480, .iconst 2, 1, 0, 0), (481, .iadd, 1, 0, 0), (482, .iaload, 1, 0, 0), (483, .aload_n 0, 1, 0, 0), (484, .iload_n 3, 1, 0, 0), (485, .iconst 3, 1, 0, 0), (486, .iadd, 1, 0, 0), (487, .iaload, 1, 0, 0), (488, .aload_n 0, 1, 0, 0), (489, .iload_n 3, 1, 0, 0), (490, .iconst 4, 1, 0, 0), (491, .iadd, 1, 0, 0), (492, .iaload, 1, 0, 0), (493, .aload_n 0, 1, 0, 0), (494, .iload_n 3, 1, 0, 0), (495, .iconst 5, 1, 0, 0), (496, .iadd, 1, 0, 0), (497, .iaload, 1, 0, 0), (498, .invokevirtual 50, 3, 162, 5), (501, .if_icmp .eq 1234, 3, 1735, 0), (504, .iconst 0, 1, 0, 0), (505, .ireturn, 1, 1, 0)]
theorem hTLw5 : ∀ pc e, am_fd TLw5 pc = some e → am_fd TL pc = some e := tl_of (by decide +kernel)
theorem law_w5 (hs : sn ≤ 3585) (hx : ∀ j, R32 (sx j)) (hk : k + 7 ≤ sn) (hI : CInv P g) (hM : MRel g g) (kk : ∀ b2 g2, CInv P g2 → MRel g2 g2 → Wp sn sx 80 TL 1735 [(5, z), (2, 0), (2, 127), (0, ((k : Nat) : Int))] [] (SH b2) g2 Q) : Wp sn sx 80 TL 443 [(5, z), (2, 0), (2, 127), (0, ((k : Nat) : Int))] [] (SH b) g Q := by
  refine wp_nT hTLw5 5 (pc' := 448) (L' := [(5, z), (2, 0), (2, 127), (0, ((k : Nat) : Int))]) (st' := [(0, ((k : Nat) : Int) + 1), (5, z), (2, 0)]) (g' := g) rfl ?_
  refine wp_sald (k + 1) (hTLw5 _ _ rfl) (by omega) (by omega) (by omega) ?_
  refine wp_nT hTLw5 4 (pc' := 453) (L' := [(5, z), (2, 0), (2, 127), (0, ((k : Nat) : Int))]) (st' := [(0, ((k : Nat) : Int) + 2), (5, z), (0, sx (k + 1)), (2, 0)]) (g' := g) rfl ?_
  refine wp_sald (k + 2) (hTLw5 _ _ rfl) (by omega) (by omega) (by omega) ?_
  refine wp_nT hTLw5 4 (pc' := 458) (L' := [(5, z), (2, 0), (2, 127), (0, ((k : Nat) : Int))]) (st' := [(0, ((k : Nat) : Int) + 3), (5, z), (0, sx (k + 2)), (0, sx (k + 1)), (2, 0)]) (g' := g) rfl ?_
  refine wp_sald (k + 3) (hTLw5 _ _ rfl) (by omega) (by omega) (by omega) ?_
  refine wp_nT hTLw5 4 (pc' := 463) (L' := [(5, z), (2, 0), (2, 127), (0, ((k : Nat) : Int))]) (st' := [(0, ((k : Nat) : Int) + 4), (5, z), (0, sx (k + 3)), (0, sx (k + 2)), (0, sx (k + 1)), (2, 0)]) (g' := g) rfl ?_
  refine wp_sald (k + 4) (hTLw5 _ _ rfl) (by omega) (by omega) (by omega) ?_
  refine wp_nT hTLw5 4 (pc' := 468) (L' := [(5, z), (2, 0), (2, 127), (0, ((k : Nat) : Int))]) (st' := [(0, ((k : Nat) : Int) + 5), (5, z), (0, sx (k + 4)), (0, sx (k + 3)), (0, sx (k + 2)), (0, sx (k + 1)), (2, 0)]) (g' := g) rfl ?_
  refine wp_sald (k + 5) (hTLw5 _ _ rfl) (by omega) (by omega) (by omega) ?_
  refine wp_cv (as := [(2, 0), (0, sx (k + 1)), (0, sx (k + 2)), (0, sx (k + 3)), (0, sx (k + 4)), (0, sx (k + 5))]) (rest := []) (hTLw5 _ _ rfl) rfl rfl (Nat.le_of_ble_eq_true rfl) rfl (C_feed (hx _) (hx _) (hx _) (hx _) (hx _) hI) (by decide) (fun r1 hr1 => ?_)
  obtain ⟨g1, v, b1, rfl, hM1, h2⟩ := law_pair hM hr1
  refine wp_nT hTLw5 5 (pc' := 477) (L' := [(5, z), (2, 0), (2, 127), (0, ((k : Nat) : Int))]) (st' := [(0, ((k : Nat) : Int) + 1), (5, z), (2, 127), (0, v)]) (g' := g1) rfl ?_
  refine wp_sald (k + 1) (hTLw5 _ _ rfl) (by omega) (by omega) (by omega) ?_
  refine wp_nT hTLw5 4 (pc' := 482) (L' := [(5, z), (2, 0), (2, 127), (0, ((k : Nat) : Int))]) (st' := [(0, ((k : Nat) : Int) + 2), (5, z), (0, sx (k + 1)), (2, 127), (0, v)]) (g' := g1) rfl ?_
  refine wp_sald (k + 2) (hTLw5 _ _ rfl) (by omega) (by omega) (by omega) ?_
  refine wp_nT hTLw5 4 (pc' := 487) (L' := [(5, z), (2, 0), (2, 127), (0, ((k : Nat) : Int))]) (st' := [(0, ((k : Nat) : Int) + 3), (5, z), (0, sx (k + 2)), (0, sx (k + 1)), (2, 127), (0, v)]) (g' := g1) rfl ?_
  refine wp_sald (k + 3) (hTLw5 _ _ rfl) (by omega) (by omega) (by omega) ?_
  refine wp_nT hTLw5 4 (pc' := 492) (L' := [(5, z), (2, 0), (2, 127), (0, ((k : Nat) : Int))]) (st' := [(0, ((k : Nat) : Int) + 4), (5, z), (0, sx (k + 3)), (0, sx (k + 2)), (0, sx (k + 1)), (2, 127), (0, v)]) (g' := g1) rfl ?_
  refine wp_sald (k + 4) (hTLw5 _ _ rfl) (by omega) (by omega) (by omega) ?_
  refine wp_nT hTLw5 4 (pc' := 497) (L' := [(5, z), (2, 0), (2, 127), (0, ((k : Nat) : Int))]) (st' := [(0, ((k : Nat) : Int) + 5), (5, z), (0, sx (k + 4)), (0, sx (k + 3)), (0, sx (k + 2)), (0, sx (k + 1)), (2, 127), (0, v)]) (g' := g1) rfl ?_
  refine wp_sald (k + 5) (hTLw5 _ _ rfl) (by omega) (by omega) (by omega) ?_
  refine wp_cv (as := [(2, 127), (0, sx (k + 1)), (0, sx (k + 2)), (0, sx (k + 3)), (0, sx (k + 4)), (0, sx (k + 5))]) (rest := [(0, v)]) (hTLw5 _ _ rfl) rfl rfl (Nat.le_of_ble_eq_true rfl) rfl (M_feed (hx _) (hx _) (hx _) (hx _) (hx _) hI hM1) (by decide) (fun r2 hr2 => ?_)
  obtain ⟨g2, rfl, hI2, hM2⟩ := h2 _ hr2
  exact wp_ic_eq (hTLw5 _ _ rfl) (fun _ => kk b1 g2 hI2 hM2) (fun c => absurd rfl c)
def TLw6 : List (Nat × am_E) := [(506, .aload_n 1, 1, 0, 0), (507, .aload_n 0, 1, 0, 0), (508, .iload_n 3, 1, 0, 0), (509, .iconst 1, 1, 0, 0), (510, .iadd, 1, 0, 0), (511, .iaload, 1, 0, 0), (512, .invokevirtual 51, 3, 102, 1), (515, .aload_n 2, 1, 0, 0), (516, .aload_n 0, 1, 0, 0), (517, .iload_n 3, 1, 0, 0), (518, .iconst 1, 1, 0, 0), (519, .iadd, 1, 0, 0), (520, .iaload, 1, 0, 0), (521, .invokevirtual 55, 3, 163, 1), (524, .if_icmp .eq 1211, 3, 1735, 0), (527, .iconst 0, 1, 0, 0), (528, .ireturn, 1, 1, 0)]
theorem hTLw6 : ∀ pc e, am_fd TLw6 pc = some e → am_fd TL pc = some e := tl_of (by decide +kernel)
theorem law_w6 (hs : sn ≤ 3585) (hx : ∀ j, R32 (sx j)) (hk : k + 7 ≤ sn) (hI : CInv P g) (hM : MRel g g) (kk : ∀ b2 g2, CInv P g2 → MRel g2 g2 → Wp sn sx 80 TL 1735 [(5, z), (2, 0), (2, 127), (0, ((k : Nat) : Int))] [] (SH b2) g2 Q) : Wp sn sx 80 TL 506 [(5, z), (2, 0), (2, 127), (0, ((k : Nat) : Int))] [] (SH b) g Q := by
  refine wp_nT hTLw6 5 (pc' := 511) (L' := [(5, z), (2, 0), (2, 127), (0, ((k : Nat) : Int))]) (st' := [(0, ((k : Nat) : Int) + 1), (5, z), (2, 0)]) (g' := g) rfl ?_
  refine wp_sald (k + 1) (hTLw6 _ _ rfl) (by omega) (by omega) (by omega) ?_
  refine wp_cv (as := [(2, 0), (0, sx (k + 1))]) (rest := []) (hTLw6 _ _ rfl) rfl rfl (Nat.le_of_ble_eq_true rfl) rfl (C_end (hx _) hI) (by decide) (fun r1 hr1 => ?_)
  obtain ⟨g1, v, b1, rfl, hM1, h2⟩ := law_pair hM hr1
  refine wp_nT hTLw6 5 (pc' := 520) (L' := [(5, z), (2, 0), (2, 127), (0, ((k : Nat) : Int))]) (st' := [(0, ((k : Nat) : Int) + 1), (5, z), (2, 127), (0, v)]) (g' := g1) rfl ?_
  refine wp_sald (k + 1) (hTLw6 _ _ rfl) (by omega) (by omega) (by omega) ?_
  refine wp_cv (as := [(2, 127), (0, sx (k + 1))]) (rest := [(0, v)]) (hTLw6 _ _ rfl) rfl rfl (Nat.le_of_ble_eq_true rfl) rfl (M_end (hx _) hI hM1) (by decide) (fun r2 hr2 => ?_)
  obtain ⟨g2, rfl, hI2, hM2⟩ := h2 _ hr2
  exact wp_ic_eq (hTLw6 _ _ rfl) (fun _ => kk b1 g2 hI2 hM2) (fun c => absurd rfl c)
def TLw7 : List (Nat × am_E) := [(529, .aload_n 1, 1, 0, 0), (530, .invokevirtual 56, 3, 103, 0), (533, .aload_n 2, 1, 0, 0), (534, .invokevirtual 60, 3, 186, 0), (537, .if_icmp .eq 1198, 3, 1735, 0), (540, .iconst 0, 1, 0, 0), (541, .ireturn, 1, 1, 0)]
theorem hTLw7 : ∀ pc e, am_fd TLw7 pc = some e → am_fd TL pc = some e := tl_of (by decide +kernel)
theorem law_w7 (hs : sn ≤ 3585) (hx : ∀ j, R32 (sx j)) (hk : k + 7 ≤ sn) (hI : CInv P g) (hM : MRel g g) (kk : ∀ b2 g2, CInv P g2 → MRel g2 g2 → Wp sn sx 80 TL 1735 [(5, z), (2, 0), (2, 127), (0, ((k : Nat) : Int))] [] (SH b2) g2 Q) : Wp sn sx 80 TL 529 [(5, z), (2, 0), (2, 127), (0, ((k : Nat) : Int))] [] (SH b) g Q := by
  refine wp_nT hTLw7 1 (pc' := 530) (L' := [(5, z), (2, 0), (2, 127), (0, ((k : Nat) : Int))]) (st' := [(2, 0)]) (g' := g) rfl ?_
  refine wp_cv (as := [(2, 0)]) (rest := []) (hTLw7 _ _ rfl) rfl rfl (Nat.le_of_ble_eq_true rfl) rfl (C_text hI) (by decide) (fun r1 hr1 => ?_)
  obtain ⟨g1, v, b1, rfl, hI1, hF1, hE⟩ := hr1
  have hM1 := hM.hi hF1
  refine wp_nT hTLw7 1 (pc' := 534) (L' := [(5, z), (2, 0), (2, 127), (0, ((k : Nat) : Int))]) (st' := [(2, 127), (0, v)]) (g' := g1) rfl ?_
  refine wp_cv (as := [(2, 127)]) (rest := [(0, v)]) (hTLw7 _ _ rfl) rfl rfl (Nat.le_of_ble_eq_true rfl) rfl (M_text hI hM1 hE) (by decide) (fun r2 hr2 => ?_)
  obtain ⟨g2, rfl, h3, h4⟩ := hr2
  obtain ⟨hI2, hM2⟩ := law_behind hI1 h3 h4
  exact wp_ic_eq (hTLw7 _ _ rfl) (fun _ => kk b1 g2 hI2 hM2) (fun c => absurd rfl c)
def TLw8 : List (Nat × am_E) := [(542, .aload_n 1, 1, 0, 0), (543, .aload_n 0, 1, 0, 0), (544, .iload_n 3, 1, 0, 0), (545, .iconst 1, 1, 0, 0), (546, .iadd, 1, 0, 0), (547, .iaload, 1, 0, 0), (548, .invokevirtual 61, 3, 104, 1), (551, .aload_n 2, 1, 0, 0), (552, .aload_n 0, 1, 0, 0), (553, .iload_n 3, 1, 0, 0), (554, .iconst 1, 1, 0, 0), (555, .iadd, 1, 0, 0), (556, .iaload, 1, 0, 0), (557, .invokevirtual 64, 3, 187, 1), (560, .if_icmp .eq 1175, 3, 1735, 0), (563, .iconst 0, 1, 0, 0), (564, .ireturn, 1, 1, 0)]
theorem hTLw8 : ∀ pc e, am_fd TLw8 pc = some e → am_fd TL pc = some e := tl_of (by decide +kernel)
theorem law_w8 (hs : sn ≤ 3585) (hx : ∀ j, R32 (sx j)) (hk : k + 7 ≤ sn) (hI : CInv P g) (hM : MRel g g) (kk : ∀ b2 g2, CInv P g2 → MRel g2 g2 → Wp sn sx 80 TL 1735 [(5, z), (2, 0), (2, 127), (0, ((k : Nat) : Int))] [] (SH b2) g2 Q) : Wp sn sx 80 TL 542 [(5, z), (2, 0), (2, 127), (0, ((k : Nat) : Int))] [] (SH b) g Q := by
  refine wp_nT hTLw8 5 (pc' := 547) (L' := [(5, z), (2, 0), (2, 127), (0, ((k : Nat) : Int))]) (st' := [(0, ((k : Nat) : Int) + 1), (5, z), (2, 0)]) (g' := g) rfl ?_
  refine wp_sald (k + 1) (hTLw8 _ _ rfl) (by omega) (by omega) (by omega) ?_
  refine wp_cv (as := [(2, 0), (0, sx (k + 1))]) (rest := []) (hTLw8 _ _ rfl) rfl rfl (Nat.le_of_ble_eq_true rfl) rfl (C_fault (hx _) hI) (by decide) (fun r1 hr1 => ?_)
  obtain ⟨g1, v, b1, rfl, hM1, h2⟩ := law_pair hM hr1
  refine wp_nT hTLw8 5 (pc' := 556) (L' := [(5, z), (2, 0), (2, 127), (0, ((k : Nat) : Int))]) (st' := [(0, ((k : Nat) : Int) + 1), (5, z), (2, 127), (0, v)]) (g' := g1) rfl ?_
  refine wp_sald (k + 1) (hTLw8 _ _ rfl) (by omega) (by omega) (by omega) ?_
  refine wp_cv (as := [(2, 127), (0, sx (k + 1))]) (rest := [(0, v)]) (hTLw8 _ _ rfl) rfl rfl (Nat.le_of_ble_eq_true rfl) rfl (M_fault (hx _) hI hM1) (by decide) (fun r2 hr2 => ?_)
  obtain ⟨g2, rfl, hI2, hM2⟩ := h2 _ hr2
  exact wp_ic_eq (hTLw8 _ _ rfl) (fun _ => kk b1 g2 hI2 hM2) (fun c => absurd rfl c)
def TLw9 : List (Nat × am_E) := [(565, .aload_n 1, 1, 0, 0), (566, .aload_n 0, 1, 0, 0), (567, .iload_n 3, 1, 0, 0), (568, .iconst 1, 1, 0, 0), (569, .iadd, 1, 0, 0), (570, .iaload, 1, 0, 0), (571, .invokevirtual 65, 3, 105, 1), (574, .aload_n 2, 1, 0, 0), (575, .aload_n 0, 1, 0, 0), (576, .iload_n 3, 1, 0, 0), (577, .iconst 1, 1, 0, 0), (578, .iadd, 1, 0, 0), (579, .iaload, 1, 0, 0), (580, .invokevirtual 68, 3, 188, 1), (583, .if_icmp .eq 1152, 3, 1735, 0), (586, .iconst 0, 1, 0, 0), (587, .ireturn, 1, 1, 0)]
theorem hTLw9 : ∀ pc e, am_fd TLw9 pc = some e → am_fd TL pc = some e := tl_of (by decide +kernel)
theorem law_w9 (hs : sn ≤ 3585) (hx : ∀ j, R32 (sx j)) (hk : k + 7 ≤ sn) (hI : CInv P g) (hM : MRel g g) (kk : ∀ b2 g2, CInv P g2 → MRel g2 g2 → Wp sn sx 80 TL 1735 [(5, z), (2, 0), (2, 127), (0, ((k : Nat) : Int))] [] (SH b2) g2 Q) : Wp sn sx 80 TL 565 [(5, z), (2, 0), (2, 127), (0, ((k : Nat) : Int))] [] (SH b) g Q := by
  refine wp_nT hTLw9 5 (pc' := 570) (L' := [(5, z), (2, 0), (2, 127), (0, ((k : Nat) : Int))]) (st' := [(0, ((k : Nat) : Int) + 1), (5, z), (2, 0)]) (g' := g) rfl ?_
  refine wp_sald (k + 1) (hTLw9 _ _ rfl) (by omega) (by omega) (by omega) ?_
  refine wp_cv (as := [(2, 0), (0, sx (k + 1))]) (rest := []) (hTLw9 _ _ rfl) rfl rfl (Nat.le_of_ble_eq_true rfl) rfl (C_law (hx _) hI) (by decide) (fun r1 hr1 => ?_)
  obtain ⟨g1, v, b1, rfl, hM1, h2⟩ := law_pair hM hr1
  refine wp_nT hTLw9 5 (pc' := 579) (L' := [(5, z), (2, 0), (2, 127), (0, ((k : Nat) : Int))]) (st' := [(0, ((k : Nat) : Int) + 1), (5, z), (2, 127), (0, v)]) (g' := g1) rfl ?_
  refine wp_sald (k + 1) (hTLw9 _ _ rfl) (by omega) (by omega) (by omega) ?_
  refine wp_cv (as := [(2, 127), (0, sx (k + 1))]) (rest := [(0, v)]) (hTLw9 _ _ rfl) rfl rfl (Nat.le_of_ble_eq_true rfl) rfl (M_law (hx _) hI hM1) (by decide) (fun r2 hr2 => ?_)
  obtain ⟨g2, rfl, hI2, hM2⟩ := h2 _ hr2
  exact wp_ic_eq (hTLw9 _ _ rfl) (fun _ => kk b1 g2 hI2 hM2) (fun c => absurd rfl c)
def TLw10 : List (Nat × am_E) := [(588, .aload_n 1, 1, 0, 0), (589, .aload_n 0, 1, 0, 0), (590, .iload_n 3, 1, 0, 0), (591, .iconst 1, 1, 0, 0), (592, .iadd, 1, 0, 0), (593, .iaload, 1, 0, 0), (594, .aload_n 0, 1, 0, 0), (595, .iload_n 3, 1, 0, 0), (596, .iconst 2, 1, 0, 0), (597, .iadd, 1, 0, 0), (598, .iaload, 1, 0, 0), (599, .aload_n 0, 1, 0, 0), (600, .iload_n 3, 1, 0, 0), (601, .iconst 3, 1, 0, 0), (602, .iadd, 1, 0, 0), (603, .iaload, 1, 0, 0), (604, .aload_n 0, 1, 0, 0), (605, .iload_n 3, 1, 0, 0), (606, .iconst 4, 1, 0, 0), (607, .iadd, 1, 0, 0), (608, .iaload, 1, 0, 0), (609, .aload_n 0, 1, 0, 0), (610, .iload_n 3, 1, 0, 0), (611, .iconst 5, 1, 0, 0), (612, .iadd, 1, 0, 0), (613, .iaload, 1, 0, 0), (614, .aload_n 0, 1, 0, 0), (615, .iload_n 3, 1, 0, 0), (616, .bipush 6, 2, 0, 0), (618, .iadd, 1, 0, 0), (619, .iaload, 1, 0, 0), (620, .invokevirtual 69, 3, 106, 6), (623, .aload_n 2, 1, 0, 0), (624, .aload_n 0, 1, 0, 0), (625, .iload_n 3, 1, 0, 0), (626, .iconst 1, 1, 0, 0), (627, .iadd, 1, 0, 0), (628, .iaload, 1, 0, 0), (629, .aload_n 0, 1, 0, 0), (630, .iload_n 3, 1, 0, 0), (631, .iconst 2, 1, 0, 0), (632, .iadd, 1, 0, 0), (633, .iaload, 1, 0, 0), (634, .aload_n 0, 1, 0, 0), (635, .iload_n 3, 1, 0, 0), (636, .iconst 3, 1, 0, 0), (637, .iadd, 1, 0, 0), (638, .iaload, 1, 0, 0), (639, .aload_n 0, 1, 0, 0), (640, .iload_n 3, 1, 0, 0), (641, .iconst 4, 1, 0, 0), (642, .iadd, 1, 0, 0), (643, .iaload, 1, 0, 0), (644, .aload_n 0, 1, 0, 0), (645, .iload_n 3, 1, 0, 0), (646, .iconst 5, 1, 0, 0), (647, .iadd, 1, 0, 0), (648, .iaload, 1, 0, 0), (649, .aload_n 0, 1, 0, 0), (650, .iload_n 3, 1, 0, 0), (651, .bipush 6, 2, 0, 0), (653, .iadd, 1, 0, 0), (654, .iaload, 1, 0, 0), (655, .invokevirtual 73, 3, 198, 6), (658, .if_icmp .eq 1077, 3, 1735, 0), (661, .iconst 0, 1, 0, 0), (662, .ireturn, 1, 1, 0)]
theorem hTLw10 : ∀ pc e, am_fd TLw10 pc = some e → am_fd TL pc = some e := tl_of (by decide +kernel)
theorem law_w10 (hs : sn ≤ 3585) (hx : ∀ j, R32 (sx j)) (hk : k + 7 ≤ sn) (hI : CInv P g) (hM : MRel g g) (kk : ∀ b2 g2, CInv P g2 → MRel g2 g2 → Wp sn sx 80 TL 1735 [(5, z), (2, 0), (2, 127), (0, ((k : Nat) : Int))] [] (SH b2) g2 Q) : Wp sn sx 80 TL 588 [(5, z), (2, 0), (2, 127), (0, ((k : Nat) : Int))] [] (SH b) g Q := by
  refine wp_nT hTLw10 5 (pc' := 593) (L' := [(5, z), (2, 0), (2, 127), (0, ((k : Nat) : Int))]) (st' := [(0, ((k : Nat) : Int) + 1), (5, z), (2, 0)]) (g' := g) rfl ?_
  refine wp_sald (k + 1) (hTLw10 _ _ rfl) (by omega) (by omega) (by omega) ?_
  refine wp_nT hTLw10 4 (pc' := 598) (L' := [(5, z), (2, 0), (2, 127), (0, ((k : Nat) : Int))]) (st' := [(0, ((k : Nat) : Int) + 2), (5, z), (0, sx (k + 1)), (2, 0)]) (g' := g) rfl ?_
  refine wp_sald (k + 2) (hTLw10 _ _ rfl) (by omega) (by omega) (by omega) ?_
  refine wp_nT hTLw10 4 (pc' := 603) (L' := [(5, z), (2, 0), (2, 127), (0, ((k : Nat) : Int))]) (st' := [(0, ((k : Nat) : Int) + 3), (5, z), (0, sx (k + 2)), (0, sx (k + 1)), (2, 0)]) (g' := g) rfl ?_
  refine wp_sald (k + 3) (hTLw10 _ _ rfl) (by omega) (by omega) (by omega) ?_
  refine wp_nT hTLw10 4 (pc' := 608) (L' := [(5, z), (2, 0), (2, 127), (0, ((k : Nat) : Int))]) (st' := [(0, ((k : Nat) : Int) + 4), (5, z), (0, sx (k + 3)), (0, sx (k + 2)), (0, sx (k + 1)), (2, 0)]) (g' := g) rfl ?_
  refine wp_sald (k + 4) (hTLw10 _ _ rfl) (by omega) (by omega) (by omega) ?_
  refine wp_nT hTLw10 4 (pc' := 613) (L' := [(5, z), (2, 0), (2, 127), (0, ((k : Nat) : Int))]) (st' := [(0, ((k : Nat) : Int) + 5), (5, z), (0, sx (k + 4)), (0, sx (k + 3)), (0, sx (k + 2)), (0, sx (k + 1)), (2, 0)]) (g' := g) rfl ?_
  refine wp_sald (k + 5) (hTLw10 _ _ rfl) (by omega) (by omega) (by omega) ?_
  refine wp_nT hTLw10 4 (pc' := 619) (L' := [(5, z), (2, 0), (2, 127), (0, ((k : Nat) : Int))]) (st' := [(0, ((k : Nat) : Int) + 6), (5, z), (0, sx (k + 5)), (0, sx (k + 4)), (0, sx (k + 3)), (0, sx (k + 2)), (0, sx (k + 1)), (2, 0)]) (g' := g) rfl ?_
  refine wp_sald (k + 6) (hTLw10 _ _ rfl) (by omega) (by omega) (by omega) ?_
  refine wp_cv (as := [(2, 0), (0, sx (k + 1)), (0, sx (k + 2)), (0, sx (k + 3)), (0, sx (k + 4)), (0, sx (k + 5)), (0, sx (k + 6))]) (rest := []) (hTLw10 _ _ rfl) rfl rfl (Nat.le_of_ble_eq_true rfl) rfl (C_drop (hx _) (hx _) (hx _) (hx _) (hx _) (hx _) hI) (by decide) (fun r1 hr1 => ?_)
  obtain ⟨g1, v, b1, rfl, hM1, h2⟩ := law_pair hM hr1
  refine wp_nT hTLw10 5 (pc' := 628) (L' := [(5, z), (2, 0), (2, 127), (0, ((k : Nat) : Int))]) (st' := [(0, ((k : Nat) : Int) + 1), (5, z), (2, 127), (0, v)]) (g' := g1) rfl ?_
  refine wp_sald (k + 1) (hTLw10 _ _ rfl) (by omega) (by omega) (by omega) ?_
  refine wp_nT hTLw10 4 (pc' := 633) (L' := [(5, z), (2, 0), (2, 127), (0, ((k : Nat) : Int))]) (st' := [(0, ((k : Nat) : Int) + 2), (5, z), (0, sx (k + 1)), (2, 127), (0, v)]) (g' := g1) rfl ?_
  refine wp_sald (k + 2) (hTLw10 _ _ rfl) (by omega) (by omega) (by omega) ?_
  refine wp_nT hTLw10 4 (pc' := 638) (L' := [(5, z), (2, 0), (2, 127), (0, ((k : Nat) : Int))]) (st' := [(0, ((k : Nat) : Int) + 3), (5, z), (0, sx (k + 2)), (0, sx (k + 1)), (2, 127), (0, v)]) (g' := g1) rfl ?_
  refine wp_sald (k + 3) (hTLw10 _ _ rfl) (by omega) (by omega) (by omega) ?_
  refine wp_nT hTLw10 4 (pc' := 643) (L' := [(5, z), (2, 0), (2, 127), (0, ((k : Nat) : Int))]) (st' := [(0, ((k : Nat) : Int) + 4), (5, z), (0, sx (k + 3)), (0, sx (k + 2)), (0, sx (k + 1)), (2, 127), (0, v)]) (g' := g1) rfl ?_
  refine wp_sald (k + 4) (hTLw10 _ _ rfl) (by omega) (by omega) (by omega) ?_
  refine wp_nT hTLw10 4 (pc' := 648) (L' := [(5, z), (2, 0), (2, 127), (0, ((k : Nat) : Int))]) (st' := [(0, ((k : Nat) : Int) + 5), (5, z), (0, sx (k + 4)), (0, sx (k + 3)), (0, sx (k + 2)), (0, sx (k + 1)), (2, 127), (0, v)]) (g' := g1) rfl ?_
  refine wp_sald (k + 5) (hTLw10 _ _ rfl) (by omega) (by omega) (by omega) ?_
  refine wp_nT hTLw10 4 (pc' := 654) (L' := [(5, z), (2, 0), (2, 127), (0, ((k : Nat) : Int))]) (st' := [(0, ((k : Nat) : Int) + 6), (5, z), (0, sx (k + 5)), (0, sx (k + 4)), (0, sx (k + 3)), (0, sx (k + 2)), (0, sx (k + 1)), (2, 127), (0, v)]) (g' := g1) rfl ?_
  refine wp_sald (k + 6) (hTLw10 _ _ rfl) (by omega) (by omega) (by omega) ?_
  refine wp_cv (as := [(2, 127), (0, sx (k + 1)), (0, sx (k + 2)), (0, sx (k + 3)), (0, sx (k + 4)), (0, sx (k + 5)), (0, sx (k + 6))]) (rest := [(0, v)]) (hTLw10 _ _ rfl) rfl rfl (Nat.le_of_ble_eq_true rfl) rfl (M_drop (hx _) (hx _) (hx _) (hx _) (hx _) (hx _) hI hM1) (by decide) (fun r2 hr2 => ?_)
  obtain ⟨g2, rfl, hI2, hM2⟩ := h2 _ hr2
  exact wp_ic_eq (hTLw10 _ _ rfl) (fun _ => kk b1 g2 hI2 hM2) (fun c => absurd rfl c)
def TLw11 : List (Nat × am_E) := [(663, .aload_n 1, 1, 0, 0), (664, .aload_n 0, 1, 0, 0), (665, .iload_n 3, 1, 0, 0), (666, .iconst 1, 1, 0, 0), (667, .iadd, 1, 0, 0), (668, .iaload, 1, 0, 0), (669, .aload_n 0, 1, 0, 0), (670, .iload_n 3, 1, 0, 0), (671, .iconst 2, 1, 0, 0), (672, .iadd, 1, 0, 0), (673, .iaload, 1, 0, 0), (674, .aload_n 0, 1, 0, 0), (675, .iload_n 3, 1, 0, 0), (676, .iconst 3, 1, 0, 0), (677, .iadd, 1, 0, 0), (678, .iaload, 1, 0, 0), (679, .aload_n 0, 1, 0, 0), (680, .iload_n 3, 1, 0, 0), (681, .iconst 4, 1, 0, 0), (682, .iadd, 1, 0, 0), (683, .iaload, 1, 0, 0), (684, .aload_n 0, 1, 0, 0), (685, .iload_n 3, 1, 0, 0), (686, .iconst 5, 1, 0, 0), (687, .iadd, 1, 0, 0), (688, .iaload, 1, 0, 0), (689, .aload_n 0, 1, 0, 0), (690, .iload_n 3, 1, 0, 0), (691, .bipush 6, 2, 0, 0), (693, .iadd, 1, 0, 0), (694, .iaload, 1, 0, 0), (695, .invokevirtual 74, 3, 107, 6), (698, .aload_n 2, 1, 0, 0), (699, .aload_n 0, 1, 0, 0), (700, .iload_n 3, 1, 0, 0), (701, .iconst 1, 1, 0, 0), (702, .iadd, 1, 0, 0), (703, .iaload, 1, 0, 0), (704, .aload_n 0, 1, 0, 0), (705, .iload_n 3, 1, 0, 0), (706, .iconst 2, 1, 0, 0), (707, .iadd, 1, 0, 0), (708, .iaload, 1, 0, 0), (709, .aload_n 0, 1, 0, 0), (710, .iload_n 3, 1, 0, 0), (711, .iconst 3, 1, 0, 0), (712, .iadd, 1, 0, 0), (713, .iaload, 1, 0, 0), (714, .aload_n 0, 1, 0, 0), (715, .iload_n 3, 1, 0, 0), (716, .iconst 4, 1, 0, 0), (717, .iadd, 1, 0, 0), (718, .iaload, 1, 0, 0), (719, .aload_n 0, 1, 0, 0), (720, .iload_n 3, 1, 0, 0), (721, .iconst 5, 1, 0, 0), (722, .iadd, 1, 0, 0), (723, .iaload, 1, 0, 0), (724, .aload_n 0, 1, 0, 0), (725, .iload_n 3, 1, 0, 0), (726, .bipush 6, 2, 0, 0), (728, .iadd, 1, 0, 0), (729, .iaload, 1, 0, 0), (730, .invokevirtual 77, 3, 200, 6), (733, .if_icmp .eq 1002, 3, 1735, 0), (736, .iconst 0, 1, 0, 0), (737, .ireturn, 1, 1, 0)]
theorem hTLw11 : ∀ pc e, am_fd TLw11 pc = some e → am_fd TL pc = some e := tl_of (by decide +kernel)
theorem law_w11 (hs : sn ≤ 3585) (hx : ∀ j, R32 (sx j)) (hk : k + 7 ≤ sn) (hI : CInv P g) (hM : MRel g g) (kk : ∀ b2 g2, CInv P g2 → MRel g2 g2 → Wp sn sx 80 TL 1735 [(5, z), (2, 0), (2, 127), (0, ((k : Nat) : Int))] [] (SH b2) g2 Q) : Wp sn sx 80 TL 663 [(5, z), (2, 0), (2, 127), (0, ((k : Nat) : Int))] [] (SH b) g Q := by
  refine wp_nT hTLw11 5 (pc' := 668) (L' := [(5, z), (2, 0), (2, 127), (0, ((k : Nat) : Int))]) (st' := [(0, ((k : Nat) : Int) + 1), (5, z), (2, 0)]) (g' := g) rfl ?_
  refine wp_sald (k + 1) (hTLw11 _ _ rfl) (by omega) (by omega) (by omega) ?_
  refine wp_nT hTLw11 4 (pc' := 673) (L' := [(5, z), (2, 0), (2, 127), (0, ((k : Nat) : Int))]) (st' := [(0, ((k : Nat) : Int) + 2), (5, z), (0, sx (k + 1)), (2, 0)]) (g' := g) rfl ?_
  refine wp_sald (k + 2) (hTLw11 _ _ rfl) (by omega) (by omega) (by omega) ?_
  refine wp_nT hTLw11 4 (pc' := 678) (L' := [(5, z), (2, 0), (2, 127), (0, ((k : Nat) : Int))]) (st' := [(0, ((k : Nat) : Int) + 3), (5, z), (0, sx (k + 2)), (0, sx (k + 1)), (2, 0)]) (g' := g) rfl ?_
  refine wp_sald (k + 3) (hTLw11 _ _ rfl) (by omega) (by omega) (by omega) ?_
  refine wp_nT hTLw11 4 (pc' := 683) (L' := [(5, z), (2, 0), (2, 127), (0, ((k : Nat) : Int))]) (st' := [(0, ((k : Nat) : Int) + 4), (5, z), (0, sx (k + 3)), (0, sx (k + 2)), (0, sx (k + 1)), (2, 0)]) (g' := g) rfl ?_
  refine wp_sald (k + 4) (hTLw11 _ _ rfl) (by omega) (by omega) (by omega) ?_
  refine wp_nT hTLw11 4 (pc' := 688) (L' := [(5, z), (2, 0), (2, 127), (0, ((k : Nat) : Int))]) (st' := [(0, ((k : Nat) : Int) + 5), (5, z), (0, sx (k + 4)), (0, sx (k + 3)), (0, sx (k + 2)), (0, sx (k + 1)), (2, 0)]) (g' := g) rfl ?_
  refine wp_sald (k + 5) (hTLw11 _ _ rfl) (by omega) (by omega) (by omega) ?_
  refine wp_nT hTLw11 4 (pc' := 694) (L' := [(5, z), (2, 0), (2, 127), (0, ((k : Nat) : Int))]) (st' := [(0, ((k : Nat) : Int) + 6), (5, z), (0, sx (k + 5)), (0, sx (k + 4)), (0, sx (k + 3)), (0, sx (k + 2)), (0, sx (k + 1)), (2, 0)]) (g' := g) rfl ?_
  refine wp_sald (k + 6) (hTLw11 _ _ rfl) (by omega) (by omega) (by omega) ?_
  refine wp_cv (as := [(2, 0), (0, sx (k + 1)), (0, sx (k + 2)), (0, sx (k + 3)), (0, sx (k + 4)), (0, sx (k + 5)), (0, sx (k + 6))]) (rest := []) (hTLw11 _ _ rfl) rfl rfl (Nat.le_of_ble_eq_true rfl) rfl (C_foretold (hx _) (hx _) (hx _) (hx _) (hx _) (hx _) hI) (by decide) (fun r1 hr1 => ?_)
  obtain ⟨g1, v, b1, rfl, hM1, h2⟩ := law_pair hM hr1
  refine wp_nT hTLw11 5 (pc' := 703) (L' := [(5, z), (2, 0), (2, 127), (0, ((k : Nat) : Int))]) (st' := [(0, ((k : Nat) : Int) + 1), (5, z), (2, 127), (0, v)]) (g' := g1) rfl ?_
  refine wp_sald (k + 1) (hTLw11 _ _ rfl) (by omega) (by omega) (by omega) ?_
  refine wp_nT hTLw11 4 (pc' := 708) (L' := [(5, z), (2, 0), (2, 127), (0, ((k : Nat) : Int))]) (st' := [(0, ((k : Nat) : Int) + 2), (5, z), (0, sx (k + 1)), (2, 127), (0, v)]) (g' := g1) rfl ?_
  refine wp_sald (k + 2) (hTLw11 _ _ rfl) (by omega) (by omega) (by omega) ?_
  refine wp_nT hTLw11 4 (pc' := 713) (L' := [(5, z), (2, 0), (2, 127), (0, ((k : Nat) : Int))]) (st' := [(0, ((k : Nat) : Int) + 3), (5, z), (0, sx (k + 2)), (0, sx (k + 1)), (2, 127), (0, v)]) (g' := g1) rfl ?_
  refine wp_sald (k + 3) (hTLw11 _ _ rfl) (by omega) (by omega) (by omega) ?_
  refine wp_nT hTLw11 4 (pc' := 718) (L' := [(5, z), (2, 0), (2, 127), (0, ((k : Nat) : Int))]) (st' := [(0, ((k : Nat) : Int) + 4), (5, z), (0, sx (k + 3)), (0, sx (k + 2)), (0, sx (k + 1)), (2, 127), (0, v)]) (g' := g1) rfl ?_
  refine wp_sald (k + 4) (hTLw11 _ _ rfl) (by omega) (by omega) (by omega) ?_
  refine wp_nT hTLw11 4 (pc' := 723) (L' := [(5, z), (2, 0), (2, 127), (0, ((k : Nat) : Int))]) (st' := [(0, ((k : Nat) : Int) + 5), (5, z), (0, sx (k + 4)), (0, sx (k + 3)), (0, sx (k + 2)), (0, sx (k + 1)), (2, 127), (0, v)]) (g' := g1) rfl ?_
  refine wp_sald (k + 5) (hTLw11 _ _ rfl) (by omega) (by omega) (by omega) ?_
  refine wp_nT hTLw11 4 (pc' := 729) (L' := [(5, z), (2, 0), (2, 127), (0, ((k : Nat) : Int))]) (st' := [(0, ((k : Nat) : Int) + 6), (5, z), (0, sx (k + 5)), (0, sx (k + 4)), (0, sx (k + 3)), (0, sx (k + 2)), (0, sx (k + 1)), (2, 127), (0, v)]) (g' := g1) rfl ?_
  refine wp_sald (k + 6) (hTLw11 _ _ rfl) (by omega) (by omega) (by omega) ?_
  refine wp_cv (as := [(2, 127), (0, sx (k + 1)), (0, sx (k + 2)), (0, sx (k + 3)), (0, sx (k + 4)), (0, sx (k + 5)), (0, sx (k + 6))]) (rest := [(0, v)]) (hTLw11 _ _ rfl) rfl rfl (Nat.le_of_ble_eq_true rfl) rfl (M_foretold (hx _) (hx _) (hx _) (hx _) (hx _) (hx _) hI hM1) (by decide) (fun r2 hr2 => ?_)
  obtain ⟨g2, rfl, hI2, hM2⟩ := h2 _ hr2
  exact wp_ic_eq (hTLw11 _ _ rfl) (fun _ => kk b1 g2 hI2 hM2) (fun c => absurd rfl c)
def TLw12 : List (Nat × am_E) := [(738, .aload_n 1, 1, 0, 0), (739, .aload_n 0, 1, 0, 0), (740, .iload_n 3, 1, 0, 0), (741, .iconst 1, 1, 0, 0), (742, .iadd, 1, 0, 0), (743, .iaload, 1, 0, 0), (744, .aload_n 0, 1, 0, 0), (745, .iload_n 3, 1, 0, 0), (746, .iconst 2, 1, 0, 0), (747, .iadd, 1, 0, 0), (748, .iaload, 1, 0, 0), (749, .aload_n 0, 1, 0, 0), (750, .iload_n 3, 1, 0, 0), (751, .iconst 3, 1, 0, 0), (752, .iadd, 1, 0, 0), (753, .iaload, 1, 0, 0), (754, .aload_n 0, 1, 0, 0), (755, .iload_n 3, 1, 0, 0), (756, .iconst 4, 1, 0, 0), (757, .iadd, 1, 0, 0), (758, .iaload, 1, 0, 0), (759, .aload_n 0, 1, 0, 0), (760, .iload_n 3, 1, 0, 0), (761, .iconst 5, 1, 0, 0), (762, .iadd, 1, 0, 0), (763, .iaload, 1, 0, 0), (764, .aload_n 0, 1, 0, 0), (765, .iload_n 3, 1, 0, 0), (766, .bipush 6, 2, 0, 0), (768, .iadd, 1, 0, 0), (769, .iaload, 1, 0, 0), (770, .invokevirtual 78, 3, 108, 6), (773, .aload_n 2, 1, 0, 0), (774, .aload_n 0, 1, 0, 0), (775, .iload_n 3, 1, 0, 0), (776, .iconst 1, 1, 0, 0), (777, .iadd, 1, 0, 0), (778, .iaload, 1, 0, 0), (779, .aload_n 0, 1, 0, 0), (780, .iload_n 3, 1, 0, 0), (781, .iconst 2, 1, 0, 0), (782, .iadd, 1, 0, 0), (783, .iaload, 1, 0, 0), (784, .aload_n 0, 1, 0, 0), (785, .iload_n 3, 1, 0, 0), (786, .iconst 3, 1, 0, 0), (787, .iadd, 1, 0, 0), (788, .iaload, 1, 0, 0), (789, .aload_n 0, 1, 0, 0), (790, .iload_n 3, 1, 0, 0), (791, .iconst 4, 1, 0, 0), (792, .iadd, 1, 0, 0), (793, .iaload, 1, 0, 0), (794, .aload_n 0, 1, 0, 0), (795, .iload_n 3, 1, 0, 0), (796, .iconst 5, 1, 0, 0), (797, .iadd, 1, 0, 0), (798, .iaload, 1, 0, 0), (799, .aload_n 0, 1, 0, 0), (800, .iload_n 3, 1, 0, 0), (801, .bipush 6, 2, 0, 0), (803, .iadd, 1, 0, 0), (804, .iaload, 1, 0, 0), (805, .invokevirtual 81, 3, 202, 6), (808, .if_icmp .eq 927, 3, 1735, 0), (811, .iconst 0, 1, 0, 0), (812, .ireturn, 1, 1, 0)]
theorem hTLw12 : ∀ pc e, am_fd TLw12 pc = some e → am_fd TL pc = some e := tl_of (by decide +kernel)
theorem law_w12 (hs : sn ≤ 3585) (hx : ∀ j, R32 (sx j)) (hk : k + 7 ≤ sn) (hI : CInv P g) (hM : MRel g g) (kk : ∀ b2 g2, CInv P g2 → MRel g2 g2 → Wp sn sx 80 TL 1735 [(5, z), (2, 0), (2, 127), (0, ((k : Nat) : Int))] [] (SH b2) g2 Q) : Wp sn sx 80 TL 738 [(5, z), (2, 0), (2, 127), (0, ((k : Nat) : Int))] [] (SH b) g Q := by
  refine wp_nT hTLw12 5 (pc' := 743) (L' := [(5, z), (2, 0), (2, 127), (0, ((k : Nat) : Int))]) (st' := [(0, ((k : Nat) : Int) + 1), (5, z), (2, 0)]) (g' := g) rfl ?_
  refine wp_sald (k + 1) (hTLw12 _ _ rfl) (by omega) (by omega) (by omega) ?_
  refine wp_nT hTLw12 4 (pc' := 748) (L' := [(5, z), (2, 0), (2, 127), (0, ((k : Nat) : Int))]) (st' := [(0, ((k : Nat) : Int) + 2), (5, z), (0, sx (k + 1)), (2, 0)]) (g' := g) rfl ?_
  refine wp_sald (k + 2) (hTLw12 _ _ rfl) (by omega) (by omega) (by omega) ?_
  refine wp_nT hTLw12 4 (pc' := 753) (L' := [(5, z), (2, 0), (2, 127), (0, ((k : Nat) : Int))]) (st' := [(0, ((k : Nat) : Int) + 3), (5, z), (0, sx (k + 2)), (0, sx (k + 1)), (2, 0)]) (g' := g) rfl ?_
  refine wp_sald (k + 3) (hTLw12 _ _ rfl) (by omega) (by omega) (by omega) ?_
  refine wp_nT hTLw12 4 (pc' := 758) (L' := [(5, z), (2, 0), (2, 127), (0, ((k : Nat) : Int))]) (st' := [(0, ((k : Nat) : Int) + 4), (5, z), (0, sx (k + 3)), (0, sx (k + 2)), (0, sx (k + 1)), (2, 0)]) (g' := g) rfl ?_
  refine wp_sald (k + 4) (hTLw12 _ _ rfl) (by omega) (by omega) (by omega) ?_
  refine wp_nT hTLw12 4 (pc' := 763) (L' := [(5, z), (2, 0), (2, 127), (0, ((k : Nat) : Int))]) (st' := [(0, ((k : Nat) : Int) + 5), (5, z), (0, sx (k + 4)), (0, sx (k + 3)), (0, sx (k + 2)), (0, sx (k + 1)), (2, 0)]) (g' := g) rfl ?_
  refine wp_sald (k + 5) (hTLw12 _ _ rfl) (by omega) (by omega) (by omega) ?_
  refine wp_nT hTLw12 4 (pc' := 769) (L' := [(5, z), (2, 0), (2, 127), (0, ((k : Nat) : Int))]) (st' := [(0, ((k : Nat) : Int) + 6), (5, z), (0, sx (k + 5)), (0, sx (k + 4)), (0, sx (k + 3)), (0, sx (k + 2)), (0, sx (k + 1)), (2, 0)]) (g' := g) rfl ?_
  refine wp_sald (k + 6) (hTLw12 _ _ rfl) (by omega) (by omega) (by omega) ?_
  refine wp_cv (as := [(2, 0), (0, sx (k + 1)), (0, sx (k + 2)), (0, sx (k + 3)), (0, sx (k + 4)), (0, sx (k + 5)), (0, sx (k + 6))]) (rest := []) (hTLw12 _ _ rfl) rfl rfl (Nat.le_of_ble_eq_true rfl) rfl (C_start (hx _) (hx _) (hx _) (hx _) (hx _) (hx _) hI) (by decide) (fun r1 hr1 => ?_)
  obtain ⟨g1, v, b1, rfl, hM1, h2⟩ := law_pair hM hr1
  refine wp_nT hTLw12 5 (pc' := 778) (L' := [(5, z), (2, 0), (2, 127), (0, ((k : Nat) : Int))]) (st' := [(0, ((k : Nat) : Int) + 1), (5, z), (2, 127), (0, v)]) (g' := g1) rfl ?_
  refine wp_sald (k + 1) (hTLw12 _ _ rfl) (by omega) (by omega) (by omega) ?_
  refine wp_nT hTLw12 4 (pc' := 783) (L' := [(5, z), (2, 0), (2, 127), (0, ((k : Nat) : Int))]) (st' := [(0, ((k : Nat) : Int) + 2), (5, z), (0, sx (k + 1)), (2, 127), (0, v)]) (g' := g1) rfl ?_
  refine wp_sald (k + 2) (hTLw12 _ _ rfl) (by omega) (by omega) (by omega) ?_
  refine wp_nT hTLw12 4 (pc' := 788) (L' := [(5, z), (2, 0), (2, 127), (0, ((k : Nat) : Int))]) (st' := [(0, ((k : Nat) : Int) + 3), (5, z), (0, sx (k + 2)), (0, sx (k + 1)), (2, 127), (0, v)]) (g' := g1) rfl ?_
  refine wp_sald (k + 3) (hTLw12 _ _ rfl) (by omega) (by omega) (by omega) ?_
  refine wp_nT hTLw12 4 (pc' := 793) (L' := [(5, z), (2, 0), (2, 127), (0, ((k : Nat) : Int))]) (st' := [(0, ((k : Nat) : Int) + 4), (5, z), (0, sx (k + 3)), (0, sx (k + 2)), (0, sx (k + 1)), (2, 127), (0, v)]) (g' := g1) rfl ?_
  refine wp_sald (k + 4) (hTLw12 _ _ rfl) (by omega) (by omega) (by omega) ?_
  refine wp_nT hTLw12 4 (pc' := 798) (L' := [(5, z), (2, 0), (2, 127), (0, ((k : Nat) : Int))]) (st' := [(0, ((k : Nat) : Int) + 5), (5, z), (0, sx (k + 4)), (0, sx (k + 3)), (0, sx (k + 2)), (0, sx (k + 1)), (2, 127), (0, v)]) (g' := g1) rfl ?_
  refine wp_sald (k + 5) (hTLw12 _ _ rfl) (by omega) (by omega) (by omega) ?_
  refine wp_nT hTLw12 4 (pc' := 804) (L' := [(5, z), (2, 0), (2, 127), (0, ((k : Nat) : Int))]) (st' := [(0, ((k : Nat) : Int) + 6), (5, z), (0, sx (k + 5)), (0, sx (k + 4)), (0, sx (k + 3)), (0, sx (k + 2)), (0, sx (k + 1)), (2, 127), (0, v)]) (g' := g1) rfl ?_
  refine wp_sald (k + 6) (hTLw12 _ _ rfl) (by omega) (by omega) (by omega) ?_
  refine wp_cv (as := [(2, 127), (0, sx (k + 1)), (0, sx (k + 2)), (0, sx (k + 3)), (0, sx (k + 4)), (0, sx (k + 5)), (0, sx (k + 6))]) (rest := [(0, v)]) (hTLw12 _ _ rfl) rfl rfl (Nat.le_of_ble_eq_true rfl) rfl (M_start (hx _) (hx _) (hx _) (hx _) (hx _) (hx _) hI hM1) (by decide) (fun r2 hr2 => ?_)
  obtain ⟨g2, rfl, hI2, hM2⟩ := h2 _ hr2
  exact wp_ic_eq (hTLw12 _ _ rfl) (fun _ => kk b1 g2 hI2 hM2) (fun c => absurd rfl c)
def TLw13 : List (Nat × am_E) := [(813, .aload_n 1, 1, 0, 0), (814, .aload_n 0, 1, 0, 0), (815, .iload_n 3, 1, 0, 0), (816, .iconst 1, 1, 0, 0), (817, .iadd, 1, 0, 0), (818, .iaload, 1, 0, 0), (819, .aload_n 0, 1, 0, 0), (820, .iload_n 3, 1, 0, 0), (821, .iconst 2, 1, 0, 0), (822, .iadd, 1, 0, 0), (823, .iaload, 1, 0, 0), (824, .aload_n 0, 1, 0, 0), (825, .iload_n 3, 1, 0, 0), (826, .iconst 3, 1, 0, 0), (827, .iadd, 1, 0, 0), (828, .iaload, 1, 0, 0), (829, .invokevirtual 82, 3, 109, 3), (832, .aload_n 2, 1, 0, 0), (833, .aload_n 0, 1, 0, 0), (834, .iload_n 3, 1, 0, 0), (835, .iconst 1, 1, 0, 0), (836, .iadd, 1, 0, 0), (837, .iaload, 1, 0, 0), (838, .aload_n 0, 1, 0, 0), (839, .iload_n 3, 1, 0, 0), (840, .iconst 2, 1, 0, 0), (841, .iadd, 1, 0, 0), (842, .iaload, 1, 0, 0), (843, .aload_n 0, 1, 0, 0), (844, .iload_n 3, 1, 0, 0), (845, .iconst 3, 1, 0, 0), (846, .iadd, 1, 0, 0), (847, .iaload, 1, 0, 0), (848, .invokevirtual 86, 3, 203, 3), (851, .if_icmp .eq 884, 3, 1735, 0), (854, .iconst 0, 1, 0, 0), (855, .ireturn, 1, 1, 0)]
theorem hTLw13 : ∀ pc e, am_fd TLw13 pc = some e → am_fd TL pc = some e := tl_of (by decide +kernel)
theorem law_w13 (hs : sn ≤ 3585) (hx : ∀ j, R32 (sx j)) (hk : k + 7 ≤ sn) (hI : CInv P g) (hM : MRel g g) (kk : ∀ b2 g2, CInv P g2 → MRel g2 g2 → Wp sn sx 80 TL 1735 [(5, z), (2, 0), (2, 127), (0, ((k : Nat) : Int))] [] (SH b2) g2 Q) : Wp sn sx 80 TL 813 [(5, z), (2, 0), (2, 127), (0, ((k : Nat) : Int))] [] (SH b) g Q := by
  refine wp_nT hTLw13 5 (pc' := 818) (L' := [(5, z), (2, 0), (2, 127), (0, ((k : Nat) : Int))]) (st' := [(0, ((k : Nat) : Int) + 1), (5, z), (2, 0)]) (g' := g) rfl ?_
  refine wp_sald (k + 1) (hTLw13 _ _ rfl) (by omega) (by omega) (by omega) ?_
  refine wp_nT hTLw13 4 (pc' := 823) (L' := [(5, z), (2, 0), (2, 127), (0, ((k : Nat) : Int))]) (st' := [(0, ((k : Nat) : Int) + 2), (5, z), (0, sx (k + 1)), (2, 0)]) (g' := g) rfl ?_
  refine wp_sald (k + 2) (hTLw13 _ _ rfl) (by omega) (by omega) (by omega) ?_
  refine wp_nT hTLw13 4 (pc' := 828) (L' := [(5, z), (2, 0), (2, 127), (0, ((k : Nat) : Int))]) (st' := [(0, ((k : Nat) : Int) + 3), (5, z), (0, sx (k + 2)), (0, sx (k + 1)), (2, 0)]) (g' := g) rfl ?_
  refine wp_sald (k + 3) (hTLw13 _ _ rfl) (by omega) (by omega) (by omega) ?_
  refine wp_cv (as := [(2, 0), (0, sx (k + 1)), (0, sx (k + 2)), (0, sx (k + 3))]) (rest := []) (hTLw13 _ _ rfl) rfl rfl (Nat.le_of_ble_eq_true rfl) rfl (C_odds (hx _) (hx _) (hx _) hI) (by decide) (fun r1 hr1 => ?_)
  obtain ⟨g1, v, b1, rfl, hM1, h2⟩ := law_pair hM hr1
  refine wp_nT hTLw13 5 (pc' := 837) (L' := [(5, z), (2, 0), (2, 127), (0, ((k : Nat) : Int))]) (st' := [(0, ((k : Nat) : Int) + 1), (5, z), (2, 127), (0, v)]) (g' := g1) rfl ?_
  refine wp_sald (k + 1) (hTLw13 _ _ rfl) (by omega) (by omega) (by omega) ?_
  refine wp_nT hTLw13 4 (pc' := 842) (L' := [(5, z), (2, 0), (2, 127), (0, ((k : Nat) : Int))]) (st' := [(0, ((k : Nat) : Int) + 2), (5, z), (0, sx (k + 1)), (2, 127), (0, v)]) (g' := g1) rfl ?_
  refine wp_sald (k + 2) (hTLw13 _ _ rfl) (by omega) (by omega) (by omega) ?_
  refine wp_nT hTLw13 4 (pc' := 847) (L' := [(5, z), (2, 0), (2, 127), (0, ((k : Nat) : Int))]) (st' := [(0, ((k : Nat) : Int) + 3), (5, z), (0, sx (k + 2)), (0, sx (k + 1)), (2, 127), (0, v)]) (g' := g1) rfl ?_
  refine wp_sald (k + 3) (hTLw13 _ _ rfl) (by omega) (by omega) (by omega) ?_
  refine wp_cv (as := [(2, 127), (0, sx (k + 1)), (0, sx (k + 2)), (0, sx (k + 3))]) (rest := [(0, v)]) (hTLw13 _ _ rfl) rfl rfl (Nat.le_of_ble_eq_true rfl) rfl (M_odds (hx _) (hx _) (hx _) hI hM1) (by decide) (fun r2 hr2 => ?_)
  obtain ⟨g2, rfl, hI2, hM2⟩ := h2 _ hr2
  exact wp_ic_eq (hTLw13 _ _ rfl) (fun _ => kk b1 g2 hI2 hM2) (fun c => absurd rfl c)
def TLw14 : List (Nat × am_E) := [(856, .aload_n 1, 1, 0, 0), (857, .aload_n 0, 1, 0, 0), (858, .iload_n 3, 1, 0, 0), (859, .iconst 1, 1, 0, 0), (860, .iadd, 1, 0, 0), (861, .iaload, 1, 0, 0), (862, .aload_n 0, 1, 0, 0), (863, .iload_n 3, 1, 0, 0), (864, .iconst 2, 1, 0, 0), (865, .iadd, 1, 0, 0), (866, .iaload, 1, 0, 0), (867, .aload_n 0, 1, 0, 0), (868, .iload_n 3, 1, 0, 0), (869, .iconst 3, 1, 0, 0), (870, .iadd, 1, 0, 0), (871, .iaload, 1, 0, 0), (872, .aload_n 0, 1, 0, 0), (873, .iload_n 3, 1, 0, 0), (874, .iconst 4, 1, 0, 0), (875, .iadd, 1, 0, 0), (876, .iaload, 1, 0, 0), (877, .invokevirtual 87, 3, 110, 4), (880, .aload_n 2, 1, 0, 0), (881, .aload_n 0, 1, 0, 0), (882, .iload_n 3, 1, 0, 0), (883, .iconst 1, 1, 0, 0), (884, .iadd, 1, 0, 0), (885, .iaload, 1, 0, 0), (886, .aload_n 0, 1, 0, 0), (887, .iload_n 3, 1, 0, 0), (888, .iconst 2, 1, 0, 0), (889, .iadd, 1, 0, 0), (890, .iaload, 1, 0, 0), (891, .aload_n 0, 1, 0, 0), (892, .iload_n 3, 1, 0, 0), (893, .iconst 3, 1, 0, 0), (894, .iadd, 1, 0, 0), (895, .iaload, 1, 0, 0), (896, .aload_n 0, 1, 0, 0), (897, .iload_n 3, 1, 0, 0), (898, .iconst 4, 1, 0, 0), (899, .iadd, 1, 0, 0), (900, .iaload, 1, 0, 0), (901, .invokevirtual 91, 3, 225, 4), (904, .if_icmp .eq 831, 3, 1735, 0), (907, .iconst 0, 1, 0, 0), (908, .ireturn, 1, 1, 0)]
theorem hTLw14 : ∀ pc e, am_fd TLw14 pc = some e → am_fd TL pc = some e := tl_of (by decide +kernel)
theorem law_w14 (hs : sn ≤ 3585) (hx : ∀ j, R32 (sx j)) (hk : k + 7 ≤ sn) (hI : CInv P g) (hM : MRel g g) (kk : ∀ b2 g2, CInv P g2 → MRel g2 g2 → Wp sn sx 80 TL 1735 [(5, z), (2, 0), (2, 127), (0, ((k : Nat) : Int))] [] (SH b2) g2 Q) : Wp sn sx 80 TL 856 [(5, z), (2, 0), (2, 127), (0, ((k : Nat) : Int))] [] (SH b) g Q := by
  refine wp_nT hTLw14 5 (pc' := 861) (L' := [(5, z), (2, 0), (2, 127), (0, ((k : Nat) : Int))]) (st' := [(0, ((k : Nat) : Int) + 1), (5, z), (2, 0)]) (g' := g) rfl ?_
  refine wp_sald (k + 1) (hTLw14 _ _ rfl) (by omega) (by omega) (by omega) ?_
  refine wp_nT hTLw14 4 (pc' := 866) (L' := [(5, z), (2, 0), (2, 127), (0, ((k : Nat) : Int))]) (st' := [(0, ((k : Nat) : Int) + 2), (5, z), (0, sx (k + 1)), (2, 0)]) (g' := g) rfl ?_
  refine wp_sald (k + 2) (hTLw14 _ _ rfl) (by omega) (by omega) (by omega) ?_
  refine wp_nT hTLw14 4 (pc' := 871) (L' := [(5, z), (2, 0), (2, 127), (0, ((k : Nat) : Int))]) (st' := [(0, ((k : Nat) : Int) + 3), (5, z), (0, sx (k + 2)), (0, sx (k + 1)), (2, 0)]) (g' := g) rfl ?_
  refine wp_sald (k + 3) (hTLw14 _ _ rfl) (by omega) (by omega) (by omega) ?_
  refine wp_nT hTLw14 4 (pc' := 876) (L' := [(5, z), (2, 0), (2, 127), (0, ((k : Nat) : Int))]) (st' := [(0, ((k : Nat) : Int) + 4), (5, z), (0, sx (k + 3)), (0, sx (k + 2)), (0, sx (k + 1)), (2, 0)]) (g' := g) rfl ?_
  refine wp_sald (k + 4) (hTLw14 _ _ rfl) (by omega) (by omega) (by omega) ?_
  refine wp_cv (as := [(2, 0), (0, sx (k + 1)), (0, sx (k + 2)), (0, sx (k + 3)), (0, sx (k + 4))]) (rest := []) (hTLw14 _ _ rfl) rfl rfl (Nat.le_of_ble_eq_true rfl) rfl (C_write (hx _) (hx _) (hx _) (hx _) hI) (by decide) (fun r1 hr1 => ?_)
  obtain ⟨g1, v, b1, rfl, hM1, h2⟩ := law_pair hM hr1
  refine wp_nT hTLw14 5 (pc' := 885) (L' := [(5, z), (2, 0), (2, 127), (0, ((k : Nat) : Int))]) (st' := [(0, ((k : Nat) : Int) + 1), (5, z), (2, 127), (0, v)]) (g' := g1) rfl ?_
  refine wp_sald (k + 1) (hTLw14 _ _ rfl) (by omega) (by omega) (by omega) ?_
  refine wp_nT hTLw14 4 (pc' := 890) (L' := [(5, z), (2, 0), (2, 127), (0, ((k : Nat) : Int))]) (st' := [(0, ((k : Nat) : Int) + 2), (5, z), (0, sx (k + 1)), (2, 127), (0, v)]) (g' := g1) rfl ?_
  refine wp_sald (k + 2) (hTLw14 _ _ rfl) (by omega) (by omega) (by omega) ?_
  refine wp_nT hTLw14 4 (pc' := 895) (L' := [(5, z), (2, 0), (2, 127), (0, ((k : Nat) : Int))]) (st' := [(0, ((k : Nat) : Int) + 3), (5, z), (0, sx (k + 2)), (0, sx (k + 1)), (2, 127), (0, v)]) (g' := g1) rfl ?_
  refine wp_sald (k + 3) (hTLw14 _ _ rfl) (by omega) (by omega) (by omega) ?_
  refine wp_nT hTLw14 4 (pc' := 900) (L' := [(5, z), (2, 0), (2, 127), (0, ((k : Nat) : Int))]) (st' := [(0, ((k : Nat) : Int) + 4), (5, z), (0, sx (k + 3)), (0, sx (k + 2)), (0, sx (k + 1)), (2, 127), (0, v)]) (g' := g1) rfl ?_
  refine wp_sald (k + 4) (hTLw14 _ _ rfl) (by omega) (by omega) (by omega) ?_
  refine wp_cv (as := [(2, 127), (0, sx (k + 1)), (0, sx (k + 2)), (0, sx (k + 3)), (0, sx (k + 4))]) (rest := [(0, v)]) (hTLw14 _ _ rfl) rfl rfl (Nat.le_of_ble_eq_true rfl) rfl (M_write (hx _) (hx _) (hx _) (hx _) hI hM1) (by decide) (fun r2 hr2 => ?_)
  obtain ⟨g2, rfl, hI2, hM2⟩ := h2 _ hr2
  exact wp_ic_eq (hTLw14 _ _ rfl) (fun _ => kk b1 g2 hI2 hM2) (fun c => absurd rfl c)
def TLw15 : List (Nat × am_E) := [(909, .aload_n 1, 1, 0, 0), (910, .aload_n 0, 1, 0, 0), (911, .iload_n 3, 1, 0, 0), (912, .iconst 1, 1, 0, 0), (913, .iadd, 1, 0, 0), (914, .iaload, 1, 0, 0), (915, .aload_n 0, 1, 0, 0), (916, .iload_n 3, 1, 0, 0), (917, .iconst 2, 1, 0, 0), (918, .iadd, 1, 0, 0), (919, .iaload, 1, 0, 0), (920, .aload_n 0, 1, 0, 0), (921, .iload_n 3, 1, 0, 0), (922, .iconst 3, 1, 0, 0), (923, .iadd, 1, 0, 0), (924, .iaload, 1, 0, 0), (925, .invokevirtual 92, 3, 111, 3), (928, .aload_n 2, 1, 0, 0), (929, .aload_n 0, 1, 0, 0), (930, .iload_n 3, 1, 0, 0), (931, .iconst 1, 1, 0, 0), (932, .iadd, 1, 0, 0), (933, .iaload, 1, 0, 0), (934, .aload_n 0, 1, 0, 0), (935, .iload_n 3, 1, 0, 0), (936, .iconst 2, 1, 0, 0), (937, .iadd, 1, 0, 0), (938, .iaload, 1, 0, 0), (939, .aload_n 0, 1, 0, 0), (940, .iload_n 3, 1, 0, 0), (941, .iconst 3, 1, 0, 0), (942, .iadd, 1, 0, 0), (943, .iaload, 1, 0, 0), (944, .invokevirtual 96, 3, 226, 3), (947, .if_icmp .eq 788, 3, 1735, 0), (950, .iconst 0, 1, 0, 0), (951, .ireturn, 1, 1, 0)]
theorem hTLw15 : ∀ pc e, am_fd TLw15 pc = some e → am_fd TL pc = some e := tl_of (by decide +kernel)
theorem law_w15 (hs : sn ≤ 3585) (hx : ∀ j, R32 (sx j)) (hk : k + 7 ≤ sn) (hI : CInv P g) (hM : MRel g g) (kk : ∀ b2 g2, CInv P g2 → MRel g2 g2 → Wp sn sx 80 TL 1735 [(5, z), (2, 0), (2, 127), (0, ((k : Nat) : Int))] [] (SH b2) g2 Q) : Wp sn sx 80 TL 909 [(5, z), (2, 0), (2, 127), (0, ((k : Nat) : Int))] [] (SH b) g Q := by
  refine wp_nT hTLw15 5 (pc' := 914) (L' := [(5, z), (2, 0), (2, 127), (0, ((k : Nat) : Int))]) (st' := [(0, ((k : Nat) : Int) + 1), (5, z), (2, 0)]) (g' := g) rfl ?_
  refine wp_sald (k + 1) (hTLw15 _ _ rfl) (by omega) (by omega) (by omega) ?_
  refine wp_nT hTLw15 4 (pc' := 919) (L' := [(5, z), (2, 0), (2, 127), (0, ((k : Nat) : Int))]) (st' := [(0, ((k : Nat) : Int) + 2), (5, z), (0, sx (k + 1)), (2, 0)]) (g' := g) rfl ?_
  refine wp_sald (k + 2) (hTLw15 _ _ rfl) (by omega) (by omega) (by omega) ?_
  refine wp_nT hTLw15 4 (pc' := 924) (L' := [(5, z), (2, 0), (2, 127), (0, ((k : Nat) : Int))]) (st' := [(0, ((k : Nat) : Int) + 3), (5, z), (0, sx (k + 2)), (0, sx (k + 1)), (2, 0)]) (g' := g) rfl ?_
  refine wp_sald (k + 3) (hTLw15 _ _ rfl) (by omega) (by omega) (by omega) ?_
  refine wp_cv (as := [(2, 0), (0, sx (k + 1)), (0, sx (k + 2)), (0, sx (k + 3))]) (rest := []) (hTLw15 _ _ rfl) rfl rfl (Nat.le_of_ble_eq_true rfl) rfl (C_scratch (hx _) (hx _) (hx _) hI) (by decide) (fun r1 hr1 => ?_)
  obtain ⟨g1, v, b1, rfl, hM1, h2⟩ := law_pair hM hr1
  refine wp_nT hTLw15 5 (pc' := 933) (L' := [(5, z), (2, 0), (2, 127), (0, ((k : Nat) : Int))]) (st' := [(0, ((k : Nat) : Int) + 1), (5, z), (2, 127), (0, v)]) (g' := g1) rfl ?_
  refine wp_sald (k + 1) (hTLw15 _ _ rfl) (by omega) (by omega) (by omega) ?_
  refine wp_nT hTLw15 4 (pc' := 938) (L' := [(5, z), (2, 0), (2, 127), (0, ((k : Nat) : Int))]) (st' := [(0, ((k : Nat) : Int) + 2), (5, z), (0, sx (k + 1)), (2, 127), (0, v)]) (g' := g1) rfl ?_
  refine wp_sald (k + 2) (hTLw15 _ _ rfl) (by omega) (by omega) (by omega) ?_
  refine wp_nT hTLw15 4 (pc' := 943) (L' := [(5, z), (2, 0), (2, 127), (0, ((k : Nat) : Int))]) (st' := [(0, ((k : Nat) : Int) + 3), (5, z), (0, sx (k + 2)), (0, sx (k + 1)), (2, 127), (0, v)]) (g' := g1) rfl ?_
  refine wp_sald (k + 3) (hTLw15 _ _ rfl) (by omega) (by omega) (by omega) ?_
  refine wp_cv (as := [(2, 127), (0, sx (k + 1)), (0, sx (k + 2)), (0, sx (k + 3))]) (rest := [(0, v)]) (hTLw15 _ _ rfl) rfl rfl (Nat.le_of_ble_eq_true rfl) rfl (M_scratch (hx _) (hx _) (hx _) hI hM1) (by decide) (fun r2 hr2 => ?_)
  obtain ⟨g2, rfl, hI2, hM2⟩ := h2 _ hr2
  exact wp_ic_eq (hTLw15 _ _ rfl) (fun _ => kk b1 g2 hI2 hM2) (fun c => absurd rfl c)
def TLw16 : List (Nat × am_E) := [(952, .aload_n 1, 1, 0, 0), (953, .aload_n 0, 1, 0, 0), (954, .iload_n 3, 1, 0, 0), (955, .iconst 1, 1, 0, 0), (956, .iadd, 1, 0, 0), (957, .iaload, 1, 0, 0), (958, .aload_n 0, 1, 0, 0), (959, .iload_n 3, 1, 0, 0), (960, .iconst 2, 1, 0, 0), (961, .iadd, 1, 0, 0), (962, .iaload, 1, 0, 0), (963, .invokevirtual 97, 3, 112, 2), (966, .aload_n 2, 1, 0, 0), (967, .aload_n 0, 1, 0, 0), (968, .iload_n 3, 1, 0, 0), (969, .iconst 1, 1, 0, 0), (970, .iadd, 1, 0, 0), (971, .iaload, 1, 0, 0), (972, .aload_n 0, 1, 0, 0), (973, .iload_n 3, 1, 0, 0), (974, .iconst 2, 1, 0, 0), (975, .iadd, 1, 0, 0), (976, .iaload, 1, 0, 0), (977, .invokevirtual 101, 3, 234, 2), (980, .if_icmp .eq 755, 3, 1735, 0), (983, .iconst 0, 1, 0, 0), (984, .ireturn, 1, 1, 0)]
theorem hTLw16 : ∀ pc e, am_fd TLw16 pc = some e → am_fd TL pc = some e := tl_of (by decide +kernel)
theorem law_w16 (hs : sn ≤ 3585) (hx : ∀ j, R32 (sx j)) (hk : k + 7 ≤ sn) (hI : CInv P g) (hM : MRel g g) (kk : ∀ b2 g2, CInv P g2 → MRel g2 g2 → Wp sn sx 80 TL 1735 [(5, z), (2, 0), (2, 127), (0, ((k : Nat) : Int))] [] (SH b2) g2 Q) : Wp sn sx 80 TL 952 [(5, z), (2, 0), (2, 127), (0, ((k : Nat) : Int))] [] (SH b) g Q := by
  refine wp_nT hTLw16 5 (pc' := 957) (L' := [(5, z), (2, 0), (2, 127), (0, ((k : Nat) : Int))]) (st' := [(0, ((k : Nat) : Int) + 1), (5, z), (2, 0)]) (g' := g) rfl ?_
  refine wp_sald (k + 1) (hTLw16 _ _ rfl) (by omega) (by omega) (by omega) ?_
  refine wp_nT hTLw16 4 (pc' := 962) (L' := [(5, z), (2, 0), (2, 127), (0, ((k : Nat) : Int))]) (st' := [(0, ((k : Nat) : Int) + 2), (5, z), (0, sx (k + 1)), (2, 0)]) (g' := g) rfl ?_
  refine wp_sald (k + 2) (hTLw16 _ _ rfl) (by omega) (by omega) (by omega) ?_
  refine wp_cv (as := [(2, 0), (0, sx (k + 1)), (0, sx (k + 2))]) (rest := []) (hTLw16 _ _ rfl) rfl rfl (Nat.le_of_ble_eq_true rfl) rfl (C_which (hx _) (hx _) hI) (by decide) (fun r1 hr1 => ?_)
  obtain ⟨g1, v, b1, rfl, hM1, h2⟩ := law_pair hM hr1
  refine wp_nT hTLw16 5 (pc' := 971) (L' := [(5, z), (2, 0), (2, 127), (0, ((k : Nat) : Int))]) (st' := [(0, ((k : Nat) : Int) + 1), (5, z), (2, 127), (0, v)]) (g' := g1) rfl ?_
  refine wp_sald (k + 1) (hTLw16 _ _ rfl) (by omega) (by omega) (by omega) ?_
  refine wp_nT hTLw16 4 (pc' := 976) (L' := [(5, z), (2, 0), (2, 127), (0, ((k : Nat) : Int))]) (st' := [(0, ((k : Nat) : Int) + 2), (5, z), (0, sx (k + 1)), (2, 127), (0, v)]) (g' := g1) rfl ?_
  refine wp_sald (k + 2) (hTLw16 _ _ rfl) (by omega) (by omega) (by omega) ?_
  refine wp_cv (as := [(2, 127), (0, sx (k + 1)), (0, sx (k + 2))]) (rest := [(0, v)]) (hTLw16 _ _ rfl) rfl rfl (Nat.le_of_ble_eq_true rfl) rfl (M_which (hx _) (hx _) hI hM1) (by decide) (fun r2 hr2 => ?_)
  obtain ⟨g2, rfl, hI2, hM2⟩ := h2 _ hr2
  exact wp_ic_eq (hTLw16 _ _ rfl) (fun _ => kk b1 g2 hI2 hM2) (fun c => absurd rfl c)
def TLw17 : List (Nat × am_E) := [(985, .aload_n 1, 1, 0, 0), (986, .aload_n 0, 1, 0, 0), (987, .iload_n 3, 1, 0, 0), (988, .iconst 1, 1, 0, 0), (989, .iadd, 1, 0, 0), (990, .iaload, 1, 0, 0), (991, .aload_n 0, 1, 0, 0), (992, .iload_n 3, 1, 0, 0), (993, .iconst 2, 1, 0, 0), (994, .iadd, 1, 0, 0), (995, .iaload, 1, 0, 0), (996, .invokevirtual 102, 3, 113, 2), (999, .aload_n 2, 1, 0, 0), (1000, .aload_n 0, 1, 0, 0), (1001, .iload_n 3, 1, 0, 0), (1002, .iconst 1, 1, 0, 0), (1003, .iadd, 1, 0, 0), (1004, .iaload, 1, 0, 0), (1005, .aload_n 0, 1, 0, 0), (1006, .iload_n 3, 1, 0, 0), (1007, .iconst 2, 1, 0, 0), (1008, .iadd, 1, 0, 0), (1009, .iaload, 1, 0, 0), (1010, .invokevirtual 105, 3, 236, 2), (1013, .if_icmp .eq 722, 3, 1735, 0), (1016, .iconst 0, 1, 0, 0), (1017, .ireturn, 1, 1, 0)]
theorem hTLw17 : ∀ pc e, am_fd TLw17 pc = some e → am_fd TL pc = some e := tl_of (by decide +kernel)
theorem law_w17 (hs : sn ≤ 3585) (hx : ∀ j, R32 (sx j)) (hk : k + 7 ≤ sn) (hI : CInv P g) (hM : MRel g g) (kk : ∀ b2 g2, CInv P g2 → MRel g2 g2 → Wp sn sx 80 TL 1735 [(5, z), (2, 0), (2, 127), (0, ((k : Nat) : Int))] [] (SH b2) g2 Q) : Wp sn sx 80 TL 985 [(5, z), (2, 0), (2, 127), (0, ((k : Nat) : Int))] [] (SH b) g Q := by
  refine wp_nT hTLw17 5 (pc' := 990) (L' := [(5, z), (2, 0), (2, 127), (0, ((k : Nat) : Int))]) (st' := [(0, ((k : Nat) : Int) + 1), (5, z), (2, 0)]) (g' := g) rfl ?_
  refine wp_sald (k + 1) (hTLw17 _ _ rfl) (by omega) (by omega) (by omega) ?_
  refine wp_nT hTLw17 4 (pc' := 995) (L' := [(5, z), (2, 0), (2, 127), (0, ((k : Nat) : Int))]) (st' := [(0, ((k : Nat) : Int) + 2), (5, z), (0, sx (k + 1)), (2, 0)]) (g' := g) rfl ?_
  refine wp_sald (k + 2) (hTLw17 _ _ rfl) (by omega) (by omega) (by omega) ?_
  refine wp_cv (as := [(2, 0), (0, sx (k + 1)), (0, sx (k + 2))]) (rest := []) (hTLw17 _ _ rfl) rfl rfl (Nat.le_of_ble_eq_true rfl) rfl (C_falls (hx _) (hx _) hI) (by decide) (fun r1 hr1 => ?_)
  obtain ⟨g1, v, b1, rfl, hM1, h2⟩ := law_pair hM hr1
  refine wp_nT hTLw17 5 (pc' := 1004) (L' := [(5, z), (2, 0), (2, 127), (0, ((k : Nat) : Int))]) (st' := [(0, ((k : Nat) : Int) + 1), (5, z), (2, 127), (0, v)]) (g' := g1) rfl ?_
  refine wp_sald (k + 1) (hTLw17 _ _ rfl) (by omega) (by omega) (by omega) ?_
  refine wp_nT hTLw17 4 (pc' := 1009) (L' := [(5, z), (2, 0), (2, 127), (0, ((k : Nat) : Int))]) (st' := [(0, ((k : Nat) : Int) + 2), (5, z), (0, sx (k + 1)), (2, 127), (0, v)]) (g' := g1) rfl ?_
  refine wp_sald (k + 2) (hTLw17 _ _ rfl) (by omega) (by omega) (by omega) ?_
  refine wp_cv (as := [(2, 127), (0, sx (k + 1)), (0, sx (k + 2))]) (rest := [(0, v)]) (hTLw17 _ _ rfl) rfl rfl (Nat.le_of_ble_eq_true rfl) rfl (M_falls (hx _) (hx _) hI hM1) (by decide) (fun r2 hr2 => ?_)
  obtain ⟨g2, rfl, hI2, hM2⟩ := h2 _ hr2
  exact wp_ic_eq (hTLw17 _ _ rfl) (fun _ => kk b1 g2 hI2 hM2) (fun c => absurd rfl c)
def TLw18 : List (Nat × am_E) := [(1018, .aload_n 1, 1, 0, 0), (1019, .aload_n 0, 1, 0, 0), (1020, .iload_n 3, 1, 0, 0), (1021, .iconst 1, 1, 0, 0), (1022, .iadd, 1, 0, 0), (1023, .iaload, 1, 0, 0), (1024, .aload_n 0, 1, 0, 0), (1025, .iload_n 3, 1, 0, 0), (1026, .iconst 2, 1, 0, 0), (1027, .iadd, 1, 0, 0), (1028, .iaload, 1, 0, 0), (1029, .aload_n 0, 1, 0, 0), (1030, .iload_n 3, 1, 0, 0), (1031, .iconst 3, 1, 0, 0), (1032, .iadd, 1, 0, 0), (1033, .iaload, 1, 0, 0), (1034, .invokevirtual 106, 3, 114, 3), (1037, .aload_n 2, 1, 0, 0), (1038, .aload_n 0, 1, 0, 0), (1039, .iload_n 3, 1, 0, 0), (1040, .iconst 1, 1, 0, 0), (1041, .iadd, 1, 0, 0), (1042, .iaload, 1, 0, 0), (1043, .aload_n 0, 1, 0, 0), (1044, .iload_n 3, 1, 0, 0), (1045, .iconst 2, 1, 0, 0), (1046, .iadd, 1, 0, 0), (1047, .iaload, 1, 0, 0), (1048, .aload_n 0, 1, 0, 0), (1049, .iload_n 3, 1, 0, 0), (1050, .iconst 3, 1, 0, 0), (1051, .iadd, 1, 0, 0), (1052, .iaload, 1, 0, 0), (1053, .invokevirtual 109, 3, 238, 3), (1056, .if_icmp .eq 679, 3, 1735, 0), (1059, .iconst 0, 1, 0, 0), (1060, .ireturn, 1, 1, 0)]
theorem hTLw18 : ∀ pc e, am_fd TLw18 pc = some e → am_fd TL pc = some e := tl_of (by decide +kernel)
theorem law_w18 (hs : sn ≤ 3585) (hx : ∀ j, R32 (sx j)) (hk : k + 7 ≤ sn) (hI : CInv P g) (hM : MRel g g) (kk : ∀ b2 g2, CInv P g2 → MRel g2 g2 → Wp sn sx 80 TL 1735 [(5, z), (2, 0), (2, 127), (0, ((k : Nat) : Int))] [] (SH b2) g2 Q) : Wp sn sx 80 TL 1018 [(5, z), (2, 0), (2, 127), (0, ((k : Nat) : Int))] [] (SH b) g Q := by
  refine wp_nT hTLw18 5 (pc' := 1023) (L' := [(5, z), (2, 0), (2, 127), (0, ((k : Nat) : Int))]) (st' := [(0, ((k : Nat) : Int) + 1), (5, z), (2, 0)]) (g' := g) rfl ?_
  refine wp_sald (k + 1) (hTLw18 _ _ rfl) (by omega) (by omega) (by omega) ?_
  refine wp_nT hTLw18 4 (pc' := 1028) (L' := [(5, z), (2, 0), (2, 127), (0, ((k : Nat) : Int))]) (st' := [(0, ((k : Nat) : Int) + 2), (5, z), (0, sx (k + 1)), (2, 0)]) (g' := g) rfl ?_
  refine wp_sald (k + 2) (hTLw18 _ _ rfl) (by omega) (by omega) (by omega) ?_
  refine wp_nT hTLw18 4 (pc' := 1033) (L' := [(5, z), (2, 0), (2, 127), (0, ((k : Nat) : Int))]) (st' := [(0, ((k : Nat) : Int) + 3), (5, z), (0, sx (k + 2)), (0, sx (k + 1)), (2, 0)]) (g' := g) rfl ?_
  refine wp_sald (k + 3) (hTLw18 _ _ rfl) (by omega) (by omega) (by omega) ?_
  refine wp_cv (as := [(2, 0), (0, sx (k + 1)), (0, sx (k + 2)), (0, sx (k + 3))]) (rest := []) (hTLw18 _ _ rfl) rfl rfl (Nat.le_of_ble_eq_true rfl) rfl (C_nine (hx _) (hx _) (hx _) hI) (by decide) (fun r1 hr1 => ?_)
  obtain ⟨g1, v, b1, rfl, hM1, h2⟩ := law_pair hM hr1
  refine wp_nT hTLw18 5 (pc' := 1042) (L' := [(5, z), (2, 0), (2, 127), (0, ((k : Nat) : Int))]) (st' := [(0, ((k : Nat) : Int) + 1), (5, z), (2, 127), (0, v)]) (g' := g1) rfl ?_
  refine wp_sald (k + 1) (hTLw18 _ _ rfl) (by omega) (by omega) (by omega) ?_
  refine wp_nT hTLw18 4 (pc' := 1047) (L' := [(5, z), (2, 0), (2, 127), (0, ((k : Nat) : Int))]) (st' := [(0, ((k : Nat) : Int) + 2), (5, z), (0, sx (k + 1)), (2, 127), (0, v)]) (g' := g1) rfl ?_
  refine wp_sald (k + 2) (hTLw18 _ _ rfl) (by omega) (by omega) (by omega) ?_
  refine wp_nT hTLw18 4 (pc' := 1052) (L' := [(5, z), (2, 0), (2, 127), (0, ((k : Nat) : Int))]) (st' := [(0, ((k : Nat) : Int) + 3), (5, z), (0, sx (k + 2)), (0, sx (k + 1)), (2, 127), (0, v)]) (g' := g1) rfl ?_
  refine wp_sald (k + 3) (hTLw18 _ _ rfl) (by omega) (by omega) (by omega) ?_
  refine wp_cv (as := [(2, 127), (0, sx (k + 1)), (0, sx (k + 2)), (0, sx (k + 3))]) (rest := [(0, v)]) (hTLw18 _ _ rfl) rfl rfl (Nat.le_of_ble_eq_true rfl) rfl (M_nine (hx _) (hx _) (hx _) hI hM1) (by decide) (fun r2 hr2 => ?_)
  obtain ⟨g2, rfl, hI2, hM2⟩ := h2 _ hr2
  exact wp_ic_eq (hTLw18 _ _ rfl) (fun _ => kk b1 g2 hI2 hM2) (fun c => absurd rfl c)
def TLw19 : List (Nat × am_E) := [(1061, .aload_n 1, 1, 0, 0), (1062, .aload_n 0, 1, 0, 0), (1063, .iload_n 3, 1, 0, 0), (1064, .iconst 1, 1, 0, 0), (1065, .iadd, 1, 0, 0), (1066, .iaload, 1, 0, 0), (1067, .aload_n 0, 1, 0, 0), (1068, .iload_n 3, 1, 0, 0), (1069, .iconst 2, 1, 0, 0), (1070, .iadd, 1, 0, 0), (1071, .iaload, 1, 0, 0), (1072, .aload_n 0, 1, 0, 0), (1073, .iload_n 3, 1, 0, 0), (1074, .iconst 3, 1, 0, 0), (1075, .iadd, 1, 0, 0), (1076, .iaload, 1, 0, 0), (1077, .invokevirtual 110, 3, 115, 3), (1080, .aload_n 2, 1, 0, 0), (1081, .aload_n 0, 1, 0, 0), (1082, .iload_n 3, 1, 0, 0), (1083, .iconst 1, 1, 0, 0), (1084, .iadd, 1, 0, 0), (1085, .iaload, 1, 0, 0), (1086, .aload_n 0, 1, 0, 0), (1087, .iload_n 3, 1, 0, 0), (1088, .iconst 2, 1, 0, 0), (1089, .iadd, 1, 0, 0), (1090, .iaload, 1, 0, 0), (1091, .aload_n 0, 1, 0, 0), (1092, .iload_n 3, 1, 0, 0), (1093, .iconst 3, 1, 0, 0), (1094, .iadd, 1, 0, 0), (1095, .iaload, 1, 0, 0), (1096, .invokevirtual 113, 3, 217, 3), (1099, .if_icmp .eq 636, 3, 1735, 0), (1102, .iconst 0, 1, 0, 0), (1103, .ireturn, 1, 1, 0)]
theorem hTLw19 : ∀ pc e, am_fd TLw19 pc = some e → am_fd TL pc = some e := tl_of (by decide +kernel)
theorem law_w19 (hs : sn ≤ 3585) (hx : ∀ j, R32 (sx j)) (hk : k + 7 ≤ sn) (hI : CInv P g) (hM : MRel g g) (kk : ∀ b2 g2, CInv P g2 → MRel g2 g2 → Wp sn sx 80 TL 1735 [(5, z), (2, 0), (2, 127), (0, ((k : Nat) : Int))] [] (SH b2) g2 Q) : Wp sn sx 80 TL 1061 [(5, z), (2, 0), (2, 127), (0, ((k : Nat) : Int))] [] (SH b) g Q := by
  refine wp_nT hTLw19 5 (pc' := 1066) (L' := [(5, z), (2, 0), (2, 127), (0, ((k : Nat) : Int))]) (st' := [(0, ((k : Nat) : Int) + 1), (5, z), (2, 0)]) (g' := g) rfl ?_
  refine wp_sald (k + 1) (hTLw19 _ _ rfl) (by omega) (by omega) (by omega) ?_
  refine wp_nT hTLw19 4 (pc' := 1071) (L' := [(5, z), (2, 0), (2, 127), (0, ((k : Nat) : Int))]) (st' := [(0, ((k : Nat) : Int) + 2), (5, z), (0, sx (k + 1)), (2, 0)]) (g' := g) rfl ?_
  refine wp_sald (k + 2) (hTLw19 _ _ rfl) (by omega) (by omega) (by omega) ?_
  refine wp_nT hTLw19 4 (pc' := 1076) (L' := [(5, z), (2, 0), (2, 127), (0, ((k : Nat) : Int))]) (st' := [(0, ((k : Nat) : Int) + 3), (5, z), (0, sx (k + 2)), (0, sx (k + 1)), (2, 0)]) (g' := g) rfl ?_
  refine wp_sald (k + 3) (hTLw19 _ _ rfl) (by omega) (by omega) (by omega) ?_
  refine wp_cv (as := [(2, 0), (0, sx (k + 1)), (0, sx (k + 2)), (0, sx (k + 3))]) (rest := []) (hTLw19 _ _ rfl) rfl rfl (Nat.le_of_ble_eq_true rfl) rfl (C_above (hx _) (hx _) (hx _) hI) (by decide) (fun r1 hr1 => ?_)
  obtain ⟨g1, v, b1, rfl, hM1, h2⟩ := law_pair hM hr1
  refine wp_nT hTLw19 5 (pc' := 1085) (L' := [(5, z), (2, 0), (2, 127), (0, ((k : Nat) : Int))]) (st' := [(0, ((k : Nat) : Int) + 1), (5, z), (2, 127), (0, v)]) (g' := g1) rfl ?_
  refine wp_sald (k + 1) (hTLw19 _ _ rfl) (by omega) (by omega) (by omega) ?_
  refine wp_nT hTLw19 4 (pc' := 1090) (L' := [(5, z), (2, 0), (2, 127), (0, ((k : Nat) : Int))]) (st' := [(0, ((k : Nat) : Int) + 2), (5, z), (0, sx (k + 1)), (2, 127), (0, v)]) (g' := g1) rfl ?_
  refine wp_sald (k + 2) (hTLw19 _ _ rfl) (by omega) (by omega) (by omega) ?_
  refine wp_nT hTLw19 4 (pc' := 1095) (L' := [(5, z), (2, 0), (2, 127), (0, ((k : Nat) : Int))]) (st' := [(0, ((k : Nat) : Int) + 3), (5, z), (0, sx (k + 2)), (0, sx (k + 1)), (2, 127), (0, v)]) (g' := g1) rfl ?_
  refine wp_sald (k + 3) (hTLw19 _ _ rfl) (by omega) (by omega) (by omega) ?_
  refine wp_cv (as := [(2, 127), (0, sx (k + 1)), (0, sx (k + 2)), (0, sx (k + 3))]) (rest := [(0, v)]) (hTLw19 _ _ rfl) rfl rfl (Nat.le_of_ble_eq_true rfl) rfl (M_above (hx _) (hx _) (hx _) hI hM1) (by decide) (fun r2 hr2 => ?_)
  obtain ⟨g2, rfl, hI2, hM2⟩ := h2 _ hr2
  exact wp_ic_eq (hTLw19 _ _ rfl) (fun _ => kk b1 g2 hI2 hM2) (fun c => absurd rfl c)
def TLw20 : List (Nat × am_E) := [(1104, .aload_n 1, 1, 0, 0), (1105, .aload_n 0, 1, 0, 0), (1106, .iload_n 3, 1, 0, 0), (1107, .iconst 1, 1, 0, 0), (1108, .iadd, 1, 0, 0), (1109, .iaload, 1, 0, 0), (1110, .aload_n 0, 1, 0, 0), (1111, .iload_n 3, 1, 0, 0), (1112, .iconst 2, 1, 0, 0), (1113, .iadd, 1, 0, 0), (1114, .iaload, 1, 0, 0), (1115, .aload_n 0, 1, 0, 0), (1116, .iload_n 3, 1, 0, 0), (1117, .iconst 3, 1, 0, 0), (1118, .iadd, 1, 0, 0), (1119, .iaload, 1, 0, 0), (1120, .invokevirtual 114, 3, 116, 3), (1123, .aload_n 2, 1, 0, 0), (1124, .aload_n 0, 1, 0, 0), (1125, .iload_n 3, 1, 0, 0), (1126, .iconst 1, 1, 0, 0), (1127, .iadd, 1, 0, 0), (1128, .iaload, 1, 0, 0), (1129, .aload_n 0, 1, 0, 0), (1130, .iload_n 3, 1, 0, 0), (1131, .iconst 2, 1, 0, 0), (1132, .iadd, 1, 0, 0), (1133, .iaload, 1, 0, 0), (1134, .aload_n 0, 1, 0, 0), (1135, .iload_n 3, 1, 0, 0), (1136, .iconst 3, 1, 0, 0), (1137, .iadd, 1, 0, 0), (1138, .iaload, 1, 0, 0), (1139, .invokevirtual 117, 3, 219, 3), (1142, .if_icmp .eq 593, 3, 1735, 0), (1145, .iconst 0, 1, 0, 0), (1146, .ireturn, 1, 1, 0)]
theorem hTLw20 : ∀ pc e, am_fd TLw20 pc = some e → am_fd TL pc = some e := tl_of (by decide +kernel)
theorem law_w20 (hs : sn ≤ 3585) (hx : ∀ j, R32 (sx j)) (hk : k + 7 ≤ sn) (hI : CInv P g) (hM : MRel g g) (kk : ∀ b2 g2, CInv P g2 → MRel g2 g2 → Wp sn sx 80 TL 1735 [(5, z), (2, 0), (2, 127), (0, ((k : Nat) : Int))] [] (SH b2) g2 Q) : Wp sn sx 80 TL 1104 [(5, z), (2, 0), (2, 127), (0, ((k : Nat) : Int))] [] (SH b) g Q := by
  refine wp_nT hTLw20 5 (pc' := 1109) (L' := [(5, z), (2, 0), (2, 127), (0, ((k : Nat) : Int))]) (st' := [(0, ((k : Nat) : Int) + 1), (5, z), (2, 0)]) (g' := g) rfl ?_
  refine wp_sald (k + 1) (hTLw20 _ _ rfl) (by omega) (by omega) (by omega) ?_
  refine wp_nT hTLw20 4 (pc' := 1114) (L' := [(5, z), (2, 0), (2, 127), (0, ((k : Nat) : Int))]) (st' := [(0, ((k : Nat) : Int) + 2), (5, z), (0, sx (k + 1)), (2, 0)]) (g' := g) rfl ?_
  refine wp_sald (k + 2) (hTLw20 _ _ rfl) (by omega) (by omega) (by omega) ?_
  refine wp_nT hTLw20 4 (pc' := 1119) (L' := [(5, z), (2, 0), (2, 127), (0, ((k : Nat) : Int))]) (st' := [(0, ((k : Nat) : Int) + 3), (5, z), (0, sx (k + 2)), (0, sx (k + 1)), (2, 0)]) (g' := g) rfl ?_
  refine wp_sald (k + 3) (hTLw20 _ _ rfl) (by omega) (by omega) (by omega) ?_
  refine wp_cv (as := [(2, 0), (0, sx (k + 1)), (0, sx (k + 2)), (0, sx (k + 3))]) (rest := []) (hTLw20 _ _ rfl) rfl rfl (Nat.le_of_ble_eq_true rfl) rfl (C_among (hx _) (hx _) (hx _) hI) (by decide) (fun r1 hr1 => ?_)
  obtain ⟨g1, v, b1, rfl, hM1, h2⟩ := law_pair hM hr1
  refine wp_nT hTLw20 5 (pc' := 1128) (L' := [(5, z), (2, 0), (2, 127), (0, ((k : Nat) : Int))]) (st' := [(0, ((k : Nat) : Int) + 1), (5, z), (2, 127), (0, v)]) (g' := g1) rfl ?_
  refine wp_sald (k + 1) (hTLw20 _ _ rfl) (by omega) (by omega) (by omega) ?_
  refine wp_nT hTLw20 4 (pc' := 1133) (L' := [(5, z), (2, 0), (2, 127), (0, ((k : Nat) : Int))]) (st' := [(0, ((k : Nat) : Int) + 2), (5, z), (0, sx (k + 1)), (2, 127), (0, v)]) (g' := g1) rfl ?_
  refine wp_sald (k + 2) (hTLw20 _ _ rfl) (by omega) (by omega) (by omega) ?_
  refine wp_nT hTLw20 4 (pc' := 1138) (L' := [(5, z), (2, 0), (2, 127), (0, ((k : Nat) : Int))]) (st' := [(0, ((k : Nat) : Int) + 3), (5, z), (0, sx (k + 2)), (0, sx (k + 1)), (2, 127), (0, v)]) (g' := g1) rfl ?_
  refine wp_sald (k + 3) (hTLw20 _ _ rfl) (by omega) (by omega) (by omega) ?_
  refine wp_cv (as := [(2, 127), (0, sx (k + 1)), (0, sx (k + 2)), (0, sx (k + 3))]) (rest := [(0, v)]) (hTLw20 _ _ rfl) rfl rfl (Nat.le_of_ble_eq_true rfl) rfl (M_among (hx _) (hx _) (hx _) hI hM1) (by decide) (fun r2 hr2 => ?_)
  obtain ⟨g2, rfl, hI2, hM2⟩ := h2 _ hr2
  exact wp_ic_eq (hTLw20 _ _ rfl) (fun _ => kk b1 g2 hI2 hM2) (fun c => absurd rfl c)
def TLw21 : List (Nat × am_E) := [(1147, .aload_n 1, 1, 0, 0), (1148, .aload_n 0, 1, 0, 0), (1149, .iload_n 3, 1, 0, 0), (1150, .iconst 1, 1, 0, 0), (1151, .iadd, 1, 0, 0), (1152, .iaload, 1, 0, 0), (1153, .aload_n 0, 1, 0, 0), (1154, .iload_n 3, 1, 0, 0), (1155, .iconst 2, 1, 0, 0), (1156, .iadd, 1, 0, 0), (1157, .iaload, 1, 0, 0), (1158, .aload_n 0, 1, 0, 0), (1159, .iload_n 3, 1, 0, 0), (1160, .iconst 3, 1, 0, 0), (1161, .iadd, 1, 0, 0), (1162, .iaload, 1, 0, 0), (1163, .aload_n 0, 1, 0, 0), (1164, .iload_n 3, 1, 0, 0), (1165, .iconst 4, 1, 0, 0), (1166, .iadd, 1, 0, 0), (1167, .iaload, 1, 0, 0), (1168, .ifCond .eq 7, 3, 1175, 0), (1171, .iconst 1, 1, 0, 0), (1172, .goto 4, 3, 1176, 0), (1175, .iconst 0, 1, 0, 0), (1176, .invokevirtual 118, 3, 117, 4), (1179, .aload_n 2, 1, 0, 0), (1180, .aload_n 0, 1, 0, 0), (1181, .iload_n 3, 1, 0, 0), (1182, .iconst 1, 1, 0, 0), (1183, .iadd, 1, 0, 0), (1184, .iaload, 1, 0, 0), (1185, .aload_n 0, 1, 0, 0), (1186, .iload_n 3, 1, 0, 0), (1187, .iconst 2, 1, 0, 0), (1188, .iadd, 1, 0, 0), (1189, .iaload, 1, 0, 0), (1190, .aload_n 0, 1, 0, 0), (1191, .iload_n 3, 1, 0, 0), (1192, .iconst 3, 1, 0, 0), (1193, .iadd, 1, 0, 0), (1194, .iaload, 1, 0, 0), (1195, .aload_n 0, 1, 0, 0), (1196, .iload_n 3, 1, 0, 0), (1197, .iconst 4, 1, 0, 0), (1198, .iadd, 1, 0, 0), (1199, .iaload, 1, 0, 0), (1200, .ifCond .eq 7, 3, 1207, 0), (1203, .iconst 1, 1, 0, 0), (1204, .goto 4, 3, 1208, 0), (1207, .iconst 0, 1, 0, 0), (1208, .invokevirtual 122, 3, 222, 4), (1211, .if_icmp .eq 524, 3, 1735, 0), (1214, .iconst 0, 1, 0, 0), (1215, .ireturn, 1, 1, 0)]
theorem hTLw21 : ∀ pc e, am_fd TLw21 pc = some e → am_fd TL pc = some e := tl_of (by decide +kernel)
theorem law_w21 (hs : sn ≤ 3585) (hx : ∀ j, R32 (sx j)) (hk : k + 7 ≤ sn) (hI : CInv P g) (hM : MRel g g) (kk : ∀ b2 g2, CInv P g2 → MRel g2 g2 → Wp sn sx 80 TL 1735 [(5, z), (2, 0), (2, 127), (0, ((k : Nat) : Int))] [] (SH b2) g2 Q) : Wp sn sx 80 TL 1147 [(5, z), (2, 0), (2, 127), (0, ((k : Nat) : Int))] [] (SH b) g Q := by
  refine wp_nT hTLw21 5 (pc' := 1152) (L' := [(5, z), (2, 0), (2, 127), (0, ((k : Nat) : Int))]) (st' := [(0, ((k : Nat) : Int) + 1), (5, z), (2, 0)]) (g' := g) rfl ?_
  refine wp_sald (k + 1) (hTLw21 _ _ rfl) (by omega) (by omega) (by omega) ?_
  refine wp_nT hTLw21 4 (pc' := 1157) (L' := [(5, z), (2, 0), (2, 127), (0, ((k : Nat) : Int))]) (st' := [(0, ((k : Nat) : Int) + 2), (5, z), (0, sx (k + 1)), (2, 0)]) (g' := g) rfl ?_
  refine wp_sald (k + 2) (hTLw21 _ _ rfl) (by omega) (by omega) (by omega) ?_
  refine wp_nT hTLw21 4 (pc' := 1162) (L' := [(5, z), (2, 0), (2, 127), (0, ((k : Nat) : Int))]) (st' := [(0, ((k : Nat) : Int) + 3), (5, z), (0, sx (k + 2)), (0, sx (k + 1)), (2, 0)]) (g' := g) rfl ?_
  refine wp_sald (k + 3) (hTLw21 _ _ rfl) (by omega) (by omega) (by omega) ?_
  refine wp_nT hTLw21 4 (pc' := 1167) (L' := [(5, z), (2, 0), (2, 127), (0, ((k : Nat) : Int))]) (st' := [(0, ((k : Nat) : Int) + 4), (5, z), (0, sx (k + 3)), (0, sx (k + 2)), (0, sx (k + 1)), (2, 0)]) (g' := g) rfl ?_
  refine wp_sald (k + 4) (hTLw21 _ _ rfl) (by omega) (by omega) (by omega) ?_
  refine wp_if_eq (hTLw21 _ _ rfl) (fun c0 => ?_) (fun c0 => ?_)
  · skip
    refine wp_nT hTLw21 1 (pc' := 1176) (L' := [(5, z), (2, 0), (2, 127), (0, ((k : Nat) : Int))]) (st' := [(0, 0), (0, sx (k + 3)), (0, sx (k + 2)), (0, sx (k + 1)), (2, 0)]) (g' := g) rfl ?_
    refine wp_cv (as := [(2, 0), (0, sx (k + 1)), (0, sx (k + 2)), (0, sx (k + 3)), (0, 0)]) (rest := []) (hTLw21 _ _ rfl) rfl rfl (Nat.le_of_ble_eq_true rfl) rfl (C_span (hx _) (hx _) (hx _) (by decide) hI) (by decide) (fun r1 hr1 => ?_)
    obtain ⟨g1, v, b1, rfl, hM1, h2⟩ := law_pair hM hr1
    refine wp_nT hTLw21 5 (pc' := 1184) (L' := [(5, z), (2, 0), (2, 127), (0, ((k : Nat) : Int))]) (st' := [(0, ((k : Nat) : Int) + 1), (5, z), (2, 127), (0, v)]) (g' := g1) rfl ?_
    refine wp_sald (k + 1) (hTLw21 _ _ rfl) (by omega) (by omega) (by omega) ?_
    refine wp_nT hTLw21 4 (pc' := 1189) (L' := [(5, z), (2, 0), (2, 127), (0, ((k : Nat) : Int))]) (st' := [(0, ((k : Nat) : Int) + 2), (5, z), (0, sx (k + 1)), (2, 127), (0, v)]) (g' := g1) rfl ?_
    refine wp_sald (k + 2) (hTLw21 _ _ rfl) (by omega) (by omega) (by omega) ?_
    refine wp_nT hTLw21 4 (pc' := 1194) (L' := [(5, z), (2, 0), (2, 127), (0, ((k : Nat) : Int))]) (st' := [(0, ((k : Nat) : Int) + 3), (5, z), (0, sx (k + 2)), (0, sx (k + 1)), (2, 127), (0, v)]) (g' := g1) rfl ?_
    refine wp_sald (k + 3) (hTLw21 _ _ rfl) (by omega) (by omega) (by omega) ?_
    refine wp_nT hTLw21 4 (pc' := 1199) (L' := [(5, z), (2, 0), (2, 127), (0, ((k : Nat) : Int))]) (st' := [(0, ((k : Nat) : Int) + 4), (5, z), (0, sx (k + 3)), (0, sx (k + 2)), (0, sx (k + 1)), (2, 127), (0, v)]) (g' := g1) rfl ?_
    refine wp_sald (k + 4) (hTLw21 _ _ rfl) (by omega) (by omega) (by omega) ?_
    refine wp_if_eq (hTLw21 _ _ rfl) (fun c1 => ?_) (fun c1 => ?_)
    · skip
      refine wp_nT hTLw21 1 (pc' := 1208) (L' := [(5, z), (2, 0), (2, 127), (0, ((k : Nat) : Int))]) (st' := [(0, 0), (0, sx (k + 3)), (0, sx (k + 2)), (0, sx (k + 1)), (2, 127), (0, v)]) (g' := g1) rfl ?_
      refine wp_cv (as := [(2, 127), (0, sx (k + 1)), (0, sx (k + 2)), (0, sx (k + 3)), (0, 0)]) (rest := [(0, v)]) (hTLw21 _ _ rfl) rfl rfl (Nat.le_of_ble_eq_true rfl) rfl (M_span (hx _) (hx _) (hx _) (by decide) hI hM1) (by decide) (fun r2 hr2 => ?_)
      obtain ⟨g2, rfl, hI2, hM2⟩ := h2 _ hr2
      exact wp_ic_eq (hTLw21 _ _ rfl) (fun _ => kk b1 g2 hI2 hM2) (fun c => absurd rfl c)
    · exact absurd c0 c1
  · skip
    refine wp_nT hTLw21 2 (pc' := 1176) (L' := [(5, z), (2, 0), (2, 127), (0, ((k : Nat) : Int))]) (st' := [(0, 1), (0, sx (k + 3)), (0, sx (k + 2)), (0, sx (k + 1)), (2, 0)]) (g' := g) rfl ?_
    refine wp_cv (as := [(2, 0), (0, sx (k + 1)), (0, sx (k + 2)), (0, sx (k + 3)), (0, 1)]) (rest := []) (hTLw21 _ _ rfl) rfl rfl (Nat.le_of_ble_eq_true rfl) rfl (C_span (hx _) (hx _) (hx _) (by decide) hI) (by decide) (fun r1 hr1 => ?_)
    obtain ⟨g1, v, b1, rfl, hM1, h2⟩ := law_pair hM hr1
    refine wp_nT hTLw21 5 (pc' := 1184) (L' := [(5, z), (2, 0), (2, 127), (0, ((k : Nat) : Int))]) (st' := [(0, ((k : Nat) : Int) + 1), (5, z), (2, 127), (0, v)]) (g' := g1) rfl ?_
    refine wp_sald (k + 1) (hTLw21 _ _ rfl) (by omega) (by omega) (by omega) ?_
    refine wp_nT hTLw21 4 (pc' := 1189) (L' := [(5, z), (2, 0), (2, 127), (0, ((k : Nat) : Int))]) (st' := [(0, ((k : Nat) : Int) + 2), (5, z), (0, sx (k + 1)), (2, 127), (0, v)]) (g' := g1) rfl ?_
    refine wp_sald (k + 2) (hTLw21 _ _ rfl) (by omega) (by omega) (by omega) ?_
    refine wp_nT hTLw21 4 (pc' := 1194) (L' := [(5, z), (2, 0), (2, 127), (0, ((k : Nat) : Int))]) (st' := [(0, ((k : Nat) : Int) + 3), (5, z), (0, sx (k + 2)), (0, sx (k + 1)), (2, 127), (0, v)]) (g' := g1) rfl ?_
    refine wp_sald (k + 3) (hTLw21 _ _ rfl) (by omega) (by omega) (by omega) ?_
    refine wp_nT hTLw21 4 (pc' := 1199) (L' := [(5, z), (2, 0), (2, 127), (0, ((k : Nat) : Int))]) (st' := [(0, ((k : Nat) : Int) + 4), (5, z), (0, sx (k + 3)), (0, sx (k + 2)), (0, sx (k + 1)), (2, 127), (0, v)]) (g' := g1) rfl ?_
    refine wp_sald (k + 4) (hTLw21 _ _ rfl) (by omega) (by omega) (by omega) ?_
    refine wp_if_eq (hTLw21 _ _ rfl) (fun c1 => ?_) (fun c1 => ?_)
    · exact absurd c1 c0
    · skip
      refine wp_nT hTLw21 2 (pc' := 1208) (L' := [(5, z), (2, 0), (2, 127), (0, ((k : Nat) : Int))]) (st' := [(0, 1), (0, sx (k + 3)), (0, sx (k + 2)), (0, sx (k + 1)), (2, 127), (0, v)]) (g' := g1) rfl ?_
      refine wp_cv (as := [(2, 127), (0, sx (k + 1)), (0, sx (k + 2)), (0, sx (k + 3)), (0, 1)]) (rest := [(0, v)]) (hTLw21 _ _ rfl) rfl rfl (Nat.le_of_ble_eq_true rfl) rfl (M_span (hx _) (hx _) (hx _) (by decide) hI hM1) (by decide) (fun r2 hr2 => ?_)
      obtain ⟨g2, rfl, hI2, hM2⟩ := h2 _ hr2
      exact wp_ic_eq (hTLw21 _ _ rfl) (fun _ => kk b1 g2 hI2 hM2) (fun c => absurd rfl c)
def TLw22 : List (Nat × am_E) := [(1216, .aload_n 1, 1, 0, 0), (1217, .aload_n 0, 1, 0, 0), (1218, .iload_n 3, 1, 0, 0), (1219, .iconst 1, 1, 0, 0), (1220, .iadd, 1, 0, 0), (1221, .iaload, 1, 0, 0), (1222, .aload_n 0, 1, 0, 0), (1223, .iload_n 3, 1, 0, 0), (1224, .iconst 2, 1, 0, 0), (1225, .iadd, 1, 0, 0), (1226, .iaload, 1, 0, 0), (1227, .aload_n 0, 1, 0, 0), (1228, .iload_n 3, 1, 0, 0), (1229, .iconst 3, 1, 0, 0), (1230, .iadd, 1, 0, 0), (1231, .iaload, 1, 0, 0), (1232, .aload_n 0, 1, 0, 0), (1233, .iload_n 3, 1, 0, 0), (1234, .iconst 4, 1, 0, 0), (1235, .iadd, 1, 0, 0), (1236, .iaload, 1, 0, 0), (1237, .invokevirtual 123, 3, 118, 4), (1240, .aload_n 2, 1, 0, 0), (1241, .aload_n 0, 1, 0, 0), (1242, .iload_n 3, 1, 0, 0), (1243, .iconst 1, 1, 0, 0), (1244, .iadd, 1, 0, 0), (1245, .iaload, 1, 0, 0), (1246, .aload_n 0, 1, 0, 0), (1247, .iload_n 3, 1, 0, 0), (1248, .iconst 2, 1, 0, 0), (1249, .iadd, 1, 0, 0), (1250, .iaload, 1, 0, 0), (1251, .aload_n 0, 1, 0, 0), (1252, .iload_n 3, 1, 0, 0), (1253, .iconst 3, 1, 0, 0), (1254, .iadd, 1, 0, 0), (1255, .iaload, 1, 0, 0), (1256, .aload_n 0, 1, 0, 0), (1257, .iload_n 3, 1, 0, 0), (1258, .iconst 4, 1, 0, 0), (1259, .iadd, 1, 0, 0), (1260, .iaload, 1, 0, 0), (1261, .invokevirtual 126, 3, 224, 4), (1264, .if_icmp .eq 471, 3, 1735, 0), (1267, .iconst 0, 1, 0, 0), (1268, .ireturn, 1, 1, 0)]
theorem hTLw22 : ∀ pc e, am_fd TLw22 pc = some e → am_fd TL pc = some e := tl_of (by decide +kernel)
theorem law_w22 (hs : sn ≤ 3585) (hx : ∀ j, R32 (sx j)) (hk : k + 7 ≤ sn) (hI : CInv P g) (hM : MRel g g) (kk : ∀ b2 g2, CInv P g2 → MRel g2 g2 → Wp sn sx 80 TL 1735 [(5, z), (2, 0), (2, 127), (0, ((k : Nat) : Int))] [] (SH b2) g2 Q) : Wp sn sx 80 TL 1216 [(5, z), (2, 0), (2, 127), (0, ((k : Nat) : Int))] [] (SH b) g Q := by
  refine wp_nT hTLw22 5 (pc' := 1221) (L' := [(5, z), (2, 0), (2, 127), (0, ((k : Nat) : Int))]) (st' := [(0, ((k : Nat) : Int) + 1), (5, z), (2, 0)]) (g' := g) rfl ?_
  refine wp_sald (k + 1) (hTLw22 _ _ rfl) (by omega) (by omega) (by omega) ?_
  refine wp_nT hTLw22 4 (pc' := 1226) (L' := [(5, z), (2, 0), (2, 127), (0, ((k : Nat) : Int))]) (st' := [(0, ((k : Nat) : Int) + 2), (5, z), (0, sx (k + 1)), (2, 0)]) (g' := g) rfl ?_
  refine wp_sald (k + 2) (hTLw22 _ _ rfl) (by omega) (by omega) (by omega) ?_
  refine wp_nT hTLw22 4 (pc' := 1231) (L' := [(5, z), (2, 0), (2, 127), (0, ((k : Nat) : Int))]) (st' := [(0, ((k : Nat) : Int) + 3), (5, z), (0, sx (k + 2)), (0, sx (k + 1)), (2, 0)]) (g' := g) rfl ?_
  refine wp_sald (k + 3) (hTLw22 _ _ rfl) (by omega) (by omega) (by omega) ?_
  refine wp_nT hTLw22 4 (pc' := 1236) (L' := [(5, z), (2, 0), (2, 127), (0, ((k : Nat) : Int))]) (st' := [(0, ((k : Nat) : Int) + 4), (5, z), (0, sx (k + 3)), (0, sx (k + 2)), (0, sx (k + 1)), (2, 0)]) (g' := g) rfl ?_
  refine wp_sald (k + 4) (hTLw22 _ _ rfl) (by omega) (by omega) (by omega) ?_
  refine wp_cv (as := [(2, 0), (0, sx (k + 1)), (0, sx (k + 2)), (0, sx (k + 3)), (0, sx (k + 4))]) (rest := []) (hTLw22 _ _ rfl) rfl rfl (Nat.le_of_ble_eq_true rfl) rfl (C_need (hx _) (hx _) (hx _) (hx _) hI) (by decide) (fun r1 hr1 => ?_)
  obtain ⟨g1, v, b1, rfl, hM1, h2⟩ := law_pair hM hr1
  refine wp_nT hTLw22 5 (pc' := 1245) (L' := [(5, z), (2, 0), (2, 127), (0, ((k : Nat) : Int))]) (st' := [(0, ((k : Nat) : Int) + 1), (5, z), (2, 127), (0, v)]) (g' := g1) rfl ?_
  refine wp_sald (k + 1) (hTLw22 _ _ rfl) (by omega) (by omega) (by omega) ?_
  refine wp_nT hTLw22 4 (pc' := 1250) (L' := [(5, z), (2, 0), (2, 127), (0, ((k : Nat) : Int))]) (st' := [(0, ((k : Nat) : Int) + 2), (5, z), (0, sx (k + 1)), (2, 127), (0, v)]) (g' := g1) rfl ?_
  refine wp_sald (k + 2) (hTLw22 _ _ rfl) (by omega) (by omega) (by omega) ?_
  refine wp_nT hTLw22 4 (pc' := 1255) (L' := [(5, z), (2, 0), (2, 127), (0, ((k : Nat) : Int))]) (st' := [(0, ((k : Nat) : Int) + 3), (5, z), (0, sx (k + 2)), (0, sx (k + 1)), (2, 127), (0, v)]) (g' := g1) rfl ?_
  refine wp_sald (k + 3) (hTLw22 _ _ rfl) (by omega) (by omega) (by omega) ?_
  refine wp_nT hTLw22 4 (pc' := 1260) (L' := [(5, z), (2, 0), (2, 127), (0, ((k : Nat) : Int))]) (st' := [(0, ((k : Nat) : Int) + 4), (5, z), (0, sx (k + 3)), (0, sx (k + 2)), (0, sx (k + 1)), (2, 127), (0, v)]) (g' := g1) rfl ?_
  refine wp_sald (k + 4) (hTLw22 _ _ rfl) (by omega) (by omega) (by omega) ?_
  refine wp_cv (as := [(2, 127), (0, sx (k + 1)), (0, sx (k + 2)), (0, sx (k + 3)), (0, sx (k + 4))]) (rest := [(0, v)]) (hTLw22 _ _ rfl) rfl rfl (Nat.le_of_ble_eq_true rfl) rfl (M_need (hx _) (hx _) (hx _) (hx _) hI hM1) (by decide) (fun r2 hr2 => ?_)
  obtain ⟨g2, rfl, hI2, hM2⟩ := h2 _ hr2
  exact wp_ic_eq (hTLw22 _ _ rfl) (fun _ => kk b1 g2 hI2 hM2) (fun c => absurd rfl c)
def TLw23 : List (Nat × am_E) := [(1269, .aload_n 1, 1, 0, 0), (1270, .aload_n 0, 1, 0, 0), (1271, .iload_n 3, 1, 0, 0), (1272, .iconst 1, 1, 0, 0), (1273, .iadd, 1, 0, 0), (1274, .iaload, 1, 0, 0), (1275, .aload_n 0, 1, 0, 0), (1276, .iload_n 3, 1, 0, 0), (1277, .iconst 2, 1, 0, 0), (1278, .iadd, 1, 0, 0), (1279, .iaload, 1, 0, 0), (1280, .aload_n 0, 1, 0, 0), (1281, .iload_n 3, 1, 0, 0), (1282, .iconst 3, 1, 0, 0), (1283, .iadd, 1, 0, 0), (1284, .iaload, 1, 0, 0), (1285, .invokevirtual 127, 3, 119, 3), (1288, .aload_n 2, 1, 0, 0), (1289, .aload_n 0, 1, 0, 0), (1290, .iload_n 3, 1, 0, 0), (1291, .iconst 1, 1, 0, 0), (1292, .iadd, 1, 0, 0), (1293, .iaload, 1, 0, 0), (1294, .aload_n 0, 1, 0, 0), (1295, .iload_n 3, 1, 0, 0), (1296, .iconst 2, 1, 0, 0), (1297, .iadd, 1, 0, 0), (1298, .iaload, 1, 0, 0), (1299, .aload_n 0, 1, 0, 0), (1300, .iload_n 3, 1, 0, 0), (1301, .iconst 3, 1, 0, 0), (1302, .iadd, 1, 0, 0), (1303, .iaload, 1, 0, 0), (1304, .invokevirtual 130, 3, 239, 3), (1307, .if_icmp .eq 428, 3, 1735, 0), (1310, .iconst 0, 1, 0, 0), (1311, .ireturn, 1, 1, 0)]
theorem hTLw23 : ∀ pc e, am_fd TLw23 pc = some e → am_fd TL pc = some e := tl_of (by decide +kernel)
theorem law_w23 (hs : sn ≤ 3585) (hx : ∀ j, R32 (sx j)) (hk : k + 7 ≤ sn) (hI : CInv P g) (hM : MRel g g) (kk : ∀ b2 g2, CInv P g2 → MRel g2 g2 → Wp sn sx 80 TL 1735 [(5, z), (2, 0), (2, 127), (0, ((k : Nat) : Int))] [] (SH b2) g2 Q) : Wp sn sx 80 TL 1269 [(5, z), (2, 0), (2, 127), (0, ((k : Nat) : Int))] [] (SH b) g Q := by
  refine wp_nT hTLw23 5 (pc' := 1274) (L' := [(5, z), (2, 0), (2, 127), (0, ((k : Nat) : Int))]) (st' := [(0, ((k : Nat) : Int) + 1), (5, z), (2, 0)]) (g' := g) rfl ?_
  refine wp_sald (k + 1) (hTLw23 _ _ rfl) (by omega) (by omega) (by omega) ?_
  refine wp_nT hTLw23 4 (pc' := 1279) (L' := [(5, z), (2, 0), (2, 127), (0, ((k : Nat) : Int))]) (st' := [(0, ((k : Nat) : Int) + 2), (5, z), (0, sx (k + 1)), (2, 0)]) (g' := g) rfl ?_
  refine wp_sald (k + 2) (hTLw23 _ _ rfl) (by omega) (by omega) (by omega) ?_
  refine wp_nT hTLw23 4 (pc' := 1284) (L' := [(5, z), (2, 0), (2, 127), (0, ((k : Nat) : Int))]) (st' := [(0, ((k : Nat) : Int) + 3), (5, z), (0, sx (k + 2)), (0, sx (k + 1)), (2, 0)]) (g' := g) rfl ?_
  refine wp_sald (k + 3) (hTLw23 _ _ rfl) (by omega) (by omega) (by omega) ?_
  refine wp_cv (as := [(2, 0), (0, sx (k + 1)), (0, sx (k + 2)), (0, sx (k + 3))]) (rest := []) (hTLw23 _ _ rfl) rfl rfl (Nat.le_of_ble_eq_true rfl) rfl (C_habit (hx _) (hx _) (hx _) hI) (by decide) (fun r1 hr1 => ?_)
  obtain ⟨g1, v, b1, rfl, hM1, h2⟩ := law_pair hM hr1
  refine wp_nT hTLw23 5 (pc' := 1293) (L' := [(5, z), (2, 0), (2, 127), (0, ((k : Nat) : Int))]) (st' := [(0, ((k : Nat) : Int) + 1), (5, z), (2, 127), (0, v)]) (g' := g1) rfl ?_
  refine wp_sald (k + 1) (hTLw23 _ _ rfl) (by omega) (by omega) (by omega) ?_
  refine wp_nT hTLw23 4 (pc' := 1298) (L' := [(5, z), (2, 0), (2, 127), (0, ((k : Nat) : Int))]) (st' := [(0, ((k : Nat) : Int) + 2), (5, z), (0, sx (k + 1)), (2, 127), (0, v)]) (g' := g1) rfl ?_
  refine wp_sald (k + 2) (hTLw23 _ _ rfl) (by omega) (by omega) (by omega) ?_
  refine wp_nT hTLw23 4 (pc' := 1303) (L' := [(5, z), (2, 0), (2, 127), (0, ((k : Nat) : Int))]) (st' := [(0, ((k : Nat) : Int) + 3), (5, z), (0, sx (k + 2)), (0, sx (k + 1)), (2, 127), (0, v)]) (g' := g1) rfl ?_
  refine wp_sald (k + 3) (hTLw23 _ _ rfl) (by omega) (by omega) (by omega) ?_
  refine wp_cv (as := [(2, 127), (0, sx (k + 1)), (0, sx (k + 2)), (0, sx (k + 3))]) (rest := [(0, v)]) (hTLw23 _ _ rfl) rfl rfl (Nat.le_of_ble_eq_true rfl) rfl (M_habit (hx _) (hx _) (hx _) hI hM1) (by decide) (fun r2 hr2 => ?_)
  obtain ⟨g2, rfl, hI2, hM2⟩ := h2 _ hr2
  exact wp_ic_eq (hTLw23 _ _ rfl) (fun _ => kk b1 g2 hI2 hM2) (fun c => absurd rfl c)
def TLw24 : List (Nat × am_E) := [(1312, .aload_n 1, 1, 0, 0), (1313, .aload_n 0, 1, 0, 0), (1314, .iload_n 3, 1, 0, 0), (1315, .iconst 1, 1, 0, 0), (1316, .iadd, 1, 0, 0), (1317, .iaload, 1, 0, 0), (1318, .aload_n 0, 1, 0, 0), (1319, .iload_n 3, 1, 0, 0), (1320, .iconst 2, 1, 0, 0), (1321, .iadd, 1, 0, 0), (1322, .iaload, 1, 0, 0), (1323, .aload_n 0, 1, 0, 0), (1324, .iload_n 3, 1, 0, 0), (1325, .iconst 3, 1, 0, 0), (1326, .iadd, 1, 0, 0), (1327, .iaload, 1, 0, 0), (1328, .aload_n 0, 1, 0, 0), (1329, .iload_n 3, 1, 0, 0), (1330, .iconst 4, 1, 0, 0), (1331, .iadd, 1, 0, 0), (1332, .iaload, 1, 0, 0), (1333, .aload_n 0, 1, 0, 0), (1334, .iload_n 3, 1, 0, 0), (1335, .iconst 5, 1, 0, 0), (1336, .iadd, 1, 0, 0), (1337, .iaload, 1, 0, 0), (1338, .invokevirtual 131, 3, 120, 5), (1341, .aload_n 2, 1, 0, 0), (1342, .aload_n 0, 1, 0, 0), (1343, .iload_n 3, 1, 0, 0), (1344, .iconst 1, 1, 0, 0), (1345, .iadd, 1, 0, 0), (1346, .iaload, 1, 0, 0), (1347, .aload_n 0, 1, 0, 0), (1348, .iload_n 3, 1, 0, 0), (1349, .iconst 2, 1, 0, 0), (1350, .iadd, 1, 0, 0), (1351, .iaload, 1, 0, 0), (1352, .aload_n 0, 1, 0, 0), (1353, .iload_n 3, 1, 0, 0), (1354, .iconst 3, 1, 0, 0), (1355, .iadd, 1, 0, 0), (1356, .iaload, 1, 0, 0), (1357, .aload_n 0, 1, 0, 0), (1358, .iload_n 3, 1, 0, 0), (1359, .iconst 4, 1, 0, 0), (1360, .iadd, 1, 0, 0), (1361, .iaload, 1, 0, 0), (1362, .aload_n 0, 1, 0, 0), (1363, .iload_n 3, 1, 0, 0), (1364, .iconst 5, 1, 0, 0), (1365, .iadd, 1, 0, 0), (1366, .iaload, 1, 0, 0), (1367, .invokevirtual 134, 3, 241, 5), (1370, .if_icmp .eq 365, 3, 1735, 0), (1373, .iconst 0, 1, 0, 0), (1374, .ireturn, 1, 1, 0)]
theorem hTLw24 : ∀ pc e, am_fd TLw24 pc = some e → am_fd TL pc = some e := tl_of (by decide +kernel)
theorem law_w24 (hs : sn ≤ 3585) (hx : ∀ j, R32 (sx j)) (hk : k + 7 ≤ sn) (hI : CInv P g) (hM : MRel g g) (kk : ∀ b2 g2, CInv P g2 → MRel g2 g2 → Wp sn sx 80 TL 1735 [(5, z), (2, 0), (2, 127), (0, ((k : Nat) : Int))] [] (SH b2) g2 Q) : Wp sn sx 80 TL 1312 [(5, z), (2, 0), (2, 127), (0, ((k : Nat) : Int))] [] (SH b) g Q := by
  refine wp_nT hTLw24 5 (pc' := 1317) (L' := [(5, z), (2, 0), (2, 127), (0, ((k : Nat) : Int))]) (st' := [(0, ((k : Nat) : Int) + 1), (5, z), (2, 0)]) (g' := g) rfl ?_
  refine wp_sald (k + 1) (hTLw24 _ _ rfl) (by omega) (by omega) (by omega) ?_
  refine wp_nT hTLw24 4 (pc' := 1322) (L' := [(5, z), (2, 0), (2, 127), (0, ((k : Nat) : Int))]) (st' := [(0, ((k : Nat) : Int) + 2), (5, z), (0, sx (k + 1)), (2, 0)]) (g' := g) rfl ?_
  refine wp_sald (k + 2) (hTLw24 _ _ rfl) (by omega) (by omega) (by omega) ?_
  refine wp_nT hTLw24 4 (pc' := 1327) (L' := [(5, z), (2, 0), (2, 127), (0, ((k : Nat) : Int))]) (st' := [(0, ((k : Nat) : Int) + 3), (5, z), (0, sx (k + 2)), (0, sx (k + 1)), (2, 0)]) (g' := g) rfl ?_
  refine wp_sald (k + 3) (hTLw24 _ _ rfl) (by omega) (by omega) (by omega) ?_
  refine wp_nT hTLw24 4 (pc' := 1332) (L' := [(5, z), (2, 0), (2, 127), (0, ((k : Nat) : Int))]) (st' := [(0, ((k : Nat) : Int) + 4), (5, z), (0, sx (k + 3)), (0, sx (k + 2)), (0, sx (k + 1)), (2, 0)]) (g' := g) rfl ?_
  refine wp_sald (k + 4) (hTLw24 _ _ rfl) (by omega) (by omega) (by omega) ?_
  refine wp_nT hTLw24 4 (pc' := 1337) (L' := [(5, z), (2, 0), (2, 127), (0, ((k : Nat) : Int))]) (st' := [(0, ((k : Nat) : Int) + 5), (5, z), (0, sx (k + 4)), (0, sx (k + 3)), (0, sx (k + 2)), (0, sx (k + 1)), (2, 0)]) (g' := g) rfl ?_
  refine wp_sald (k + 5) (hTLw24 _ _ rfl) (by omega) (by omega) (by omega) ?_
  refine wp_cv (as := [(2, 0), (0, sx (k + 1)), (0, sx (k + 2)), (0, sx (k + 3)), (0, sx (k + 4)), (0, sx (k + 5))]) (rest := []) (hTLw24 _ _ rfl) rfl rfl (Nat.le_of_ble_eq_true rfl) rfl (C_goal (hx _) (hx _) (hx _) (hx _) (hx _) hI) (by decide) (fun r1 hr1 => ?_)
  obtain ⟨g1, v, b1, rfl, hM1, h2⟩ := law_pair hM hr1
  refine wp_nT hTLw24 5 (pc' := 1346) (L' := [(5, z), (2, 0), (2, 127), (0, ((k : Nat) : Int))]) (st' := [(0, ((k : Nat) : Int) + 1), (5, z), (2, 127), (0, v)]) (g' := g1) rfl ?_
  refine wp_sald (k + 1) (hTLw24 _ _ rfl) (by omega) (by omega) (by omega) ?_
  refine wp_nT hTLw24 4 (pc' := 1351) (L' := [(5, z), (2, 0), (2, 127), (0, ((k : Nat) : Int))]) (st' := [(0, ((k : Nat) : Int) + 2), (5, z), (0, sx (k + 1)), (2, 127), (0, v)]) (g' := g1) rfl ?_
  refine wp_sald (k + 2) (hTLw24 _ _ rfl) (by omega) (by omega) (by omega) ?_
  refine wp_nT hTLw24 4 (pc' := 1356) (L' := [(5, z), (2, 0), (2, 127), (0, ((k : Nat) : Int))]) (st' := [(0, ((k : Nat) : Int) + 3), (5, z), (0, sx (k + 2)), (0, sx (k + 1)), (2, 127), (0, v)]) (g' := g1) rfl ?_
  refine wp_sald (k + 3) (hTLw24 _ _ rfl) (by omega) (by omega) (by omega) ?_
  refine wp_nT hTLw24 4 (pc' := 1361) (L' := [(5, z), (2, 0), (2, 127), (0, ((k : Nat) : Int))]) (st' := [(0, ((k : Nat) : Int) + 4), (5, z), (0, sx (k + 3)), (0, sx (k + 2)), (0, sx (k + 1)), (2, 127), (0, v)]) (g' := g1) rfl ?_
  refine wp_sald (k + 4) (hTLw24 _ _ rfl) (by omega) (by omega) (by omega) ?_
  refine wp_nT hTLw24 4 (pc' := 1366) (L' := [(5, z), (2, 0), (2, 127), (0, ((k : Nat) : Int))]) (st' := [(0, ((k : Nat) : Int) + 5), (5, z), (0, sx (k + 4)), (0, sx (k + 3)), (0, sx (k + 2)), (0, sx (k + 1)), (2, 127), (0, v)]) (g' := g1) rfl ?_
  refine wp_sald (k + 5) (hTLw24 _ _ rfl) (by omega) (by omega) (by omega) ?_
  refine wp_cv (as := [(2, 127), (0, sx (k + 1)), (0, sx (k + 2)), (0, sx (k + 3)), (0, sx (k + 4)), (0, sx (k + 5))]) (rest := [(0, v)]) (hTLw24 _ _ rfl) rfl rfl (Nat.le_of_ble_eq_true rfl) rfl (M_goal (hx _) (hx _) (hx _) (hx _) (hx _) hI hM1) (by decide) (fun r2 hr2 => ?_)
  obtain ⟨g2, rfl, hI2, hM2⟩ := h2 _ hr2
  exact wp_ic_eq (hTLw24 _ _ rfl) (fun _ => kk b1 g2 hI2 hM2) (fun c => absurd rfl c)
def TLw25 : List (Nat × am_E) := [(1375, .aload_n 1, 1, 0, 0), (1376, .aload_n 0, 1, 0, 0), (1377, .iload_n 3, 1, 0, 0), (1378, .iconst 1, 1, 0, 0), (1379, .iadd, 1, 0, 0), (1380, .iaload, 1, 0, 0), (1381, .aload_n 0, 1, 0, 0), (1382, .iload_n 3, 1, 0, 0), (1383, .iconst 2, 1, 0, 0), (1384, .iadd, 1, 0, 0), (1385, .iaload, 1, 0, 0), (1386, .aload_n 0, 1, 0, 0), (1387, .iload_n 3, 1, 0, 0), (1388, .iconst 3, 1, 0, 0), (1389, .iadd, 1, 0, 0), (1390, .iaload, 1, 0, 0), (1391, .aload_n 0, 1, 0, 0), (1392, .iload_n 3, 1, 0, 0), (1393, .iconst 4, 1, 0, 0), (1394, .iadd, 1, 0, 0), (1395, .iaload, 1, 0, 0), (1396, .invokevirtual 135, 3, 121, 4), (1399, .aload_n 2, 1, 0, 0), (1400, .aload_n 0, 1, 0, 0), (1401, .iload_n 3, 1, 0, 0), (1402, .iconst 1, 1, 0, 0), (1403, .iadd, 1, 0, 0), (1404, .iaload, 1, 0, 0), (1405, .aload_n 0, 1, 0, 0), (1406, .iload_n 3, 1, 0, 0), (1407, .iconst 2, 1, 0, 0), (1408, .iadd, 1, 0, 0), (1409, .iaload, 1, 0, 0), (1410, .aload_n 0, 1, 0, 0), (1411, .iload_n 3, 1, 0, 0), (1412, .iconst 3, 1, 0, 0), (1413, .iadd, 1, 0, 0), (1414, .iaload, 1, 0, 0), (1415, .aload_n 0, 1, 0, 0), (1416, .iload_n 3, 1, 0, 0), (1417, .iconst 4, 1, 0, 0), (1418, .iadd, 1, 0, 0), (1419, .iaload, 1, 0, 0), (1420, .invokevirtual 138, 3, 242, 4), (1423, .if_icmp .eq 312, 3, 1735, 0), (1426, .iconst 0, 1, 0, 0), (1427, .ireturn, 1, 1, 0)]
theorem hTLw25 : ∀ pc e, am_fd TLw25 pc = some e → am_fd TL pc = some e := tl_of (by decide +kernel)
theorem law_w25 (hs : sn ≤ 3585) (hx : ∀ j, R32 (sx j)) (hk : k + 7 ≤ sn) (hI : CInv P g) (hM : MRel g g) (kk : ∀ b2 g2, CInv P g2 → MRel g2 g2 → Wp sn sx 80 TL 1735 [(5, z), (2, 0), (2, 127), (0, ((k : Nat) : Int))] [] (SH b2) g2 Q) : Wp sn sx 80 TL 1375 [(5, z), (2, 0), (2, 127), (0, ((k : Nat) : Int))] [] (SH b) g Q := by
  refine wp_nT hTLw25 5 (pc' := 1380) (L' := [(5, z), (2, 0), (2, 127), (0, ((k : Nat) : Int))]) (st' := [(0, ((k : Nat) : Int) + 1), (5, z), (2, 0)]) (g' := g) rfl ?_
  refine wp_sald (k + 1) (hTLw25 _ _ rfl) (by omega) (by omega) (by omega) ?_
  refine wp_nT hTLw25 4 (pc' := 1385) (L' := [(5, z), (2, 0), (2, 127), (0, ((k : Nat) : Int))]) (st' := [(0, ((k : Nat) : Int) + 2), (5, z), (0, sx (k + 1)), (2, 0)]) (g' := g) rfl ?_
  refine wp_sald (k + 2) (hTLw25 _ _ rfl) (by omega) (by omega) (by omega) ?_
  refine wp_nT hTLw25 4 (pc' := 1390) (L' := [(5, z), (2, 0), (2, 127), (0, ((k : Nat) : Int))]) (st' := [(0, ((k : Nat) : Int) + 3), (5, z), (0, sx (k + 2)), (0, sx (k + 1)), (2, 0)]) (g' := g) rfl ?_
  refine wp_sald (k + 3) (hTLw25 _ _ rfl) (by omega) (by omega) (by omega) ?_
  refine wp_nT hTLw25 4 (pc' := 1395) (L' := [(5, z), (2, 0), (2, 127), (0, ((k : Nat) : Int))]) (st' := [(0, ((k : Nat) : Int) + 4), (5, z), (0, sx (k + 3)), (0, sx (k + 2)), (0, sx (k + 1)), (2, 0)]) (g' := g) rfl ?_
  refine wp_sald (k + 4) (hTLw25 _ _ rfl) (by omega) (by omega) (by omega) ?_
  refine wp_cv (as := [(2, 0), (0, sx (k + 1)), (0, sx (k + 2)), (0, sx (k + 3)), (0, sx (k + 4))]) (rest := []) (hTLw25 _ _ rfl) rfl rfl (Nat.le_of_ble_eq_true rfl) rfl (C_luck (hx _) (hx _) (hx _) (hx _) hI) (by decide) (fun r1 hr1 => ?_)
  obtain ⟨g1, v, b1, rfl, hM1, h2⟩ := law_pair hM hr1
  refine wp_nT hTLw25 5 (pc' := 1404) (L' := [(5, z), (2, 0), (2, 127), (0, ((k : Nat) : Int))]) (st' := [(0, ((k : Nat) : Int) + 1), (5, z), (2, 127), (0, v)]) (g' := g1) rfl ?_
  refine wp_sald (k + 1) (hTLw25 _ _ rfl) (by omega) (by omega) (by omega) ?_
  refine wp_nT hTLw25 4 (pc' := 1409) (L' := [(5, z), (2, 0), (2, 127), (0, ((k : Nat) : Int))]) (st' := [(0, ((k : Nat) : Int) + 2), (5, z), (0, sx (k + 1)), (2, 127), (0, v)]) (g' := g1) rfl ?_
  refine wp_sald (k + 2) (hTLw25 _ _ rfl) (by omega) (by omega) (by omega) ?_
  refine wp_nT hTLw25 4 (pc' := 1414) (L' := [(5, z), (2, 0), (2, 127), (0, ((k : Nat) : Int))]) (st' := [(0, ((k : Nat) : Int) + 3), (5, z), (0, sx (k + 2)), (0, sx (k + 1)), (2, 127), (0, v)]) (g' := g1) rfl ?_
  refine wp_sald (k + 3) (hTLw25 _ _ rfl) (by omega) (by omega) (by omega) ?_
  refine wp_nT hTLw25 4 (pc' := 1419) (L' := [(5, z), (2, 0), (2, 127), (0, ((k : Nat) : Int))]) (st' := [(0, ((k : Nat) : Int) + 4), (5, z), (0, sx (k + 3)), (0, sx (k + 2)), (0, sx (k + 1)), (2, 127), (0, v)]) (g' := g1) rfl ?_
  refine wp_sald (k + 4) (hTLw25 _ _ rfl) (by omega) (by omega) (by omega) ?_
  refine wp_cv (as := [(2, 127), (0, sx (k + 1)), (0, sx (k + 2)), (0, sx (k + 3)), (0, sx (k + 4))]) (rest := [(0, v)]) (hTLw25 _ _ rfl) rfl rfl (Nat.le_of_ble_eq_true rfl) rfl (M_luck (hx _) (hx _) (hx _) (hx _) hI hM1) (by decide) (fun r2 hr2 => ?_)
  obtain ⟨g2, rfl, hI2, hM2⟩ := h2 _ hr2
  exact wp_ic_eq (hTLw25 _ _ rfl) (fun _ => kk b1 g2 hI2 hM2) (fun c => absurd rfl c)
def TLw26 : List (Nat × am_E) := [(1428, .aload_n 1, 1, 0, 0), (1429, .aload_n 0, 1, 0, 0), (1430, .iload_n 3, 1, 0, 0), (1431, .iconst 1, 1, 0, 0), (1432, .iadd, 1, 0, 0), (1433, .iaload, 1, 0, 0), (1434, .aload_n 0, 1, 0, 0), (1435, .iload_n 3, 1, 0, 0), (1436, .iconst 2, 1, 0, 0), (1437, .iadd, 1, 0, 0), (1438, .iaload, 1, 0, 0), (1439, .aload_n 0, 1, 0, 0), (1440, .iload_n 3, 1, 0, 0), (1441, .iconst 3, 1, 0, 0), (1442, .iadd, 1, 0, 0), (1443, .iaload, 1, 0, 0), (1444, .aload_n 0, 1, 0, 0), (1445, .iload_n 3, 1, 0, 0), (1446, .iconst 4, 1, 0, 0), (1447, .iadd, 1, 0, 0), (1448, .iaload, 1, 0, 0), (1449, .aload_n 0, 1, 0, 0), (1450, .iload_n 3, 1, 0, 0), (1451, .iconst 5, 1, 0, 0), (1452, .iadd, 1, 0, 0), (1453, .iaload, 1, 0, 0), (1454, .invokevirtual 139, 3, 122, 5), (1457, .aload_n 2, 1, 0, 0), (1458, .aload_n 0, 1, 0, 0), (1459, .iload_n 3, 1, 0, 0), (1460, .iconst 1, 1, 0, 0), (1461, .iadd, 1, 0, 0), (1462, .iaload, 1, 0, 0), (1463, .aload_n 0, 1, 0, 0), (1464, .iload_n 3, 1, 0, 0), (1465, .iconst 2, 1, 0, 0), (1466, .iadd, 1, 0, 0), (1467, .iaload, 1, 0, 0), (1468, .aload_n 0, 1, 0, 0), (1469, .iload_n 3, 1, 0, 0), (1470, .iconst 3, 1, 0, 0), (1471, .iadd, 1, 0, 0), (1472, .iaload, 1, 0, 0), (1473, .aload_n 0, 1, 0, 0), (1474, .iload_n 3, 1, 0, 0), (1475, .iconst 4, 1, 0, 0), (1476, .iadd, 1, 0, 0), (1477, .iaload, 1, 0, 0), (1478, .aload_n 0, 1, 0, 0), (1479, .iload_n 3, 1, 0, 0), (1480, .iconst 5, 1, 0, 0), (1481, .iadd, 1, 0, 0), (1482, .iaload, 1, 0, 0), (1483, .invokevirtual 142, 3, 243, 5), (1486, .if_icmp .eq 249, 3, 1735, 0), (1489, .iconst 0, 1, 0, 0), (1490, .ireturn, 1, 1, 0)]
theorem hTLw26 : ∀ pc e, am_fd TLw26 pc = some e → am_fd TL pc = some e := tl_of (by decide +kernel)
theorem law_w26 (hs : sn ≤ 3585) (hx : ∀ j, R32 (sx j)) (hk : k + 7 ≤ sn) (hI : CInv P g) (hM : MRel g g) (kk : ∀ b2 g2, CInv P g2 → MRel g2 g2 → Wp sn sx 80 TL 1735 [(5, z), (2, 0), (2, 127), (0, ((k : Nat) : Int))] [] (SH b2) g2 Q) : Wp sn sx 80 TL 1428 [(5, z), (2, 0), (2, 127), (0, ((k : Nat) : Int))] [] (SH b) g Q := by
  refine wp_nT hTLw26 5 (pc' := 1433) (L' := [(5, z), (2, 0), (2, 127), (0, ((k : Nat) : Int))]) (st' := [(0, ((k : Nat) : Int) + 1), (5, z), (2, 0)]) (g' := g) rfl ?_
  refine wp_sald (k + 1) (hTLw26 _ _ rfl) (by omega) (by omega) (by omega) ?_
  refine wp_nT hTLw26 4 (pc' := 1438) (L' := [(5, z), (2, 0), (2, 127), (0, ((k : Nat) : Int))]) (st' := [(0, ((k : Nat) : Int) + 2), (5, z), (0, sx (k + 1)), (2, 0)]) (g' := g) rfl ?_
  refine wp_sald (k + 2) (hTLw26 _ _ rfl) (by omega) (by omega) (by omega) ?_
  refine wp_nT hTLw26 4 (pc' := 1443) (L' := [(5, z), (2, 0), (2, 127), (0, ((k : Nat) : Int))]) (st' := [(0, ((k : Nat) : Int) + 3), (5, z), (0, sx (k + 2)), (0, sx (k + 1)), (2, 0)]) (g' := g) rfl ?_
  refine wp_sald (k + 3) (hTLw26 _ _ rfl) (by omega) (by omega) (by omega) ?_
  refine wp_nT hTLw26 4 (pc' := 1448) (L' := [(5, z), (2, 0), (2, 127), (0, ((k : Nat) : Int))]) (st' := [(0, ((k : Nat) : Int) + 4), (5, z), (0, sx (k + 3)), (0, sx (k + 2)), (0, sx (k + 1)), (2, 0)]) (g' := g) rfl ?_
  refine wp_sald (k + 4) (hTLw26 _ _ rfl) (by omega) (by omega) (by omega) ?_
  refine wp_nT hTLw26 4 (pc' := 1453) (L' := [(5, z), (2, 0), (2, 127), (0, ((k : Nat) : Int))]) (st' := [(0, ((k : Nat) : Int) + 5), (5, z), (0, sx (k + 4)), (0, sx (k + 3)), (0, sx (k + 2)), (0, sx (k + 1)), (2, 0)]) (g' := g) rfl ?_
  refine wp_sald (k + 5) (hTLw26 _ _ rfl) (by omega) (by omega) (by omega) ?_
  refine wp_cv (as := [(2, 0), (0, sx (k + 1)), (0, sx (k + 2)), (0, sx (k + 3)), (0, sx (k + 4)), (0, sx (k + 5))]) (rest := []) (hTLw26 _ _ rfl) rfl rfl (Nat.le_of_ble_eq_true rfl) rfl (C_run (hx _) (hx _) (hx _) (hx _) (hx _) hI) (by decide) (fun r1 hr1 => ?_)
  obtain ⟨g1, v, b1, rfl, hM1, h2⟩ := law_pair hM hr1
  refine wp_nT hTLw26 5 (pc' := 1462) (L' := [(5, z), (2, 0), (2, 127), (0, ((k : Nat) : Int))]) (st' := [(0, ((k : Nat) : Int) + 1), (5, z), (2, 127), (0, v)]) (g' := g1) rfl ?_
  refine wp_sald (k + 1) (hTLw26 _ _ rfl) (by omega) (by omega) (by omega) ?_
  refine wp_nT hTLw26 4 (pc' := 1467) (L' := [(5, z), (2, 0), (2, 127), (0, ((k : Nat) : Int))]) (st' := [(0, ((k : Nat) : Int) + 2), (5, z), (0, sx (k + 1)), (2, 127), (0, v)]) (g' := g1) rfl ?_
  refine wp_sald (k + 2) (hTLw26 _ _ rfl) (by omega) (by omega) (by omega) ?_
  refine wp_nT hTLw26 4 (pc' := 1472) (L' := [(5, z), (2, 0), (2, 127), (0, ((k : Nat) : Int))]) (st' := [(0, ((k : Nat) : Int) + 3), (5, z), (0, sx (k + 2)), (0, sx (k + 1)), (2, 127), (0, v)]) (g' := g1) rfl ?_
  refine wp_sald (k + 3) (hTLw26 _ _ rfl) (by omega) (by omega) (by omega) ?_
  refine wp_nT hTLw26 4 (pc' := 1477) (L' := [(5, z), (2, 0), (2, 127), (0, ((k : Nat) : Int))]) (st' := [(0, ((k : Nat) : Int) + 4), (5, z), (0, sx (k + 3)), (0, sx (k + 2)), (0, sx (k + 1)), (2, 127), (0, v)]) (g' := g1) rfl ?_
  refine wp_sald (k + 4) (hTLw26 _ _ rfl) (by omega) (by omega) (by omega) ?_
  refine wp_nT hTLw26 4 (pc' := 1482) (L' := [(5, z), (2, 0), (2, 127), (0, ((k : Nat) : Int))]) (st' := [(0, ((k : Nat) : Int) + 5), (5, z), (0, sx (k + 4)), (0, sx (k + 3)), (0, sx (k + 2)), (0, sx (k + 1)), (2, 127), (0, v)]) (g' := g1) rfl ?_
  refine wp_sald (k + 5) (hTLw26 _ _ rfl) (by omega) (by omega) (by omega) ?_
  refine wp_cv (as := [(2, 127), (0, sx (k + 1)), (0, sx (k + 2)), (0, sx (k + 3)), (0, sx (k + 4)), (0, sx (k + 5))]) (rest := [(0, v)]) (hTLw26 _ _ rfl) rfl rfl (Nat.le_of_ble_eq_true rfl) rfl (M_run (hx _) (hx _) (hx _) (hx _) (hx _) hI hM1) (by decide) (fun r2 hr2 => ?_)
  obtain ⟨g2, rfl, hI2, hM2⟩ := h2 _ hr2
  exact wp_ic_eq (hTLw26 _ _ rfl) (fun _ => kk b1 g2 hI2 hM2) (fun c => absurd rfl c)
def TLw27 : List (Nat × am_E) := [(1491, .aload_n 1, 1, 0, 0), (1492, .aload_n 0, 1, 0, 0), (1493, .iload_n 3, 1, 0, 0), (1494, .iconst 1, 1, 0, 0), (1495, .iadd, 1, 0, 0), (1496, .iaload, 1, 0, 0), (1497, .aload_n 0, 1, 0, 0), (1498, .iload_n 3, 1, 0, 0), (1499, .iconst 2, 1, 0, 0), (1500, .iadd, 1, 0, 0), (1501, .iaload, 1, 0, 0), (1502, .aload_n 0, 1, 0, 0), (1503, .iload_n 3, 1, 0, 0), (1504, .iconst 3, 1, 0, 0), (1505, .iadd, 1, 0, 0), (1506, .iaload, 1, 0, 0), (1507, .invokevirtual 143, 3, 123, 3), (1510, .aload_n 2, 1, 0, 0), (1511, .aload_n 0, 1, 0, 0), (1512, .iload_n 3, 1, 0, 0), (1513, .iconst 1, 1, 0, 0), (1514, .iadd, 1, 0, 0), (1515, .iaload, 1, 0, 0), (1516, .aload_n 0, 1, 0, 0), (1517, .iload_n 3, 1, 0, 0), (1518, .iconst 2, 1, 0, 0), (1519, .iadd, 1, 0, 0), (1520, .iaload, 1, 0, 0), (1521, .aload_n 0, 1, 0, 0), (1522, .iload_n 3, 1, 0, 0), (1523, .iconst 3, 1, 0, 0), (1524, .iadd, 1, 0, 0), (1525, .iaload, 1, 0, 0), (1526, .invokevirtual 146, 3, 244, 3), (1529, .if_icmp .eq 206, 3, 1735, 0), (1532, .iconst 0, 1, 0, 0), (1533, .ireturn, 1, 1, 0)]
theorem hTLw27 : ∀ pc e, am_fd TLw27 pc = some e → am_fd TL pc = some e := tl_of (by decide +kernel)
theorem law_w27 (hs : sn ≤ 3585) (hx : ∀ j, R32 (sx j)) (hk : k + 7 ≤ sn) (hI : CInv P g) (hM : MRel g g) (kk : ∀ b2 g2, CInv P g2 → MRel g2 g2 → Wp sn sx 80 TL 1735 [(5, z), (2, 0), (2, 127), (0, ((k : Nat) : Int))] [] (SH b2) g2 Q) : Wp sn sx 80 TL 1491 [(5, z), (2, 0), (2, 127), (0, ((k : Nat) : Int))] [] (SH b) g Q := by
  refine wp_nT hTLw27 5 (pc' := 1496) (L' := [(5, z), (2, 0), (2, 127), (0, ((k : Nat) : Int))]) (st' := [(0, ((k : Nat) : Int) + 1), (5, z), (2, 0)]) (g' := g) rfl ?_
  refine wp_sald (k + 1) (hTLw27 _ _ rfl) (by omega) (by omega) (by omega) ?_
  refine wp_nT hTLw27 4 (pc' := 1501) (L' := [(5, z), (2, 0), (2, 127), (0, ((k : Nat) : Int))]) (st' := [(0, ((k : Nat) : Int) + 2), (5, z), (0, sx (k + 1)), (2, 0)]) (g' := g) rfl ?_
  refine wp_sald (k + 2) (hTLw27 _ _ rfl) (by omega) (by omega) (by omega) ?_
  refine wp_nT hTLw27 4 (pc' := 1506) (L' := [(5, z), (2, 0), (2, 127), (0, ((k : Nat) : Int))]) (st' := [(0, ((k : Nat) : Int) + 3), (5, z), (0, sx (k + 2)), (0, sx (k + 1)), (2, 0)]) (g' := g) rfl ?_
  refine wp_sald (k + 3) (hTLw27 _ _ rfl) (by omega) (by omega) (by omega) ?_
  refine wp_cv (as := [(2, 0), (0, sx (k + 1)), (0, sx (k + 2)), (0, sx (k + 3))]) (rest := []) (hTLw27 _ _ rfl) rfl rfl (Nat.le_of_ble_eq_true rfl) rfl (C_bet (hx _) (hx _) (hx _) hI) (by decide) (fun r1 hr1 => ?_)
  obtain ⟨g1, v, b1, rfl, hM1, h2⟩ := law_pair hM hr1
  refine wp_nT hTLw27 5 (pc' := 1515) (L' := [(5, z), (2, 0), (2, 127), (0, ((k : Nat) : Int))]) (st' := [(0, ((k : Nat) : Int) + 1), (5, z), (2, 127), (0, v)]) (g' := g1) rfl ?_
  refine wp_sald (k + 1) (hTLw27 _ _ rfl) (by omega) (by omega) (by omega) ?_
  refine wp_nT hTLw27 4 (pc' := 1520) (L' := [(5, z), (2, 0), (2, 127), (0, ((k : Nat) : Int))]) (st' := [(0, ((k : Nat) : Int) + 2), (5, z), (0, sx (k + 1)), (2, 127), (0, v)]) (g' := g1) rfl ?_
  refine wp_sald (k + 2) (hTLw27 _ _ rfl) (by omega) (by omega) (by omega) ?_
  refine wp_nT hTLw27 4 (pc' := 1525) (L' := [(5, z), (2, 0), (2, 127), (0, ((k : Nat) : Int))]) (st' := [(0, ((k : Nat) : Int) + 3), (5, z), (0, sx (k + 2)), (0, sx (k + 1)), (2, 127), (0, v)]) (g' := g1) rfl ?_
  refine wp_sald (k + 3) (hTLw27 _ _ rfl) (by omega) (by omega) (by omega) ?_
  refine wp_cv (as := [(2, 127), (0, sx (k + 1)), (0, sx (k + 2)), (0, sx (k + 3))]) (rest := [(0, v)]) (hTLw27 _ _ rfl) rfl rfl (Nat.le_of_ble_eq_true rfl) rfl (M_bet (hx _) (hx _) (hx _) hI hM1) (by decide) (fun r2 hr2 => ?_)
  obtain ⟨g2, rfl, hI2, hM2⟩ := h2 _ hr2
  exact wp_ic_eq (hTLw27 _ _ rfl) (fun _ => kk b1 g2 hI2 hM2) (fun c => absurd rfl c)
def TLw28 : List (Nat × am_E) := [(1534, .aload_n 1, 1, 0, 0), (1535, .aload_n 0, 1, 0, 0), (1536, .iload_n 3, 1, 0, 0), (1537, .iconst 1, 1, 0, 0), (1538, .iadd, 1, 0, 0), (1539, .iaload, 1, 0, 0), (1540, .aload_n 0, 1, 0, 0), (1541, .iload_n 3, 1, 0, 0), (1542, .iconst 2, 1, 0, 0), (1543, .iadd, 1, 0, 0), (1544, .iaload, 1, 0, 0), (1545, .invokevirtual 147, 3, 124, 2), (1548, .aload_n 2, 1, 0, 0), (1549, .aload_n 0, 1, 0, 0), (1550, .iload_n 3, 1, 0, 0), (1551, .iconst 1, 1, 0, 0), (1552, .iadd, 1, 0, 0), (1553, .iaload, 1, 0, 0), (1554, .aload_n 0, 1, 0, 0), (1555, .iload_n 3, 1, 0, 0), (1556, .iconst 2, 1, 0, 0), (1557, .iadd, 1, 0, 0), (1558, .iaload, 1, 0, 0), (1559, .invokevirtual 150, 3, 245, 2), (1562, .if_icmp .eq 173, 3, 1735, 0), (1565, .iconst 0, 1, 0, 0), (1566, .ireturn, 1, 1, 0)]
theorem hTLw28 : ∀ pc e, am_fd TLw28 pc = some e → am_fd TL pc = some e := tl_of (by decide +kernel)
theorem law_w28 (hs : sn ≤ 3585) (hx : ∀ j, R32 (sx j)) (hk : k + 7 ≤ sn) (hI : CInv P g) (hM : MRel g g) (kk : ∀ b2 g2, CInv P g2 → MRel g2 g2 → Wp sn sx 80 TL 1735 [(5, z), (2, 0), (2, 127), (0, ((k : Nat) : Int))] [] (SH b2) g2 Q) : Wp sn sx 80 TL 1534 [(5, z), (2, 0), (2, 127), (0, ((k : Nat) : Int))] [] (SH b) g Q := by
  refine wp_nT hTLw28 5 (pc' := 1539) (L' := [(5, z), (2, 0), (2, 127), (0, ((k : Nat) : Int))]) (st' := [(0, ((k : Nat) : Int) + 1), (5, z), (2, 0)]) (g' := g) rfl ?_
  refine wp_sald (k + 1) (hTLw28 _ _ rfl) (by omega) (by omega) (by omega) ?_
  refine wp_nT hTLw28 4 (pc' := 1544) (L' := [(5, z), (2, 0), (2, 127), (0, ((k : Nat) : Int))]) (st' := [(0, ((k : Nat) : Int) + 2), (5, z), (0, sx (k + 1)), (2, 0)]) (g' := g) rfl ?_
  refine wp_sald (k + 2) (hTLw28 _ _ rfl) (by omega) (by omega) (by omega) ?_
  refine wp_cv (as := [(2, 0), (0, sx (k + 1)), (0, sx (k + 2))]) (rest := []) (hTLw28 _ _ rfl) rfl rfl (Nat.le_of_ble_eq_true rfl) rfl (C_watched (hx _) (hx _) hI) (by decide) (fun r1 hr1 => ?_)
  obtain ⟨g1, v, b1, rfl, hM1, h2⟩ := law_pair hM hr1
  refine wp_nT hTLw28 5 (pc' := 1553) (L' := [(5, z), (2, 0), (2, 127), (0, ((k : Nat) : Int))]) (st' := [(0, ((k : Nat) : Int) + 1), (5, z), (2, 127), (0, v)]) (g' := g1) rfl ?_
  refine wp_sald (k + 1) (hTLw28 _ _ rfl) (by omega) (by omega) (by omega) ?_
  refine wp_nT hTLw28 4 (pc' := 1558) (L' := [(5, z), (2, 0), (2, 127), (0, ((k : Nat) : Int))]) (st' := [(0, ((k : Nat) : Int) + 2), (5, z), (0, sx (k + 1)), (2, 127), (0, v)]) (g' := g1) rfl ?_
  refine wp_sald (k + 2) (hTLw28 _ _ rfl) (by omega) (by omega) (by omega) ?_
  refine wp_cv (as := [(2, 127), (0, sx (k + 1)), (0, sx (k + 2))]) (rest := [(0, v)]) (hTLw28 _ _ rfl) rfl rfl (Nat.le_of_ble_eq_true rfl) rfl (M_watched (hx _) (hx _) hI hM1) (by decide) (fun r2 hr2 => ?_)
  obtain ⟨g2, rfl, hI2, hM2⟩ := h2 _ hr2
  exact wp_ic_eq (hTLw28 _ _ rfl) (fun _ => kk b1 g2 hI2 hM2) (fun c => absurd rfl c)
def TLw29 : List (Nat × am_E) := [(1567, .aload_n 1, 1, 0, 0), (1568, .aload_n 0, 1, 0, 0), (1569, .iload_n 3, 1, 0, 0), (1570, .iconst 1, 1, 0, 0), (1571, .iadd, 1, 0, 0), (1572, .iaload, 1, 0, 0), (1573, .aload_n 0, 1, 0, 0), (1574, .iload_n 3, 1, 0, 0), (1575, .iconst 2, 1, 0, 0), (1576, .iadd, 1, 0, 0), (1577, .iaload, 1, 0, 0), (1578, .aload_n 0, 1, 0, 0), (1579, .iload_n 3, 1, 0, 0), (1580, .iconst 3, 1, 0, 0), (1581, .iadd, 1, 0, 0), (1582, .iaload, 1, 0, 0), (1583, .aload_n 0, 1, 0, 0), (1584, .iload_n 3, 1, 0, 0), (1585, .iconst 4, 1, 0, 0), (1586, .iadd, 1, 0, 0), (1587, .iaload, 1, 0, 0), (1588, .aload_n 0, 1, 0, 0), (1589, .iload_n 3, 1, 0, 0), (1590, .iconst 5, 1, 0, 0), (1591, .iadd, 1, 0, 0), (1592, .iaload, 1, 0, 0), (1593, .invokevirtual 151, 3, 125, 5), (1596, .aload_n 2, 1, 0, 0), (1597, .aload_n 0, 1, 0, 0), (1598, .iload_n 3, 1, 0, 0), (1599, .iconst 1, 1, 0, 0), (1600, .iadd, 1, 0, 0), (1601, .iaload, 1, 0, 0), (1602, .aload_n 0, 1, 0, 0), (1603, .iload_n 3, 1, 0, 0), (1604, .iconst 2, 1, 0, 0), (1605, .iadd, 1, 0, 0), (1606, .iaload, 1, 0, 0), (1607, .aload_n 0, 1, 0, 0), (1608, .iload_n 3, 1, 0, 0), (1609, .iconst 3, 1, 0, 0), (1610, .iadd, 1, 0, 0), (1611, .iaload, 1, 0, 0), (1612, .aload_n 0, 1, 0, 0), (1613, .iload_n 3, 1, 0, 0), (1614, .iconst 4, 1, 0, 0), (1615, .iadd, 1, 0, 0), (1616, .iaload, 1, 0, 0), (1617, .aload_n 0, 1, 0, 0), (1618, .iload_n 3, 1, 0, 0), (1619, .iconst 5, 1, 0, 0), (1620, .iadd, 1, 0, 0), (1621, .iaload, 1, 0, 0), (1622, .invokevirtual 154, 3, 246, 5), (1625, .if_icmp .eq 110, 3, 1735, 0), (1628, .iconst 0, 1, 0, 0), (1629, .ireturn, 1, 1, 0)]
theorem hTLw29 : ∀ pc e, am_fd TLw29 pc = some e → am_fd TL pc = some e := tl_of (by decide +kernel)
theorem law_w29 (hs : sn ≤ 3585) (hx : ∀ j, R32 (sx j)) (hk : k + 7 ≤ sn) (hI : CInv P g) (hM : MRel g g) (kk : ∀ b2 g2, CInv P g2 → MRel g2 g2 → Wp sn sx 80 TL 1735 [(5, z), (2, 0), (2, 127), (0, ((k : Nat) : Int))] [] (SH b2) g2 Q) : Wp sn sx 80 TL 1567 [(5, z), (2, 0), (2, 127), (0, ((k : Nat) : Int))] [] (SH b) g Q := by
  refine wp_nT hTLw29 5 (pc' := 1572) (L' := [(5, z), (2, 0), (2, 127), (0, ((k : Nat) : Int))]) (st' := [(0, ((k : Nat) : Int) + 1), (5, z), (2, 0)]) (g' := g) rfl ?_
  refine wp_sald (k + 1) (hTLw29 _ _ rfl) (by omega) (by omega) (by omega) ?_
  refine wp_nT hTLw29 4 (pc' := 1577) (L' := [(5, z), (2, 0), (2, 127), (0, ((k : Nat) : Int))]) (st' := [(0, ((k : Nat) : Int) + 2), (5, z), (0, sx (k + 1)), (2, 0)]) (g' := g) rfl ?_
  refine wp_sald (k + 2) (hTLw29 _ _ rfl) (by omega) (by omega) (by omega) ?_
  refine wp_nT hTLw29 4 (pc' := 1582) (L' := [(5, z), (2, 0), (2, 127), (0, ((k : Nat) : Int))]) (st' := [(0, ((k : Nat) : Int) + 3), (5, z), (0, sx (k + 2)), (0, sx (k + 1)), (2, 0)]) (g' := g) rfl ?_
  refine wp_sald (k + 3) (hTLw29 _ _ rfl) (by omega) (by omega) (by omega) ?_
  refine wp_nT hTLw29 4 (pc' := 1587) (L' := [(5, z), (2, 0), (2, 127), (0, ((k : Nat) : Int))]) (st' := [(0, ((k : Nat) : Int) + 4), (5, z), (0, sx (k + 3)), (0, sx (k + 2)), (0, sx (k + 1)), (2, 0)]) (g' := g) rfl ?_
  refine wp_sald (k + 4) (hTLw29 _ _ rfl) (by omega) (by omega) (by omega) ?_
  refine wp_nT hTLw29 4 (pc' := 1592) (L' := [(5, z), (2, 0), (2, 127), (0, ((k : Nat) : Int))]) (st' := [(0, ((k : Nat) : Int) + 5), (5, z), (0, sx (k + 4)), (0, sx (k + 3)), (0, sx (k + 2)), (0, sx (k + 1)), (2, 0)]) (g' := g) rfl ?_
  refine wp_sald (k + 5) (hTLw29 _ _ rfl) (by omega) (by omega) (by omega) ?_
  refine wp_cv (as := [(2, 0), (0, sx (k + 1)), (0, sx (k + 2)), (0, sx (k + 3)), (0, sx (k + 4)), (0, sx (k + 5))]) (rest := []) (hTLw29 _ _ rfl) rfl rfl (Nat.le_of_ble_eq_true rfl) rfl (C_house (hx _) (hx _) (hx _) (hx _) (hx _) hI) (by decide) (fun r1 hr1 => ?_)
  obtain ⟨g1, v, b1, rfl, hM1, h2⟩ := law_pair hM hr1
  refine wp_nT hTLw29 5 (pc' := 1601) (L' := [(5, z), (2, 0), (2, 127), (0, ((k : Nat) : Int))]) (st' := [(0, ((k : Nat) : Int) + 1), (5, z), (2, 127), (0, v)]) (g' := g1) rfl ?_
  refine wp_sald (k + 1) (hTLw29 _ _ rfl) (by omega) (by omega) (by omega) ?_
  refine wp_nT hTLw29 4 (pc' := 1606) (L' := [(5, z), (2, 0), (2, 127), (0, ((k : Nat) : Int))]) (st' := [(0, ((k : Nat) : Int) + 2), (5, z), (0, sx (k + 1)), (2, 127), (0, v)]) (g' := g1) rfl ?_
  refine wp_sald (k + 2) (hTLw29 _ _ rfl) (by omega) (by omega) (by omega) ?_
  refine wp_nT hTLw29 4 (pc' := 1611) (L' := [(5, z), (2, 0), (2, 127), (0, ((k : Nat) : Int))]) (st' := [(0, ((k : Nat) : Int) + 3), (5, z), (0, sx (k + 2)), (0, sx (k + 1)), (2, 127), (0, v)]) (g' := g1) rfl ?_
  refine wp_sald (k + 3) (hTLw29 _ _ rfl) (by omega) (by omega) (by omega) ?_
  refine wp_nT hTLw29 4 (pc' := 1616) (L' := [(5, z), (2, 0), (2, 127), (0, ((k : Nat) : Int))]) (st' := [(0, ((k : Nat) : Int) + 4), (5, z), (0, sx (k + 3)), (0, sx (k + 2)), (0, sx (k + 1)), (2, 127), (0, v)]) (g' := g1) rfl ?_
  refine wp_sald (k + 4) (hTLw29 _ _ rfl) (by omega) (by omega) (by omega) ?_
  refine wp_nT hTLw29 4 (pc' := 1621) (L' := [(5, z), (2, 0), (2, 127), (0, ((k : Nat) : Int))]) (st' := [(0, ((k : Nat) : Int) + 5), (5, z), (0, sx (k + 4)), (0, sx (k + 3)), (0, sx (k + 2)), (0, sx (k + 1)), (2, 127), (0, v)]) (g' := g1) rfl ?_
  refine wp_sald (k + 5) (hTLw29 _ _ rfl) (by omega) (by omega) (by omega) ?_
  refine wp_cv (as := [(2, 127), (0, sx (k + 1)), (0, sx (k + 2)), (0, sx (k + 3)), (0, sx (k + 4)), (0, sx (k + 5))]) (rest := [(0, v)]) (hTLw29 _ _ rfl) rfl rfl (Nat.le_of_ble_eq_true rfl) rfl (M_house (hx _) (hx _) (hx _) (hx _) (hx _) hI hM1) (by decide) (fun r2 hr2 => ?_)
  obtain ⟨g2, rfl, hI2, hM2⟩ := h2 _ hr2
  exact wp_ic_eq (hTLw29 _ _ rfl) (fun _ => kk b1 g2 hI2 hM2) (fun c => absurd rfl c)
def TLw30 : List (Nat × am_E) := [(1630, .aload_n 1, 1, 0, 0), (1631, .aload_n 0, 1, 0, 0), (1632, .iload_n 3, 1, 0, 0), (1633, .iconst 1, 1, 0, 0), (1634, .iadd, 1, 0, 0), (1635, .iaload, 1, 0, 0), (1636, .aload_n 0, 1, 0, 0), (1637, .iload_n 3, 1, 0, 0), (1638, .iconst 2, 1, 0, 0), (1639, .iadd, 1, 0, 0), (1640, .iaload, 1, 0, 0), (1641, .invokevirtual 155, 3, 126, 2), (1644, .aload_n 2, 1, 0, 0), (1645, .aload_n 0, 1, 0, 0), (1646, .iload_n 3, 1, 0, 0), (1647, .iconst 1, 1, 0, 0), (1648, .iadd, 1, 0, 0), (1649, .iaload, 1, 0, 0), (1650, .aload_n 0, 1, 0, 0), (1651, .iload_n 3, 1, 0, 0), (1652, .iconst 2, 1, 0, 0), (1653, .iadd, 1, 0, 0), (1654, .iaload, 1, 0, 0), (1655, .invokevirtual 158, 3, 247, 2), (1658, .if_icmp .eq 77, 3, 1735, 0), (1661, .iconst 0, 1, 0, 0), (1662, .ireturn, 1, 1, 0)]
theorem hTLw30 : ∀ pc e, am_fd TLw30 pc = some e → am_fd TL pc = some e := tl_of (by decide +kernel)
theorem law_w30 (hs : sn ≤ 3585) (hx : ∀ j, R32 (sx j)) (hk : k + 7 ≤ sn) (hI : CInv P g) (hM : MRel g g) (kk : ∀ b2 g2, CInv P g2 → MRel g2 g2 → Wp sn sx 80 TL 1735 [(5, z), (2, 0), (2, 127), (0, ((k : Nat) : Int))] [] (SH b2) g2 Q) : Wp sn sx 80 TL 1630 [(5, z), (2, 0), (2, 127), (0, ((k : Nat) : Int))] [] (SH b) g Q := by
  refine wp_nT hTLw30 5 (pc' := 1635) (L' := [(5, z), (2, 0), (2, 127), (0, ((k : Nat) : Int))]) (st' := [(0, ((k : Nat) : Int) + 1), (5, z), (2, 0)]) (g' := g) rfl ?_
  refine wp_sald (k + 1) (hTLw30 _ _ rfl) (by omega) (by omega) (by omega) ?_
  refine wp_nT hTLw30 4 (pc' := 1640) (L' := [(5, z), (2, 0), (2, 127), (0, ((k : Nat) : Int))]) (st' := [(0, ((k : Nat) : Int) + 2), (5, z), (0, sx (k + 1)), (2, 0)]) (g' := g) rfl ?_
  refine wp_sald (k + 2) (hTLw30 _ _ rfl) (by omega) (by omega) (by omega) ?_
  refine wp_cv (as := [(2, 0), (0, sx (k + 1)), (0, sx (k + 2))]) (rest := []) (hTLw30 _ _ rfl) rfl rfl (Nat.le_of_ble_eq_true rfl) rfl (C_seen (hx _) (hx _) hI) (by decide) (fun r1 hr1 => ?_)
  obtain ⟨g1, v, b1, rfl, hM1, h2⟩ := law_pair hM hr1
  refine wp_nT hTLw30 5 (pc' := 1649) (L' := [(5, z), (2, 0), (2, 127), (0, ((k : Nat) : Int))]) (st' := [(0, ((k : Nat) : Int) + 1), (5, z), (2, 127), (0, v)]) (g' := g1) rfl ?_
  refine wp_sald (k + 1) (hTLw30 _ _ rfl) (by omega) (by omega) (by omega) ?_
  refine wp_nT hTLw30 4 (pc' := 1654) (L' := [(5, z), (2, 0), (2, 127), (0, ((k : Nat) : Int))]) (st' := [(0, ((k : Nat) : Int) + 2), (5, z), (0, sx (k + 1)), (2, 127), (0, v)]) (g' := g1) rfl ?_
  refine wp_sald (k + 2) (hTLw30 _ _ rfl) (by omega) (by omega) (by omega) ?_
  refine wp_cv (as := [(2, 127), (0, sx (k + 1)), (0, sx (k + 2))]) (rest := [(0, v)]) (hTLw30 _ _ rfl) rfl rfl (Nat.le_of_ble_eq_true rfl) rfl (M_seen (hx _) (hx _) hI hM1) (by decide) (fun r2 hr2 => ?_)
  obtain ⟨g2, rfl, hI2, hM2⟩ := h2 _ hr2
  exact wp_ic_eq (hTLw30 _ _ rfl) (fun _ => kk b1 g2 hI2 hM2) (fun c => absurd rfl c)
def TLw31 : List (Nat × am_E) := [(1663, .aload_n 1, 1, 0, 0), (1664, .aload_n 0, 1, 0, 0), (1665, .iload_n 3, 1, 0, 0), (1666, .iconst 1, 1, 0, 0), (1667, .iadd, 1, 0, 0), (1668, .iaload, 1, 0, 0), (1669, .invokevirtual 159, 3, 127, 1), (1672, .aload_n 2, 1, 0, 0), (1673, .aload_n 0, 1, 0, 0), (1674, .iload_n 3, 1, 0, 0), (1675, .iconst 1, 1, 0, 0), (1676, .iadd, 1, 0, 0), (1677, .iaload, 1, 0, 0), (1678, .invokevirtual 162, 3, 248, 1), (1681, .if_icmp .eq 54, 3, 1735, 0), (1684, .iconst 0, 1, 0, 0), (1685, .ireturn, 1, 1, 0)]
theorem hTLw31 : ∀ pc e, am_fd TLw31 pc = some e → am_fd TL pc = some e := tl_of (by decide +kernel)
theorem law_w31 (hs : sn ≤ 3585) (hx : ∀ j, R32 (sx j)) (hk : k + 7 ≤ sn) (hI : CInv P g) (hM : MRel g g) (kk : ∀ b2 g2, CInv P g2 → MRel g2 g2 → Wp sn sx 80 TL 1735 [(5, z), (2, 0), (2, 127), (0, ((k : Nat) : Int))] [] (SH b2) g2 Q) : Wp sn sx 80 TL 1663 [(5, z), (2, 0), (2, 127), (0, ((k : Nat) : Int))] [] (SH b) g Q := by
  refine wp_nT hTLw31 5 (pc' := 1668) (L' := [(5, z), (2, 0), (2, 127), (0, ((k : Nat) : Int))]) (st' := [(0, ((k : Nat) : Int) + 1), (5, z), (2, 0)]) (g' := g) rfl ?_
  refine wp_sald (k + 1) (hTLw31 _ _ rfl) (by omega) (by omega) (by omega) ?_
  refine wp_cv (as := [(2, 0), (0, sx (k + 1))]) (rest := []) (hTLw31 _ _ rfl) rfl rfl (Nat.le_of_ble_eq_true rfl) rfl (C_shoe (hx _) hI) (by decide) (fun r1 hr1 => ?_)
  obtain ⟨g1, v, b1, rfl, hM1, h2⟩ := law_pair hM hr1
  refine wp_nT hTLw31 5 (pc' := 1677) (L' := [(5, z), (2, 0), (2, 127), (0, ((k : Nat) : Int))]) (st' := [(0, ((k : Nat) : Int) + 1), (5, z), (2, 127), (0, v)]) (g' := g1) rfl ?_
  refine wp_sald (k + 1) (hTLw31 _ _ rfl) (by omega) (by omega) (by omega) ?_
  refine wp_cv (as := [(2, 127), (0, sx (k + 1))]) (rest := [(0, v)]) (hTLw31 _ _ rfl) rfl rfl (Nat.le_of_ble_eq_true rfl) rfl (M_shoe (hx _) hI hM1) (by decide) (fun r2 hr2 => ?_)
  obtain ⟨g2, rfl, hI2, hM2⟩ := h2 _ hr2
  exact wp_ic_eq (hTLw31 _ _ rfl) (fun _ => kk b1 g2 hI2 hM2) (fun c => absurd rfl c)
def TLw32 : List (Nat × am_E) := [(1686, .aload_n 1, 1, 0, 0), (1687, .invokevirtual 163, 3, 128, 0), (1690, .aload_n 2, 1, 0, 0), (1691, .invokevirtual 166, 3, 249, 0), (1694, .if_icmp .eq 41, 3, 1735, 0), (1697, .iconst 0, 1, 0, 0), (1698, .ireturn, 1, 1, 0)]
theorem hTLw32 : ∀ pc e, am_fd TLw32 pc = some e → am_fd TL pc = some e := tl_of (by decide +kernel)
theorem law_w32 (hs : sn ≤ 3585) (hx : ∀ j, R32 (sx j)) (hk : k + 7 ≤ sn) (hI : CInv P g) (hM : MRel g g) (kk : ∀ b2 g2, CInv P g2 → MRel g2 g2 → Wp sn sx 80 TL 1735 [(5, z), (2, 0), (2, 127), (0, ((k : Nat) : Int))] [] (SH b2) g2 Q) : Wp sn sx 80 TL 1686 [(5, z), (2, 0), (2, 127), (0, ((k : Nat) : Int))] [] (SH b) g Q := by
  refine wp_nT hTLw32 1 (pc' := 1687) (L' := [(5, z), (2, 0), (2, 127), (0, ((k : Nat) : Int))]) (st' := [(2, 0)]) (g' := g) rfl ?_
  refine wp_cv (as := [(2, 0)]) (rest := []) (hTLw32 _ _ rfl) rfl rfl (Nat.le_of_ble_eq_true rfl) rfl (C_image hI) (by decide) (fun r1 hr1 => ?_)
  obtain ⟨g1, v, b1, rfl, hM1, h2⟩ := law_pair hM hr1
  refine wp_nT hTLw32 1 (pc' := 1691) (L' := [(5, z), (2, 0), (2, 127), (0, ((k : Nat) : Int))]) (st' := [(2, 127), (0, v)]) (g' := g1) rfl ?_
  refine wp_cv (as := [(2, 127)]) (rest := [(0, v)]) (hTLw32 _ _ rfl) rfl rfl (Nat.le_of_ble_eq_true rfl) rfl (M_image  hM1) (by decide) (fun r2 hr2 => ?_)
  obtain ⟨g2, rfl, hI2, hM2⟩ := h2 _ hr2
  exact wp_ic_eq (hTLw32 _ _ rfl) (fun _ => kk b1 g2 hI2 hM2) (fun c => absurd rfl c)
def TLw33 : List (Nat × am_E) := [(1699, .aload_n 1, 1, 0, 0), (1700, .invokevirtual 167, 3, 129, 0), (1703, .aload_n 2, 1, 0, 0), (1704, .invokevirtual 170, 3, 250, 0), (1707, .if_icmp .eq 28, 3, 1735, 0), (1710, .iconst 0, 1, 0, 0), (1711, .ireturn, 1, 1, 0)]
theorem hTLw33 : ∀ pc e, am_fd TLw33 pc = some e → am_fd TL pc = some e := tl_of (by decide +kernel)
theorem law_w33 (hs : sn ≤ 3585) (hx : ∀ j, R32 (sx j)) (hk : k + 7 ≤ sn) (hI : CInv P g) (hM : MRel g g) (kk : ∀ b2 g2, CInv P g2 → MRel g2 g2 → Wp sn sx 80 TL 1735 [(5, z), (2, 0), (2, 127), (0, ((k : Nat) : Int))] [] (SH b2) g2 Q) : Wp sn sx 80 TL 1699 [(5, z), (2, 0), (2, 127), (0, ((k : Nat) : Int))] [] (SH b) g Q := by
  refine wp_nT hTLw33 1 (pc' := 1700) (L' := [(5, z), (2, 0), (2, 127), (0, ((k : Nat) : Int))]) (st' := [(2, 0)]) (g' := g) rfl ?_
  refine wp_cv (as := [(2, 0)]) (rest := []) (hTLw33 _ _ rfl) rfl rfl (Nat.le_of_ble_eq_true rfl) rfl (C_back hI) (by decide) (fun r1 hr1 => ?_)
  obtain ⟨g1, v, b1, rfl, hM1, h2⟩ := law_pair hM hr1
  refine wp_nT hTLw33 1 (pc' := 1704) (L' := [(5, z), (2, 0), (2, 127), (0, ((k : Nat) : Int))]) (st' := [(2, 127), (0, v)]) (g' := g1) rfl ?_
  refine wp_cv (as := [(2, 127)]) (rest := [(0, v)]) (hTLw33 _ _ rfl) rfl rfl (Nat.le_of_ble_eq_true rfl) rfl (M_back hI hM1) (by decide) (fun r2 hr2 => ?_)
  obtain ⟨g2, rfl, hI2, hM2⟩ := h2 _ hr2
  exact wp_ic_eq (hTLw33 _ _ rfl) (fun _ => kk b1 g2 hI2 hM2) (fun c => absurd rfl c)
def TLw34 : List (Nat × am_E) := [(1712, .aload_n 1, 1, 0, 0), (1713, .aload_n 0, 1, 0, 0), (1714, .iload_n 3, 1, 0, 0), (1715, .iconst 1, 1, 0, 0), (1716, .iadd, 1, 0, 0), (1717, .iaload, 1, 0, 0), (1718, .invokevirtual 171, 3, 130, 1), (1721, .aload_n 2, 1, 0, 0), (1722, .aload_n 0, 1, 0, 0), (1723, .iload_n 3, 1, 0, 0), (1724, .iconst 1, 1, 0, 0), (1725, .iadd, 1, 0, 0), (1726, .iaload, 1, 0, 0), (1727, .invokevirtual 174, 3, 251, 1), (1730, .if_icmp .eq 5, 3, 1735, 0), (1733, .iconst 0, 1, 0, 0), (1734, .ireturn, 1, 1, 0)]
theorem hTLw34 : ∀ pc e, am_fd TLw34 pc = some e → am_fd TL pc = some e := tl_of (by decide +kernel)
theorem law_w34 (hs : sn ≤ 3585) (hx : ∀ j, R32 (sx j)) (hk : k + 7 ≤ sn) (hI : CInv P g) (hM : MRel g g) (kk : ∀ b2 g2, CInv P g2 → MRel g2 g2 → Wp sn sx 80 TL 1735 [(5, z), (2, 0), (2, 127), (0, ((k : Nat) : Int))] [] (SH b2) g2 Q) : Wp sn sx 80 TL 1712 [(5, z), (2, 0), (2, 127), (0, ((k : Nat) : Int))] [] (SH b) g Q := by
  refine wp_nT hTLw34 5 (pc' := 1717) (L' := [(5, z), (2, 0), (2, 127), (0, ((k : Nat) : Int))]) (st' := [(0, ((k : Nat) : Int) + 1), (5, z), (2, 0)]) (g' := g) rfl ?_
  refine wp_sald (k + 1) (hTLw34 _ _ rfl) (by omega) (by omega) (by omega) ?_
  refine wp_cv (as := [(2, 0), (0, sx (k + 1))]) (rest := []) (hTLw34 _ _ rfl) rfl rfl (Nat.le_of_ble_eq_true rfl) rfl (C_about (hx _) hI) (by decide) (fun r1 hr1 => ?_)
  obtain ⟨g1, v, b1, rfl, hM1, h2⟩ := law_pair hM hr1
  refine wp_nT hTLw34 5 (pc' := 1726) (L' := [(5, z), (2, 0), (2, 127), (0, ((k : Nat) : Int))]) (st' := [(0, ((k : Nat) : Int) + 1), (5, z), (2, 127), (0, v)]) (g' := g1) rfl ?_
  refine wp_sald (k + 1) (hTLw34 _ _ rfl) (by omega) (by omega) (by omega) ?_
  refine wp_cv (as := [(2, 127), (0, sx (k + 1))]) (rest := [(0, v)]) (hTLw34 _ _ rfl) rfl rfl (Nat.le_of_ble_eq_true rfl) rfl (M_about (hx _) hI hM1) (by decide) (fun r2 hr2 => ?_)
  obtain ⟨g2, rfl, hI2, hM2⟩ := h2 _ hr2
  exact wp_ic_eq (hTLw34 _ _ rfl) (fun _ => kk b1 g2 hI2 hM2) (fun c => absurd rfl c)
end
