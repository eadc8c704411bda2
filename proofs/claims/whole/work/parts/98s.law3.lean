/-! THE LAW: its loop, its beginning -/
def TLs : List (Nat × am_E) := [(0, .new 7, 3, 11, 0), (3, .dup, 1, 0, 0), (4, .aload_n 0, 1, 0, 0), (5, .iconst 0, 1, 0, 0), (6, .invokestatic 9, 3, 252, 2), (9, .invokespecial 15, 3, 95, 1), (12, .astore_n 1, 1, 0, 0), (13, .new 18, 3, 12, 0), (16, .dup, 1, 0, 0), (17, .aload_n 0, 1, 0, 0), (18, .iconst 0, 1, 0, 0), (19, .invokestatic 9, 3, 252, 2), (22, .invokespecial 20, 3, 149, 1), (25, .astore_n 2, 1, 0, 0), (26, .iconst 1, 1, 0, 0), (27, .istore_n 3, 1, 0, 0), (28, .iload_n 3, 1, 0, 0), (29, .aload_n 0, 1, 0, 0), (30, .arraylength, 1, 0, 0), (31, .bipush 7, 2, 0, 0), (33, .isub, 1, 0, 0), (34, .if_icmp .gt 1707, 3, 1741, 0), (37, .aload_n 0, 1, 0, 0), (38, .iload_n 3, 1, 0, 0), (39, .iaload, 1, 0, 0), (40, .bipush 63, 2, 0, 0), (42, .iand, 1, 0, 0), (43, .tableswitch 1692 0 34 #[153, 206, 281, 314, 377, 400, 463, 486, 499, 522, 545, 620, 695, 770, 813, 866, 909, 942, 975, 1018, 1061, 1104, 1173, 1226, 1269, 1332, 1385, 1448, 1491, 1524, 1587, 1620, 1643, 1656, 1669], 153, 0, 0)]
theorem hTLs : ∀ pc e, am_fd TLs pc = some e → am_fd TL pc = some e := tl_of (by decide +kernel)
def TLe : List (Nat × am_E) := [(1735, .iinc 3 7, 3, 0, 0), (1738, .goto (-1710), 3, 28, 0), (1741, .iconst 1, 1, 0, 0), (1742, .ireturn, 1, 1, 0)]
theorem hTLe : ∀ pc e, am_fd TLe pc = some e → am_fd TL pc = some e := tl_of (by decide +kernel)
theorem iand_63 (x : Int) : ∃ v : Nat, v < 64 ∧ (Int32.ofInt x &&& Int32.ofInt 63).toInt = (v : Int) := by
  have e2 : (BitVec.ofInt 32 (63 : Int)).toNat = 63 := by rfl
  have e3 : (BitVec.ofInt 32 x &&& BitVec.ofInt 32 63).toNat = (BitVec.ofInt 32 x).toNat % 64 := by
    rw [BitVec.toNat_and, e2]
    exact Nat.and_two_pow_sub_one_eq_mod _ 6
  refine ⟨(BitVec.ofInt 32 x).toNat % 64, Nat.mod_lt _ (by decide), ?_⟩
  show (BitVec.ofInt 32 x &&& BitVec.ofInt 32 63).toInt = _
  rw [BitVec.toInt_eq_toNat_of_lt (by rw [e3]; omega), e3]
def LawQ (r : am_R) : Prop := r.1 = some (0, 1) ∧ ∃ b g, r.2 = (SH b, g)
theorem law_sw {sn : Nat} {sx : Nat → Int} {P b k v : Nat} {z : Int} {g : am_G} {Q : am_R → Prop} (hs : sn ≤ 3585) (hx : ∀ j, R32 (sx j)) (hk : k + 7 ≤ sn) (hI : CInv P g) (hM : MRel g g) (kk : ∀ b2 g2, CInv P g2 → MRel g2 g2 → Wp sn sx 80 TL 1735 [(5, z), (2, 0), (2, 127), (0, ((k : Nat) : Int))] [] (SH b2) g2 Q) (hv : v < 64) : Wp sn sx 80 TL 43 [(5, z), (2, 0), (2, 127), (0, ((k : Nat) : Int))] [(0, ((v : Nat) : Int))] (SH b) g Q := by
  by_cases h : v < 35
  · rcases (show v = 0 ∨ v = 1 ∨ v = 2 ∨ v = 3 ∨ v = 4 ∨ v = 5 ∨ v = 6 ∨ v = 7 ∨ v = 8 ∨ v = 9 ∨ v = 10 ∨ v = 11 ∨ v = 12 ∨ v = 13 ∨ v = 14 ∨ v = 15 ∨ v = 16 ∨ v = 17 ∨ v = 18 ∨ v = 19 ∨ v = 20 ∨ v = 21 ∨ v = 22 ∨ v = 23 ∨ v = 24 ∨ v = 25 ∨ v = 26 ∨ v = 27 ∨ v = 28 ∨ v = 29 ∨ v = 30 ∨ v = 31 ∨ v = 32 ∨ v = 33 ∨ v = 34 by omega) with rfl | rfl | rfl | rfl | rfl | rfl | rfl | rfl | rfl | rfl | rfl | rfl | rfl | rfl | rfl | rfl | rfl | rfl | rfl | rfl | rfl | rfl | rfl | rfl | rfl | rfl | rfl | rfl | rfl | rfl | rfl | rfl | rfl | rfl | rfl
    · exact wp_nT hTLs 1 (pc' := 196) (L' := [(5, z), (2, 0), (2, 127), (0, ((k : Nat) : Int))]) (st' := []) (g' := g) rfl (law_w0 hs hx hk hI hM kk)
    · exact wp_nT hTLs 1 (pc' := 249) (L' := [(5, z), (2, 0), (2, 127), (0, ((k : Nat) : Int))]) (st' := []) (g' := g) rfl (law_w1 hs hx hk hI hM kk)
    · exact wp_nT hTLs 1 (pc' := 324) (L' := [(5, z), (2, 0), (2, 127), (0, ((k : Nat) : Int))]) (st' := []) (g' := g) rfl (law_w2 hs hx hk hI hM kk)
    · exact wp_nT hTLs 1 (pc' := 357) (L' := [(5, z), (2, 0), (2, 127), (0, ((k : Nat) : Int))]) (st' := []) (g' := g) rfl (law_w3 hs hx hk hI hM kk)
    · exact wp_nT hTLs 1 (pc' := 420) (L' := [(5, z), (2, 0), (2, 127), (0, ((k : Nat) : Int))]) (st' := []) (g' := g) rfl (law_w4 hs hx hk hI hM kk)
    · exact wp_nT hTLs 1 (pc' := 443) (L' := [(5, z), (2, 0), (2, 127), (0, ((k : Nat) : Int))]) (st' := []) (g' := g) rfl (law_w5 hs hx hk hI hM kk)
    · exact wp_nT hTLs 1 (pc' := 506) (L' := [(5, z), (2, 0), (2, 127), (0, ((k : Nat) : Int))]) (st' := []) (g' := g) rfl (law_w6 hs hx hk hI hM kk)
    · exact wp_nT hTLs 1 (pc' := 529) (L' := [(5, z), (2, 0), (2, 127), (0, ((k : Nat) : Int))]) (st' := []) (g' := g) rfl (law_w7 hs hx hk hI hM kk)
    · exact wp_nT hTLs 1 (pc' := 542) (L' := [(5, z), (2, 0), (2, 127), (0, ((k : Nat) : Int))]) (st' := []) (g' := g) rfl (law_w8 hs hx hk hI hM kk)
    · exact wp_nT hTLs 1 (pc' := 565) (L' := [(5, z), (2, 0), (2, 127), (0, ((k : Nat) : Int))]) (st' := []) (g' := g) rfl (law_w9 hs hx hk hI hM kk)
    · exact wp_nT hTLs 1 (pc' := 588) (L' := [(5, z), (2, 0), (2, 127), (0, ((k : Nat) : Int))]) (st' := []) (g' := g) rfl (law_w10 hs hx hk hI hM kk)
    · exact wp_nT hTLs 1 (pc' := 663) (L' := [(5, z), (2, 0), (2, 127), (0, ((k : Nat) : Int))]) (st' := []) (g' := g) rfl (law_w11 hs hx hk hI hM kk)
    · exact wp_nT hTLs 1 (pc' := 738) (L' := [(5, z), (2, 0), (2, 127), (0, ((k : Nat) : Int))]) (st' := []) (g' := g) rfl (law_w12 hs hx hk hI hM kk)
    · exact wp_nT hTLs 1 (pc' := 813) (L' := [(5, z), (2, 0), (2, 127), (0, ((k : Nat) : Int))]) (st' := []) (g' := g) rfl (law_w13 hs hx hk hI hM kk)
    · exact wp_nT hTLs 1 (pc' := 856) (L' := [(5, z), (2, 0), (2, 127), (0, ((k : Nat) : Int))]) (st' := []) (g' := g) rfl (law_w14 hs hx hk hI hM kk)
    · exact wp_nT hTLs 1 (pc' := 909) (L' := [(5, z), (2, 0), (2, 127), (0, ((k : Nat) : Int))]) (st' := []) (g' := g) rfl (law_w15 hs hx hk hI hM kk)
    · exact wp_nT hTLs 1 (pc' := 952) (L' := [(5, z), (2, 0), (2, 127), (0, ((k : Nat) : Int))]) (st' := []) (g' := g) rfl (law_w16 hs hx hk hI hM kk)
    · exact wp_nT hTLs 1 (pc' := 985) (L' := [(5, z), (2, 0), (2, 127), (0, ((k : Nat) : Int))]) (st' := []) (g' := g) rfl (law_w17 hs hx hk hI hM kk)
    · exact wp_nT hTLs 1 (pc' := 1018) (L' := [(5, z), (2, 0), (2, 127), (0, ((k : Nat) : Int))]) (st' := []) (g' := g) rfl (law_w18 hs hx hk hI hM kk)
    · exact wp_nT hTLs 1 (pc' := 1061) (L' := [(5, z), (2, 0), (2, 127), (0, ((k : Nat) : Int))]) (st' := []) (g' := g) rfl (law_w19 hs hx hk hI hM kk)
    · exact wp_nT hTLs 1 (pc' := 1104) (L' := [(5, z), (2, 0), (2, 127), (0, ((k : Nat) : Int))]) (st' := []) (g' := g) rfl (law_w20 hs hx hk hI hM kk)
    · exact wp_nT hTLs 1 (pc' := 1147) (L' := [(5, z), (2, 0), (2, 127), (0, ((k : Nat) : Int))]) (st' := []) (g' := g) rfl (law_w21 hs hx hk hI hM kk)
    · exact wp_nT hTLs 1 (pc' := 1216) (L' := [(5, z), (2, 0), (2, 127), (0, ((k : Nat) : Int))]) (st' := []) (g' := g) rfl (law_w22 hs hx hk hI hM kk)
    · exact wp_nT hTLs 1 (pc' := 1269) (L' := [(5, z), (2, 0), (2, 127), (0, ((k : Nat) : Int))]) (st' := []) (g' := g) rfl (law_w23 hs hx hk hI hM kk)
    · exact wp_nT hTLs 1 (pc' := 1312) (L' := [(5, z), (2, 0), (2, 127), (0, ((k : Nat) : Int))]) (st' := []) (g' := g) rfl (law_w24 hs hx hk hI hM kk)
    · exact wp_nT hTLs 1 (pc' := 1375) (L' := [(5, z), (2, 0), (2, 127), (0, ((k : Nat) : Int))]) (st' := []) (g' := g) rfl (law_w25 hs hx hk hI hM kk)
    · exact wp_nT hTLs 1 (pc' := 1428) (L' := [(5, z), (2, 0), (2, 127), (0, ((k : Nat) : Int))]) (st' := []) (g' := g) rfl (law_w26 hs hx hk hI hM kk)
    · exact wp_nT hTLs 1 (pc' := 1491) (L' := [(5, z), (2, 0), (2, 127), (0, ((k : Nat) : Int))]) (st' := []) (g' := g) rfl (law_w27 hs hx hk hI hM kk)
    · exact wp_nT hTLs 1 (pc' := 1534) (L' := [(5, z), (2, 0), (2, 127), (0, ((k : Nat) : Int))]) (st' := []) (g' := g) rfl (law_w28 hs hx hk hI hM kk)
    · exact wp_nT hTLs 1 (pc' := 1567) (L' := [(5, z), (2, 0), (2, 127), (0, ((k : Nat) : Int))]) (st' := []) (g' := g) rfl (law_w29 hs hx hk hI hM kk)
    · exact wp_nT hTLs 1 (pc' := 1630) (L' := [(5, z), (2, 0), (2, 127), (0, ((k : Nat) : Int))]) (st' := []) (g' := g) rfl (law_w30 hs hx hk hI hM kk)
    · exact wp_nT hTLs 1 (pc' := 1663) (L' := [(5, z), (2, 0), (2, 127), (0, ((k : Nat) : Int))]) (st' := []) (g' := g) rfl (law_w31 hs hx hk hI hM kk)
    · exact wp_nT hTLs 1 (pc' := 1686) (L' := [(5, z), (2, 0), (2, 127), (0, ((k : Nat) : Int))]) (st' := []) (g' := g) rfl (law_w32 hs hx hk hI hM kk)
    · exact wp_nT hTLs 1 (pc' := 1699) (L' := [(5, z), (2, 0), (2, 127), (0, ((k : Nat) : Int))]) (st' := []) (g' := g) rfl (law_w33 hs hx hk hI hM kk)
    · exact wp_nT hTLs 1 (pc' := 1712) (L' := [(5, z), (2, 0), (2, 127), (0, ((k : Nat) : Int))]) (st' := []) (g' := g) rfl (law_w34 hs hx hk hI hM kk)
  · exact wp_swd (a' := 1735) (hTLs _ _ rfl) (by omega) (Or.inr (by omega)) rfl (kk b g hI hM)
theorem law_end {sn : Nat} {sx : Nat → Int} {b : Nat} {L : List am_V} {g : am_G} : Wp sn sx 80 TL 1741 L [] (SH b) g LawQ := by
  refine wp_nT hTLe 1 (pc' := 1742) (L' := L) (st' := [(0, 1)]) (g' := g) rfl ?_
  exact wp_ret (v := some (0, 1)) (hTLe _ _ rfl) rfl rfl ⟨rfl, b, g, rfl⟩
theorem law_loop {sn : Nat} {sx : Nat → Int} {P : Nat} {z : Int} (hs : sn ≤ 3585) (hx : ∀ j, R32 (sx j)) : ∀ (n k b : Nat) (g : am_G), sn < k + n → k ≤ 3600 → CInv P g → MRel g g → Wp sn sx 80 TL 28 [(5, z), (2, 0), (2, 127), (0, ((k : Nat) : Int))] [] (SH b) g LawQ := by
  intro n
  induction n with
  | zero =>
    intro k b g h1 h2 hI hM
    refine wp_nT hTLs 5 (pc' := 34) (L' := [(5, z), (2, 0), (2, 127), (0, ((k : Nat) : Int))]) (st' := [(0, (sn : Int) - 7), (0, ((k : Nat) : Int))]) (g' := g) rfl ?_
    exact wp_ic_gt (hTLs _ _ rfl) (fun _ => law_end) (fun c => by omega)
  | succ n ih =>
    intro k b g h1 h2 hI hM
    refine wp_nT hTLs 5 (pc' := 34) (L' := [(5, z), (2, 0), (2, 127), (0, ((k : Nat) : Int))]) (st' := [(0, (sn : Int) - 7), (0, ((k : Nat) : Int))]) (g' := g) rfl ?_
    refine wp_ic_gt (hTLs _ _ rfl) (fun _ => law_end) (fun c => ?_)
    have hk : k + 7 ≤ sn := by omega
    refine wp_nT hTLs 2 (pc' := 39) (L' := [(5, z), (2, 0), (2, 127), (0, ((k : Nat) : Int))]) (st' := [(0, ((k : Nat) : Int)), (5, z)]) (g' := g) rfl ?_
    refine wp_sald k (hTLs _ _ rfl) rfl (by omega) (by omega) ?_
    obtain ⟨v, hv, e⟩ := iand_63 (sx k)
    refine wp_nT hTLs 2 (pc' := 43) (L' := [(5, z), (2, 0), (2, 127), (0, ((k : Nat) : Int))]) (st' := [(0, (Int32.ofInt (sx k) &&& Int32.ofInt 63).toInt)]) (g' := g) rfl ?_
    rw [e]
    refine law_sw hs hx hk hI hM (fun b2 g2 hI2 hM2 => ?_) hv
    refine wp_nT hTLe 2 (pc' := 28) (L' := [(5, z), (2, 0), (2, 127), (0, ((k + 7 : Nat) : Int))]) (st' := []) (g' := g2) rfl ?_
    exact ih (k + 7) b2 g2 (by omega) (by omega) hI2 hM2
theorem e_lawn {sn : Nat} {sx : Nat → Int} {sh : am_Sh} {g : am_G} {z n : Int} (hs : sn ≤ 100000) (hn : (if 0 < sn then sx 0 else 0) = n) : Ev sn sx 1 252 [(5, z), (0, 0)] sh g (fun r => r = (some (0, n), sh, g)) := by
  subst hn
  exact e_lawat hs
theorem law_run {sn : Nat} {sx : Nat → Int} {z : Int} {g : am_G} (hs : sn ≤ 3585) (hx : ∀ j, R32 (sx j)) : Wp sn sx 80 TL 0 [(5, z), (9, 0), (9, 0), (9, 0)] [] [] g LawQ := by
  obtain ⟨n, en⟩ : ∃ n, (if 0 < sn then sx 0 else 0) = n := ⟨_, rfl⟩
  have hn : R32 n := by
    rw [← en]
    split
    · exact hx 0
    · decide
  refine wp_new (s' := (3, [(2, 0)], Zs0, am_cl g 0)) (hTLs _ _ rfl) rfl rfl ?_
  refine wp_nT hTLs 3 (pc' := 6) (L' := [(5, z), (9, 0), (9, 0), (9, 0)]) (st' := [(0, 0), (5, z), (2, 0), (2, 0)]) (g' := am_cl g 0) rfl ?_
  refine wp_cs (as := [(5, z), (0, 0)]) (rest := [(2, 0), (2, 0)]) (hTLs _ _ rfl) (by decide) rfl (Nat.le_of_ble_eq_true rfl) (e_lawn (by omega) en) (by decide) (fun r h => ?_)
  obtain rfl := h
  refine wp_ci (k := 0) (as := [(0, n)]) (rest := [(2, 0)]) (hTLs _ _ rfl) (by decide) rfl (Nat.le_of_ble_eq_true rfl) (k95_0 hn) (by decide) (fun r h => ?_)
  obtain rfl := h
  refine wp_nT hTLs 1 (pc' := 13) (L' := [(5, z), (2, 0), (9, 0), (9, 0)]) (st' := []) (g' := Gk95_0 n (am_cl g 0)) rfl ?_
  refine wp_new (s' := (16, [(2, 127)], Zs253, am_cl (Gk95_0 n (am_cl g 0)) 127)) (hTLs _ _ rfl) rfl rfl ?_
  have hb : ∀ c j, c < 127 → am_cl (Gk95_0 n (am_cl g 0)) 127 c j = Gk95_0 n (am_cl g 0) c j := fun c j h => by
    show (if c = 127 then (0 : Int) else _) = _
    rw [if_neg (by omega)]
  have h7 : ∀ j, am_cl (Gk95_0 n (am_cl g 0)) 127 127 j = 0 := fun j => if_pos rfl
  generalize am_cl (Gk95_0 n (am_cl g 0)) 127 = gb at hb h7 ⊢
  refine wp_nT hTLs 3 (pc' := 19) (L' := [(5, z), (2, 0), (9, 0), (9, 0)]) (st' := [(0, 0), (5, z), (2, 127), (2, 127)]) (g' := gb) rfl ?_
  refine wp_cs (as := [(5, z), (0, 0)]) (rest := [(2, 127), (2, 127)]) (hTLs _ _ rfl) (by decide) rfl (Nat.le_of_ble_eq_true rfl) (e_lawn (by omega) en) (by decide) (fun r h => ?_)
  obtain rfl := h
  refine wp_ci (k := 127) (as := [(0, n)]) (rest := [(2, 127)]) (hTLs _ _ rfl) (by decide) rfl (Nat.le_of_ble_eq_true rfl) (m_new hn) (by decide) (fun r h => ?_)
  obtain ⟨g2, rfl, e0, e7, e8, e9, eF⟩ := h
  obtain ⟨hI, hM⟩ := mr_new hb h7 e0 e7 e8 e9 eF
  refine wp_nT hTLs 3 (pc' := 28) (L' := [(5, z), (2, 0), (2, 127), (0, ((1 : Nat) : Int))]) (st' := []) (g' := g2) rfl ?_
  exact law_loop hs hx (sn + 1) 1 0 g2 (by omega) (by omega) hI hM

