/-! WHERE: stand, level by level -/
def STC (P n e : Nat) (l ev tb fl sc : Nat → Int) (g : am_G) : Prop := (∀ u : Nat, u < 3 → g 60 u = ((spn ev tb fl (e : Int) (u : Int) n : Nat) : Int)) ∧ (∀ u v : Nat, u < 3 → v < 4 → BigR g (71 + 2 * (4 * u + v)) (chn P l ev tb fl (e : Int) u v n)) ∧ g 15 = sc
theorem STC.same {P n e : Nat} {l ev tb fl sc : Nat → Int} {g g' : am_G} (h : STC P n e l ev tb fl sc g) (hF : ∀ c j, c = 60 ∨ (71 ≤ c ∧ c ≤ 94) ∨ c = 15 → g' c j = g c j) : STC P n e l ev tb fl sc g' := by
  obtain ⟨h1, h2, h3⟩ := h
  exact ⟨fun u hu => (hF 60 u (by omega)).trans (h1 u hu), fun u v hu hv => (h2 u v hu hv).same fun c j q => hF c j (by omega), (funext fun j => hF 15 j (by omega)).trans h3⟩
theorem STC.ft {P n e t : Nat} {l ev tb fl sc : Nat → Int} {g g' : am_G} (h : STC P n e l ev tb fl sc g) (hF : FrT t e g g') : STC P n e l ev tb fl sc g' := h.same fun c j q => hF c j (by omega) (by omega) (by omega) (by omega) (by omega)
def UsB (us B t : Nat) : Prop := us < 16 ∧ ∀ d : Nat, d < 4 → (us / 2 ^ d % 2 = 1 ↔ ∃ u : Nat, u < t ∧ wy B u = (d : Int))
theorem us_all (us : Nat) (hu : us < 16) (w : Nat) (hw : w < 4) (h : us / 2 ^ w % 2 = 0) : us + 2 ^ w < 16 ∧ ∀ d, d < 4 → ((us + 2 ^ w) / 2 ^ d % 2 = 1 ↔ us / 2 ^ d % 2 = 1 ∨ d = w) := by
  have k : ∀ us : Fin 16, ∀ w : Fin 4, us.val / 2 ^ w.val % 2 = 0 → us.val + 2 ^ w.val < 16 ∧ ∀ d : Fin 4, ((us.val + 2 ^ w.val) / 2 ^ d.val % 2 = 1 ↔ us.val / 2 ^ d.val % 2 = 1 ∨ d.val = w.val) := by decide +kernel
  have k2 := k ⟨us, hu⟩ ⟨w, hw⟩ h
  exact ⟨k2.1, fun d hd => k2.2 ⟨d, hd⟩⟩
theorem ior_all (us : Nat) (hu : us < 16) (w : Nat) (hw : w < 4) (h : us / 2 ^ w % 2 = 0) : (Int32.ofInt (us : Int) ||| Int32.ofInt ((2 ^ w : Nat) : Int)).toInt = ((us + 2 ^ w : Nat) : Int) := by
  have k : ∀ us : Fin 16, ∀ w : Fin 4, us.val / 2 ^ w.val % 2 = 0 → (Int32.ofInt (us.val : Int) ||| Int32.ofInt ((2 ^ w.val : Nat) : Int)).toInt = ((us.val + 2 ^ w.val : Nat) : Int) := by decide +kernel
  exact k ⟨us, hu⟩ ⟨w, hw⟩ h
theorem UsB.add {us B B' t w : Nat} (hU : UsB us B t) (hw : w < 4) (hq : us / 2 ^ w % 2 = 0) (hB : ∀ u, u < t → wy B' u = wy B u) (hd : wy B' t = (w : Int)) : UsB (us + 2 ^ w) B' (t + 1) := by
  have h1 := us_all us hU.1 w hw hq
  refine ⟨h1.1, fun d hd4 => (h1.2 d hd4).trans ⟨fun h => ?_, fun h => ?_⟩⟩
  · rcases h with h | h
    · obtain ⟨u, hu, he⟩ := (hU.2 d hd4).mp h
      exact ⟨u, by omega, (hB u hu).trans he⟩
    · subst h; exact ⟨t, by omega, hd⟩
  · obtain ⟨u, hu, he⟩ := h
    by_cases q : u = t
    · subst q; rw [hd] at he; exact Or.inr (by omega)
    · exact Or.inl ((hU.2 d hd4).mpr ⟨u, by omega, by rw [← hB u (by omega)]; exact he⟩)
theorem blk_no2 {P n e B c : Nat} {l ev tb fl sc : Nat → Int} (H : BkH P n l ev tb fl sc) (he : e < 4) (hB : B % 5 = 0) (h1 : B + 5 ≤ 125) (hc : c ≤ 4) (hn : ¬ lcx ev tb fl sc n e (wy (B + c * 1)) 2) : ∀ k, B + c * 1 ≤ k → k < B + c * 1 + 1 → ¬ okw ev tb fl sc n e (wy k) := fun k k1 k2 h => hn (lcx_eq (w := wy k) (fun u hu => ((wyb_2 hB h1 hc k1 k2).1 u hu).symm) (ok_lcx (fun q _ => (wy_in k q (by omega)).1) H.2.2.2.2.1 he h 2 (by omega)))
theorem blk_no1 {P n e B c : Nat} {l ev tb fl sc : Nat → Int} (H : BkH P n l ev tb fl sc) (he : e < 4) (hB : B % 25 = 0) (h1 : B + 25 ≤ 125) (hc : c ≤ 4) (hn : ¬ lcx ev tb fl sc n e (wy (B + c * 5)) 1) : ∀ k, B + c * 5 ≤ k → k < B + c * 5 + 5 → ¬ okw ev tb fl sc n e (wy k) := fun k k1 k2 h => hn (lcx_eq (w := wy k) (fun u hu => ((wyb_1 hB h1 hc k1 k2).1 u hu).symm) (ok_lcx (fun q _ => (wy_in k q (by omega)).1) H.2.2.2.2.1 he h 1 (by omega)))
theorem blk_no0 {P n e B c : Nat} {l ev tb fl sc : Nat → Int} (H : BkH P n l ev tb fl sc) (he : e < 4) (hB : B % 125 = 0) (h1 : B + 125 ≤ 125) (hc : c ≤ 4) (hn : ¬ lcx ev tb fl sc n e (wy (B + c * 25)) 0) : ∀ k, B + c * 25 ≤ k → k < B + c * 25 + 25 → ¬ okw ev tb fl sc n e (wy k) := fun k k1 k2 h => hn (lcx_eq (w := wy k) (fun u hu => ((wyb_0 hB h1 hc k1 k2).1 u hu).symm) (ok_lcx (fun q _ => (wy_in k q (by omega)).1) H.2.2.2.2.1 he h 0 (by omega)))
set_option maxHeartbeats 400000 in
set_option maxRecDepth 20000 in
theorem e_stand3 {sn : Nat} {sx : Nat → Int} {b : Nat} {g : am_G} {P n e B us : Nat} {l ev tb fl sc : Nat → Int} (H : BkH P n l ev tb fl sc) (he : e < 4) (hc : ¬ cls sc e) (hB : B % 1 = 0 ∧ B + 1 ≤ 125) (hlc : ∀ u, u < 3 → lcx ev tb fl sc n e (wy B) u) (hS : STC P n e l ev tb fl sc g) (hW : WB (fun k => okw ev tb fl sc n e (wy k)) (fun k => lkw P l ev tb fl e (wy k) n) e B g) (hL : WLs g) (hT : ∀ u : Nat, u < 3 → g 61 u = wy B u) (hX : BigR g 101 (prw P l ev tb fl n e (wy B) 3)) (hU : UsB us B 3) : Ev sn sx 4 93 [(2, 56), (0, ((e : Nat) : Int)), (0, 3), (0, ((us : Nat) : Int))] (SH b) g (fun r => ∃ g', r = (none, SH b, g') ∧ WB (fun k => okw ev tb fl sc n e (wy k)) (fun k => lkw P l ev tb fl e (wy k) n) e (B + 1) g' ∧ WLs g' ∧ FrT 3 e g g') := by
  refine ev_of (K := 3) T93 (by decide) rfl rfl (Nat.le_of_ble_eq_true rfl) ?_
  refine wp_eq (L' := [(2, 56), (0, ((e : Nat) : Int)), (0, 3), (0, ((us : Nat) : Int)), (9, 0)]) (st' := []) (g' := g) ?_
  refine wp_n 5 (pc' := 7) (L' := [(2, 56), (0, ((e : Nat) : Int)), (0, 3), (0, ((us : Nat) : Int)), (9, 0)]) (st' := [(0, ((e : Nat) : Int)), (2, 56)]) (g' := g) rfl ?_
  refine wp_cv (as := [(2, 56), (0, ((e : Nat) : Int))]) (rest := []) rfl rfl rfl (Nat.le_of_ble_eq_true rfl) rfl (e_judge (B := B) he (by omega) (p := fun k => okw ev tb fl sc n e (wy k)) (v := fun k => lkw P l ev tb fl e (wy k) n) (lcx_ok hc hlc) (fun k hk => lk_in H he hk) hW hL (by rw [prw_lkw H] at hX; exact hX) hT) (by decide) (fun r1 h2 => ?_)
  obtain ⟨g7, rfl, hW7, hL7, hF7⟩ := h2
  refine wp_eq (L' := [(2, 56), (0, ((e : Nat) : Int)), (0, 3), (0, ((us : Nat) : Int)), (9, 0)]) (st' := []) (g' := g7) ?_
  refine wp_n 1 (pc' := 158) (L' := [(2, 56), (0, ((e : Nat) : Int)), (0, 3), (0, ((us : Nat) : Int)), (9, 0)]) (st' := []) (g' := g7) rfl ?_
  exact wp_ret rfl rfl rfl ⟨_, rfl, hW7, hL7, hF7⟩
set_option maxHeartbeats 400000 in
set_option maxRecDepth 20000 in
theorem e_stand2 {sn : Nat} {sx : Nat → Int} {b : Nat} {g : am_G} {P n e B us : Nat} {l ev tb fl sc : Nat → Int} (H : BkH P n l ev tb fl sc) (he : e < 4) (hc : ¬ cls sc e) (hB : B % 5 = 0 ∧ B + 5 ≤ 125) (hlc : ∀ u, u < 2 → lcx ev tb fl sc n e (wy B) u) (hS : STC P n e l ev tb fl sc g) (hW : WB (fun k => okw ev tb fl sc n e (wy k)) (fun k => lkw P l ev tb fl e (wy k) n) e B g) (hL : WLs g) (hT : ∀ u : Nat, u < 2 → g 61 u = wy B u) (hX : BigR g 99 (prw P l ev tb fl n e (wy B) 2)) (hU : UsB us B 2) : Ev sn sx 5 93 [(2, 56), (0, ((e : Nat) : Int)), (0, 2), (0, ((us : Nat) : Int))] (SH b) g (fun r => ∃ g', r = (none, SH b, g') ∧ WB (fun k => okw ev tb fl sc n e (wy k)) (fun k => lkw P l ev tb fl e (wy k) n) e (B + 5) g' ∧ WLs g' ∧ FrT 2 e g g') := by
  have hsp := smT_le (ev := ev) (tb := tb) (fl := fl) (n := n) (e := (e : Int)) 3 (Nat.le_refl _)
  have hs24 := H.2.2.2.2.2 e he
  have hN : spn ev tb fl (e : Int) ((2 : Nat) : Int) n ≤ 24 := by
    first | exact Nat.le_trans (Nat.le_trans (Nat.le_add_right _ _) (Nat.le_add_right _ _)) hs24 | exact Nat.le_trans (Nat.le_trans (Nat.le_add_left _ _) (Nat.le_add_right _ _)) hs24 | exact Nat.le_trans (Nat.le_add_left _ _) hs24
  have hus := hU.1
  have hw0 : wy B 2 = -1 := by rw [wy2]; omega
  refine ev_of (K := 4) T93 (by decide) rfl rfl (Nat.le_of_ble_eq_true rfl) ?_
  refine wp_eq (L' := [(2, 56), (0, ((e : Nat) : Int)), (0, 2), (0, ((us : Nat) : Int)), (9, 0)]) (st' := []) (g' := g) ?_
  refine wp_n 6 (pc' := 18) (L' := [(2, 56), (0, ((e : Nat) : Int)), (0, 2), (0, ((us : Nat) : Int)), (9, 0)]) (st' := [(0, 2), (2, 60)]) (g' := g) rfl ?_
  refine wp_iald (k := 60) (2) rfl rfl (by omega) (by omega) (by decide) ?_
  refine wp_eq (L' := [(2, 56), (0, ((e : Nat) : Int)), (0, 2), (0, ((us : Nat) : Int)), (9, 0)]) (st' := [(0, (((spn ev tb fl (e : Int) ((2 : Nat) : Int) n) : Nat) : Int))]) (g' := g) ?_ (by rfl) (by rw [hS.1 2 (by omega)]) (by rfl)
  refine wp_if_ne rfl (fun c1 => ?_) (fun c1 => ?_)
  · have hn00 : ¬ lcx ev tb fl sc n e (wy (B + 0 * 1)) 2 := by
      intro q
      have q9 : wy (B + 0 * 1) 2 = -1 := by rw [wy2]; omega
      rcases q.1 with ⟨q1, q2, q3⟩ | ⟨q1, q2⟩ <;> omega
    have hm1 := blk_no2 (c := 0) H he hB.1 hB.2 (by omega) hn00
    refine wp_n 2 (pc' := 61) (L' := [(2, 56), (0, ((e : Nat) : Int)), (0, 2), (0, ((us : Nat) : Int)), (0, 0)]) (st' := []) (g' := g) rfl ?_
    have L61 : ∀ (lf : Nat) (w : Nat) (h : am_G), 4 - w < lf → (w ≤ 4) → (WB (fun k => okw ev tb fl sc n e (wy k)) (fun k => lkw P l ev tb fl e (wy k) n) e (B + (w + 1) * 1) h) → (WLs h) → (FrT 2 e g h) → Wp sn sx 4 T93 61 [(2, 56), (0, ((e : Nat) : Int)), (0, 2), (0, ((us : Nat) : Int)), (0, ((w : Nat) : Int))] [] (SH b) h (fun r => ∃ g', r = (none, SH b, g') ∧ WB (fun k => okw ev tb fl sc n e (wy k)) (fun k => lkw P l ev tb fl e (wy k) n) e (B + 5) g' ∧ WLs g' ∧ FrT 2 e g g') := by
      intro lf
      induction lf with
      | zero => intro w h hlf; exact absurd hlf (Nat.not_lt_zero _)
      | succ lf ih61 =>
        intro w h hlf hw hWh hLh hFh
        refine wp_n 2 (pc' := 64) (L' := [(2, 56), (0, ((e : Nat) : Int)), (0, 2), (0, ((us : Nat) : Int)), (0, ((w : Nat) : Int))]) (st' := [(0, 4), (0, ((w : Nat) : Int))]) (g' := h) rfl ?_
        refine wp_ic_ge rfl (fun c2 => ?_) (fun c2 => ?_)
        · obtain rfl : w = 4 := by omega
          exact wp_ret rfl rfl rfl ⟨_, rfl, by rw [show B + 5 = B + (4 + 1) * 1 by omega]; exact hWh, hLh, hFh⟩
        · have hdg := wyb_2 (c := w + 1) hB.1 hB.2 (by omega) (Nat.le_refl _) (show B + (w + 1) * 1 < B + (w + 1) * 1 + 1 by omega)
          have hwn : (((w + 1 : Nat) : Int) - 1) = (w : Int) := by omega
          have hS2 := hS.ft hFh
          have hS15 : ∀ j, j < 12 → -1 ≤ h 15 j ∧ h 15 j ≤ 3 := by rw [hS2.2.2]; exact H.2.2.2.2.1
          obtain ⟨q, hq⟩ : ∃ q, q = us / 2 ^ w % 2 := ⟨_, rfl⟩
          have hq01 : q < 2 := by rw [hq]; exact Nat.mod_lt _ (by decide)
          refine wp_n 3 (pc' := 71) (L' := [(2, 56), (0, ((e : Nat) : Int)), (0, 2), (0, ((us : Nat) : Int)), (0, ((w : Nat) : Int))]) (st' := [(0, (Int32.ofInt ((us : Nat) : Int) >>> (Int32.ofInt ((w : Nat) : Int) &&& 31)).toInt)]) (g' := h) rfl ?_
          refine wp_eq (L' := [(2, 56), (0, ((e : Nat) : Int)), (0, 2), (0, ((us : Nat) : Int)), (0, ((w : Nat) : Int))]) (st' := [(0, (((us / 2 ^ w) : Nat) : Int))]) (g' := h) ?_ (by rfl) (by rw [ishr_k (by omega) (by omega)]) (by rfl)
          refine wp_n 2 (pc' := 73) (L' := [(2, 56), (0, ((e : Nat) : Int)), (0, 2), (0, ((us : Nat) : Int)), (0, ((w : Nat) : Int))]) (st' := [(0, (Int32.ofInt (((us / 2 ^ w) : Nat) : Int) &&& Int32.ofInt 1).toInt)]) (g' := h) rfl ?_
          refine wp_eq (L' := [(2, 56), (0, ((e : Nat) : Int)), (0, 2), (0, ((us : Nat) : Int)), (0, ((w : Nat) : Int))]) (st' := [(0, ((q : Nat) : Int))]) (g' := h) ?_ (by rfl) (by rw [iand_1 (Nat.lt_of_le_of_lt (Nat.div_le_self _ _) (by omega)), ← hq]) (by rfl)
          refine wp_if_ne rfl (fun c3 => ?_) (fun c3 => ?_)
          · have hno := blk_no2 H he hB.1 hB.2 (show w + 1 ≤ 4 by omega) (fun q0 => by
              obtain ⟨u, u1, u2⟩ := (hU.2 w (by omega)).mp (by omega)
              have u3 := q0.2 u u1 (by rw [hdg.2.1]; omega)
              rw [hdg.2.1, hdg.2.2 u u1] at u3
              omega)
            refine wp_n 2 (pc' := 61) (L' := [(2, 56), (0, ((e : Nat) : Int)), (0, 2), (0, ((us : Nat) : Int)), (0, (((w : Nat) : Int) + 1))]) (st' := []) (g' := h) rfl ?_
            refine wp_eq (ih61 (w + 1) (h) ?_ ?_ ?_ ?_ ?_) (by first | rfl | (simp; done) | (simp; omega)) (by rfl) (by rfl)
            · omega
            · omega
            · exact hWh.to (by omega) (fun k k1 k2 => hno k k1 (by omega))
            · exact hLh
            · exact hFh
          · refine wp_n 4 (pc' := 81) (L' := [(2, 56), (0, ((e : Nat) : Int)), (0, 2), (0, ((us : Nat) : Int)), (0, ((w : Nat) : Int))]) (st' := [(0, ((w : Nat) : Int)), (0, 2), (0, ((e : Nat) : Int)), (2, 56)]) (g' := h) rfl ?_
            refine wp_cv (as := [(2, 56), (0, ((e : Nat) : Int)), (0, 2), (0, ((w : Nat) : Int))]) (rest := []) rfl rfl rfl (Nat.le_of_ble_eq_true rfl) rfl (e_mayStand (e := e) (t := 2) (v := (w : Int)) (by omega) (by omega) (show -2147483648 ≤ (w : Int) ∧ (w : Int) < 2147483648 by omega) hS15) (by decide) (fun r4 h5 => ?_)
            rcases h5 with ⟨rfl, p81⟩ | ⟨rfl, p81⟩
            · refine wp_eq (L' := [(2, 56), (0, ((e : Nat) : Int)), (0, 2), (0, ((us : Nat) : Int)), (0, ((w : Nat) : Int))]) (st' := [(0, 1)]) (g' := h) ?_
              refine wp_n 5 (pc' := 94) (L' := [(2, 56), (0, ((e : Nat) : Int)), (0, 2), (0, ((us : Nat) : Int)), (0, ((w : Nat) : Int))]) (st' := [(0, ((w : Nat) : Int)), (0, 2), (2, 61)]) (g' := h) rfl ?_
              refine wp_iast (k := 61) (2) rfl rfl (by omega) (by omega) (by decide) ?_
              refine wp_n 5 (pc' := 102) (L' := [(2, 56), (0, ((e : Nat) : Int)), (0, 2), (0, ((us : Nat) : Int)), (0, ((w : Nat) : Int))]) (st' := [(0, (2 + 1)), (2, 64)]) (g' := (am_up h 61 2 ((w : Nat) : Int))) rfl ?_
              refine wp_aald (k := 64) (r := 101) (3) rfl rfl (by omega) (by omega) (by decide) rfl ?_
              refine wp_n 3 (pc' := 108) (L' := [(2, 56), (0, ((e : Nat) : Int)), (0, 2), (0, ((us : Nat) : Int)), (0, ((w : Nat) : Int))]) (st' := [(0, 2), (2, 64), (2, 101)]) (g' := (am_up h 61 2 ((w : Nat) : Int))) rfl ?_
              refine wp_aald (k := 64) (r := 99) (2) rfl rfl (by omega) (by omega) (by decide) rfl ?_
              refine wp_cv (as := [(2, 101), (2, 99)]) (rest := []) rfl rfl rfl (Nat.le_of_ble_eq_true rfl) rfl (e_setb (k := 101) (⟨rfl, rfl⟩ : IsBig b 101) (a := 99) (⟨rfl, rfl⟩ : IsBig b 99) ((hLh.up (by omega)) 101 (by omega) (by omega) (by omega)) (((hX.same fun c j q => hFh c j (by omega) (by omega) (by omega) (by omega) (by omega))).up (by decide) (by decide)) (by omega)) (by decide) (fun r6 h7 => ?_)
              obtain ⟨g109, rfl, hR109, hF109⟩ := h7
              have hq0 : us / 2 ^ w % 2 = 0 := by omega
              have hSu := hS2.same (g' := am_up h 61 2 (w : Int)) fun c j q => up_ne (by omega)
              have hLu := (hLh.up (i := 2) (x := (w : Int)) (show 61 < 66 ∨ 102 < 61 by omega)).fr hF109 hR109.L (by omega)
              have hAu := (hSu.2.1 2 w (by omega) (by omega)).same (g' := g109) fun c j q => hF109 c j (by omega) (by omega)
              have hXe : prw P l ev tb fl n e (wy B) 2 * chn P l ev tb fl (e : Int) 2 ((w : Int)).toNat n = prw P l ev tb fl n e (wy (B + (w + 1) * 1)) 2 * chn P l ev tb fl (e : Int) 2 ((w : Int)).toNat n := by rw [prw_eq 2 fun u hu => (hdg.2.2 u hu).symm]
              have hpl := prw_le H he (w := wy (B + (w + 1) * 1)) (fun u _ => (wy_in _ u (by omega)).2) (show 3 ≤ 3 by omega)
              rw [prw, hdg.2.1, hwn, ← hXe, Int.toNat_natCast] at hpl
              have hlc2 : ∀ u, u < 3 → lcx ev tb fl sc n e (wy (B + (w + 1) * 1)) u := by
                intro u hu
                by_cases q5 : u = 2
                · subst q5
                  refine ⟨Or.inl ⟨by omega, by rw [hdg.2.1]; omega, by rw [hdg.2.1, hwn, ← hS2.2.2]; exact p81⟩, fun v hv _ q6 => ?_⟩
                  rw [hdg.2.1, hdg.2.2 v hv, hwn] at q6
                  have := (hU.2 w (by omega)).mpr ⟨v, hv, q6.symm⟩
                  omega
                · exact lcx_eq (fun v hv => hdg.2.2 v (by omega)) (hlc u (by omega))
              have hT2 : ∀ u : Nat, u < 3 → am_up h 61 2 (w : Int) 61 u = wy (B + (w + 1) * 1) u := by
                intro u hu
                by_cases q5 : u = 2
                · subst q5; rw [up_eq, hdg.2.1, hwn]
                · rw [up_nj q5, hFh 61 u (by omega) (by omega) (by omega) (by omega) (by omega), hT u (by omega)]; exact (hdg.2.2 u (by omega)).symm
              refine wp_eq (L' := [(2, 56), (0, ((e : Nat) : Int)), (0, 2), (0, ((us : Nat) : Int)), (0, ((w : Nat) : Int))]) (st' := []) (g' := g109) ?_
              refine wp_n 5 (pc' := 119) (L' := [(2, 56), (0, ((e : Nat) : Int)), (0, 2), (0, ((us : Nat) : Int)), (0, ((w : Nat) : Int))]) (st' := [(0, (2 + 1)), (2, 64)]) (g' := g109) rfl ?_
              refine wp_aald (k := 64) (r := 101) (3) rfl rfl (by omega) (by omega) (by decide) rfl ?_
              refine wp_n 7 (pc' := 130) (L' := [(2, 56), (0, ((e : Nat) : Int)), (0, 2), (0, ((us : Nat) : Int)), (0, ((w : Nat) : Int))]) (st' := [(0, ((2 * 4) + ((w : Nat) : Int))), (2, 63), (2, 101)]) (g' := g109) rfl ?_
              refine wp_aald (k := 63) (r := (71 + 2 * (4 * 2 + w))) ((4 * 2 + w)) rfl rfl (by omega) (by omega) (by decide) (ch_ref (show 4 * 2 + w < 12 by omega)) ?_
              refine wp_n 2 (pc' := 135) (L' := [(2, 56), (0, ((e : Nat) : Int)), (0, 2), (0, ((us : Nat) : Int)), (0, ((w : Nat) : Int))]) (st' := [(2, 69), (2, (((71 + 2 * (4 * 2 + w)) : Nat) : Int)), (2, 101)]) (g' := g109) rfl ?_
              refine wp_cv (as := [(2, 101), (2, (((71 + 2 * (4 * 2 + w)) : Nat) : Int)), (2, 69)]) (rest := []) rfl rfl rfl (Nat.le_of_ble_eq_true rfl) rfl (e_timesb (⟨rfl, rfl⟩ : IsBig b 101) (isb_ch (show 4 * 2 + w < 12 by omega)) (⟨rfl, rfl⟩ : IsBig b 69) hR109 hAu (hLu 69 (by omega) (by omega) (by omega)) (by omega) (by omega) (by omega) (by omega) (Int.lt_of_le_of_lt hpl.2 (by decide))) (by decide) (fun r8 h9 => ?_)
              obtain ⟨g135, rfl, hR135, hF135, hL135⟩ := h9
              have hL135 : WLs g135 := fun a a1 a2 a3 => by
                by_cases r1 : a = 101
                · subst r1; exact hR135.L
                · by_cases r2 : a = 69
                  · subst r2; exact hL135
                  · exact (hLu a a1 a2 a3).frc hF135 (by omega) (by omega)
              refine wp_eq (L' := [(2, 56), (0, ((e : Nat) : Int)), (0, 2), (0, ((us : Nat) : Int)), (0, ((w : Nat) : Int))]) (st' := []) (g' := g135) ?_
              refine wp_n 5 (pc' := 143) (L' := [(2, 56), (0, ((e : Nat) : Int)), (0, 2), (0, ((us : Nat) : Int)), (0, ((w : Nat) : Int))]) (st' := [(0, (2 + 1)), (0, ((e : Nat) : Int)), (2, 56)]) (g' := g135) rfl ?_
              refine wp_eq (L' := [(2, 56), (0, ((e : Nat) : Int)), (0, 2), (0, ((us : Nat) : Int)), (0, ((w : Nat) : Int))]) (st' := [(0, 3), (0, ((e : Nat) : Int)), (2, 56)]) (g' := g135) ?_ (by rfl) (by rfl) (by rfl)
              refine wp_n 4 (pc' := 148) (L' := [(2, 56), (0, ((e : Nat) : Int)), (0, 2), (0, ((us : Nat) : Int)), (0, ((w : Nat) : Int))]) (st' := [(0, (Int32.ofInt 1 <<< (Int32.ofInt ((w : Nat) : Int) &&& 31)).toInt), (0, ((us : Nat) : Int)), (0, 3), (0, ((e : Nat) : Int)), (2, 56)]) (g' := g135) rfl ?_
              refine wp_eq (L' := [(2, 56), (0, ((e : Nat) : Int)), (0, 2), (0, ((us : Nat) : Int)), (0, ((w : Nat) : Int))]) (st' := [(0, (((2 ^ w) : Nat) : Int)), (0, ((us : Nat) : Int)), (0, 3), (0, ((e : Nat) : Int)), (2, 56)]) (g' := g135) ?_ (by rfl) (by rw [ishl_k (by omega)]) (by rfl)
              refine wp_n 1 (pc' := 149) (L' := [(2, 56), (0, ((e : Nat) : Int)), (0, 2), (0, ((us : Nat) : Int)), (0, ((w : Nat) : Int))]) (st' := [(0, (Int32.ofInt ((us : Nat) : Int) ||| Int32.ofInt (((2 ^ w) : Nat) : Int)).toInt), (0, 3), (0, ((e : Nat) : Int)), (2, 56)]) (g' := g135) rfl ?_
              refine wp_eq (L' := [(2, 56), (0, ((e : Nat) : Int)), (0, 2), (0, ((us : Nat) : Int)), (0, ((w : Nat) : Int))]) (st' := [(0, (((us + 2 ^ w) : Nat) : Int)), (0, 3), (0, ((e : Nat) : Int)), (2, 56)]) (g' := g135) ?_ (by rfl) (by rw [ior_all us (by omega) w (by omega) hq0]) (by rfl)
              refine wp_cv (as := [(2, 56), (0, ((e : Nat) : Int)), (0, 3), (0, (((us + 2 ^ w) : Nat) : Int))]) (rest := []) rfl rfl rfl (Nat.le_of_ble_eq_true rfl) rfl (e_stand3 (B := B + (w + 1) * 1) (us := us + 2 ^ w) H he hc (by omega) hlc2 (hSu.same fun c j q => by rw [hF135 c j (by omega) (by omega) (by omega) (by omega), hF109 c j (by omega) (by omega)]) ((hWh.same (g' := am_up h 61 2 (w : Int)) fun c j q => up_ne (by omega)).same fun c j q => by rw [hF135 c j (by omega) (by omega) (by omega) (by omega), hF109 c j (by omega) (by omega)]) hL135 (fun u hu => (hF135 61 u (by omega) (by omega) (by omega) (by omega)).trans ((hF109 61 u (by omega) (by omega)).trans (hT2 u hu))) (by rw [prw, hdg.2.1, hwn, ← hXe, Int.toNat_natCast]; exact hR135) (hU.add (by omega) (by omega) hdg.2.2 (by rw [hdg.2.1]; omega))) (by decide) (fun r10 h11 => ?_)
              obtain ⟨g149, rfl, hW149, hL149, hF149⟩ := h11
              refine wp_eq (L' := [(2, 56), (0, ((e : Nat) : Int)), (0, 2), (0, ((us : Nat) : Int)), (0, ((w : Nat) : Int))]) (st' := []) (g' := g149) ?_
              refine wp_n 2 (pc' := 61) (L' := [(2, 56), (0, ((e : Nat) : Int)), (0, 2), (0, ((us : Nat) : Int)), (0, (((w : Nat) : Int) + 1))]) (st' := []) (g' := g149) rfl ?_
              refine wp_eq (ih61 (w + 1) (g149) ?_ ?_ ?_ ?_ ?_) (by first | rfl | (simp; done) | (simp; omega)) (by rfl) (by rfl)
              · omega
              · omega
              · rw [show B + (w + 1 + 1) * 1 = B + (w + 1) * 1 + 1 by omega]; exact hW149
              · exact hL149
              · exact ((((hFh.up (by omega)).b hF109 (by omega)).trans fun c j a b x y z => hF135 c j (by omega) (by omega) (by omega) (by omega))).trans hF149.dn
            · have hno := blk_no2 H he hB.1 hB.2 (show w + 1 ≤ 4 by omega) (fun q => by
                rcases q.1 with ⟨q1, q2, q3⟩ | ⟨q1, q2⟩
                · rw [hdg.2.1, hwn, ← hS2.2.2] at q3; exact p81 q3
                · omega)
              refine wp_eq (L' := [(2, 56), (0, ((e : Nat) : Int)), (0, 2), (0, ((us : Nat) : Int)), (0, ((w : Nat) : Int))]) (st' := [(0, 0)]) (g' := h) ?_
              refine wp_n 3 (pc' := 61) (L' := [(2, 56), (0, ((e : Nat) : Int)), (0, 2), (0, ((us : Nat) : Int)), (0, (((w : Nat) : Int) + 1))]) (st' := []) (g' := h) rfl ?_
              refine wp_eq (ih61 (w + 1) (h) ?_ ?_ ?_ ?_ ?_) (by first | rfl | (simp; done) | (simp; omega)) (by rfl) (by rfl)
              · omega
              · omega
              · exact hWh.to (by omega) (fun k k1 k2 => hno k k1 (by omega))
              · exact hLh
              · exact hFh
    refine wp_eq (L61 (_ + 1) (0) (g) (Nat.lt_succ_self _) ?_ ?_ ?_ ?_) (by first | rfl | (simp; done) | (simp; omega)) (by rfl) (by rfl)
    · exact Nat.zero_le _
    · exact hW.to (by omega) (fun k k1 k2 => hm1 k (by omega) (by omega))
    · exact hL
    · exact FrT.rfl
  · have hz : spn ev tb fl (e : Int) ((2 : Nat) : Int) n = 0 := by omega
    have hz0 : ∀ k, B + 1 ≤ k → k < B + 5 → ¬ okw ev tb fl sc n e (wy k) := by
      intro k k1 k2 q
      have q1 := (q.1 2 (by omega)).1
      have q2 : 0 ≤ wy k 2 := by rw [wy2]; omega
      have q3 := q1.mpr q2
      omega
    have hlc1 : ∀ u, u < 3 → lcx ev tb fl sc n e (wy B) u := by
      intro u hu
      by_cases q : u = 2
      · subst q; exact ⟨Or.inr ⟨hz, hw0⟩, fun v _ q2 => absurd q2 (by omega)⟩
      · exact hlc u (by omega)
    have hT1 : ∀ u : Nat, u < 3 → am_up g 61 2 (-1) 61 u = wy B u := by
      intro u hu
      by_cases q : u = 2
      · subst q; rw [up_eq]; exact hw0.symm
      · rw [up_nj q]; exact hT u (by omega)
    have hU1 : UsB us B 3 := by
      refine ⟨hU.1, fun d hd => ⟨fun k => ?_, fun k => ?_⟩⟩
      · obtain ⟨u, u1, u2⟩ := (hU.2 d hd).mp k
        exact ⟨u, by omega, u2⟩
      · obtain ⟨u, u1, u2⟩ := k
        refine (hU.2 d hd).mpr ⟨u, ?_, u2⟩
        by_cases q : u = 2
        · subst q; omega
        · omega
    refine wp_n 4 (pc' := 28) (L' := [(2, 56), (0, ((e : Nat) : Int)), (0, 2), (0, ((us : Nat) : Int)), (9, 0)]) (st' := [(0, (-1)), (0, 2), (2, 61)]) (g' := g) rfl ?_
    refine wp_iast (k := 61) (2) rfl rfl (by omega) (by omega) (by decide) ?_
    refine wp_n 5 (pc' := 36) (L' := [(2, 56), (0, ((e : Nat) : Int)), (0, 2), (0, ((us : Nat) : Int)), (9, 0)]) (st' := [(0, (2 + 1)), (2, 64)]) (g' := (am_up g 61 2 (-1))) rfl ?_
    refine wp_aald (k := 64) (r := 101) (3) rfl rfl (by omega) (by omega) (by decide) rfl ?_
    refine wp_n 3 (pc' := 42) (L' := [(2, 56), (0, ((e : Nat) : Int)), (0, 2), (0, ((us : Nat) : Int)), (9, 0)]) (st' := [(0, 2), (2, 64), (2, 101)]) (g' := (am_up g 61 2 (-1))) rfl ?_
    refine wp_aald (k := 64) (r := 99) (2) rfl rfl (by omega) (by omega) (by decide) rfl ?_
    refine wp_cv (as := [(2, 101), (2, 99)]) (rest := []) rfl rfl rfl (Nat.le_of_ble_eq_true rfl) rfl (e_setb (k := 101) (⟨rfl, rfl⟩ : IsBig b 101) (a := 99) (⟨rfl, rfl⟩ : IsBig b 99) ((hL.up (by omega)) 101 (by omega) (by omega) (by omega)) (hX.up (by decide) (by decide)) (by omega)) (by decide) (fun r12 h13 => ?_)
    obtain ⟨g43, rfl, hR43, hF43⟩ := h13
    refine wp_eq (L' := [(2, 56), (0, ((e : Nat) : Int)), (0, 2), (0, ((us : Nat) : Int)), (9, 0)]) (st' := []) (g' := g43) ?_
    refine wp_n 5 (pc' := 51) (L' := [(2, 56), (0, ((e : Nat) : Int)), (0, 2), (0, ((us : Nat) : Int)), (9, 0)]) (st' := [(0, (2 + 1)), (0, ((e : Nat) : Int)), (2, 56)]) (g' := g43) rfl ?_
    refine wp_eq (L' := [(2, 56), (0, ((e : Nat) : Int)), (0, 2), (0, ((us : Nat) : Int)), (9, 0)]) (st' := [(0, 3), (0, ((e : Nat) : Int)), (2, 56)]) (g' := g43) ?_ (by rfl) (by rfl) (by rfl)
    refine wp_n 1 (pc' := 52) (L' := [(2, 56), (0, ((e : Nat) : Int)), (0, 2), (0, ((us : Nat) : Int)), (9, 0)]) (st' := [(0, ((us : Nat) : Int)), (0, 3), (0, ((e : Nat) : Int)), (2, 56)]) (g' := g43) rfl ?_
    refine wp_cv (as := [(2, 56), (0, ((e : Nat) : Int)), (0, 3), (0, ((us : Nat) : Int))]) (rest := []) rfl rfl rfl (Nat.le_of_ble_eq_true rfl) rfl (e_stand3 (B := B) (us := us) H he hc (by omega) hlc1 ((hS.same (g' := am_up g 61 2 (-1)) fun c j q => up_ne (by omega)).same fun c j q => hF43 c j (by omega) (by omega)) ((hW.same (g' := am_up g 61 2 (-1)) fun c j q => up_ne (by omega)).same fun c j q => hF43 c j (by omega) (by omega)) ((hL.up (by omega)).fr hF43 hR43.L (by omega)) (fun u hu => (hF43 61 u (by omega) (by omega)).trans (hT1 u hu)) (by rw [prw, chn_none n (by omega), Int.mul_one]; exact hR43) hU1) (by decide) (fun r14 h15 => ?_)
    obtain ⟨g52, rfl, hW52, hL52, hF52⟩ := h15
    refine wp_eq (L' := [(2, 56), (0, ((e : Nat) : Int)), (0, 2), (0, ((us : Nat) : Int)), (9, 0)]) (st' := []) (g' := g52) ?_
    refine wp_n 1 (pc' := 158) (L' := [(2, 56), (0, ((e : Nat) : Int)), (0, 2), (0, ((us : Nat) : Int)), (9, 0)]) (st' := []) (g' := g52) rfl ?_
    exact wp_ret rfl rfl rfl ⟨_, rfl, hW52.to (by omega) hz0, hL52, ((FrT.rfl.up (by omega)).b hF43 (by omega)).trans hF52.dn⟩
set_option maxHeartbeats 400000 in
set_option maxRecDepth 20000 in
theorem e_stand1 {sn : Nat} {sx : Nat → Int} {b : Nat} {g : am_G} {P n e B us : Nat} {l ev tb fl sc : Nat → Int} (H : BkH P n l ev tb fl sc) (he : e < 4) (hc : ¬ cls sc e) (hB : B % 25 = 0 ∧ B + 25 ≤ 125) (hlc : ∀ u, u < 1 → lcx ev tb fl sc n e (wy B) u) (hS : STC P n e l ev tb fl sc g) (hW : WB (fun k => okw ev tb fl sc n e (wy k)) (fun k => lkw P l ev tb fl e (wy k) n) e B g) (hL : WLs g) (hT : ∀ u : Nat, u < 1 → g 61 u = wy B u) (hX : BigR g 97 (prw P l ev tb fl n e (wy B) 1)) (hU : UsB us B 1) : Ev sn sx 6 93 [(2, 56), (0, ((e : Nat) : Int)), (0, 1), (0, ((us : Nat) : Int))] (SH b) g (fun r => ∃ g', r = (none, SH b, g') ∧ WB (fun k => okw ev tb fl sc n e (wy k)) (fun k => lkw P l ev tb fl e (wy k) n) e (B + 25) g' ∧ WLs g' ∧ FrT 1 e g g') := by
  have hsp := smT_le (ev := ev) (tb := tb) (fl := fl) (n := n) (e := (e : Int)) 3 (Nat.le_refl _)
  have hs24 := H.2.2.2.2.2 e he
  have hN : spn ev tb fl (e : Int) ((1 : Nat) : Int) n ≤ 24 := by
    first | exact Nat.le_trans (Nat.le_trans (Nat.le_add_right _ _) (Nat.le_add_right _ _)) hs24 | exact Nat.le_trans (Nat.le_trans (Nat.le_add_left _ _) (Nat.le_add_right _ _)) hs24 | exact Nat.le_trans (Nat.le_add_left _ _) hs24
  have hus := hU.1
  have hw0 : wy B 1 = -1 := by rw [wy1]; omega
  refine ev_of (K := 5) T93 (by decide) rfl rfl (Nat.le_of_ble_eq_true rfl) ?_
  refine wp_eq (L' := [(2, 56), (0, ((e : Nat) : Int)), (0, 1), (0, ((us : Nat) : Int)), (9, 0)]) (st' := []) (g' := g) ?_
  refine wp_n 6 (pc' := 18) (L' := [(2, 56), (0, ((e : Nat) : Int)), (0, 1), (0, ((us : Nat) : Int)), (9, 0)]) (st' := [(0, 1), (2, 60)]) (g' := g) rfl ?_
  refine wp_iald (k := 60) (1) rfl rfl (by omega) (by omega) (by decide) ?_
  refine wp_eq (L' := [(2, 56), (0, ((e : Nat) : Int)), (0, 1), (0, ((us : Nat) : Int)), (9, 0)]) (st' := [(0, (((spn ev tb fl (e : Int) ((1 : Nat) : Int) n) : Nat) : Int))]) (g' := g) ?_ (by rfl) (by rw [hS.1 1 (by omega)]) (by rfl)
  refine wp_if_ne rfl (fun c1 => ?_) (fun c1 => ?_)
  · have hn00 : ¬ lcx ev tb fl sc n e (wy (B + 0 * 5)) 1 := by
      intro q
      have q9 : wy (B + 0 * 5) 1 = -1 := by rw [wy1]; omega
      rcases q.1 with ⟨q1, q2, q3⟩ | ⟨q1, q2⟩ <;> omega
    have hm1 := blk_no1 (c := 0) H he hB.1 hB.2 (by omega) hn00
    refine wp_n 2 (pc' := 61) (L' := [(2, 56), (0, ((e : Nat) : Int)), (0, 1), (0, ((us : Nat) : Int)), (0, 0)]) (st' := []) (g' := g) rfl ?_
    have L61 : ∀ (lf : Nat) (w : Nat) (h : am_G), 4 - w < lf → (w ≤ 4) → (WB (fun k => okw ev tb fl sc n e (wy k)) (fun k => lkw P l ev tb fl e (wy k) n) e (B + (w + 1) * 5) h) → (WLs h) → (FrT 1 e g h) → Wp sn sx 5 T93 61 [(2, 56), (0, ((e : Nat) : Int)), (0, 1), (0, ((us : Nat) : Int)), (0, ((w : Nat) : Int))] [] (SH b) h (fun r => ∃ g', r = (none, SH b, g') ∧ WB (fun k => okw ev tb fl sc n e (wy k)) (fun k => lkw P l ev tb fl e (wy k) n) e (B + 25) g' ∧ WLs g' ∧ FrT 1 e g g') := by
      intro lf
      induction lf with
      | zero => intro w h hlf; exact absurd hlf (Nat.not_lt_zero _)
      | succ lf ih61 =>
        intro w h hlf hw hWh hLh hFh
        refine wp_n 2 (pc' := 64) (L' := [(2, 56), (0, ((e : Nat) : Int)), (0, 1), (0, ((us : Nat) : Int)), (0, ((w : Nat) : Int))]) (st' := [(0, 4), (0, ((w : Nat) : Int))]) (g' := h) rfl ?_
        refine wp_ic_ge rfl (fun c2 => ?_) (fun c2 => ?_)
        · obtain rfl : w = 4 := by omega
          exact wp_ret rfl rfl rfl ⟨_, rfl, by rw [show B + 25 = B + (4 + 1) * 5 by omega]; exact hWh, hLh, hFh⟩
        · have hdg := wyb_1 (c := w + 1) hB.1 hB.2 (by omega) (Nat.le_refl _) (show B + (w + 1) * 5 < B + (w + 1) * 5 + 5 by omega)
          have hwn : (((w + 1 : Nat) : Int) - 1) = (w : Int) := by omega
          have hS2 := hS.ft hFh
          have hS15 : ∀ j, j < 12 → -1 ≤ h 15 j ∧ h 15 j ≤ 3 := by rw [hS2.2.2]; exact H.2.2.2.2.1
          obtain ⟨q, hq⟩ : ∃ q, q = us / 2 ^ w % 2 := ⟨_, rfl⟩
          have hq01 : q < 2 := by rw [hq]; exact Nat.mod_lt _ (by decide)
          refine wp_n 3 (pc' := 71) (L' := [(2, 56), (0, ((e : Nat) : Int)), (0, 1), (0, ((us : Nat) : Int)), (0, ((w : Nat) : Int))]) (st' := [(0, (Int32.ofInt ((us : Nat) : Int) >>> (Int32.ofInt ((w : Nat) : Int) &&& 31)).toInt)]) (g' := h) rfl ?_
          refine wp_eq (L' := [(2, 56), (0, ((e : Nat) : Int)), (0, 1), (0, ((us : Nat) : Int)), (0, ((w : Nat) : Int))]) (st' := [(0, (((us / 2 ^ w) : Nat) : Int))]) (g' := h) ?_ (by rfl) (by rw [ishr_k (by omega) (by omega)]) (by rfl)
          refine wp_n 2 (pc' := 73) (L' := [(2, 56), (0, ((e : Nat) : Int)), (0, 1), (0, ((us : Nat) : Int)), (0, ((w : Nat) : Int))]) (st' := [(0, (Int32.ofInt (((us / 2 ^ w) : Nat) : Int) &&& Int32.ofInt 1).toInt)]) (g' := h) rfl ?_
          refine wp_eq (L' := [(2, 56), (0, ((e : Nat) : Int)), (0, 1), (0, ((us : Nat) : Int)), (0, ((w : Nat) : Int))]) (st' := [(0, ((q : Nat) : Int))]) (g' := h) ?_ (by rfl) (by rw [iand_1 (Nat.lt_of_le_of_lt (Nat.div_le_self _ _) (by omega)), ← hq]) (by rfl)
          refine wp_if_ne rfl (fun c3 => ?_) (fun c3 => ?_)
          · have hno := blk_no1 H he hB.1 hB.2 (show w + 1 ≤ 4 by omega) (fun q0 => by
              obtain ⟨u, u1, u2⟩ := (hU.2 w (by omega)).mp (by omega)
              have u3 := q0.2 u u1 (by rw [hdg.2.1]; omega)
              rw [hdg.2.1, hdg.2.2 u u1] at u3
              omega)
            refine wp_n 2 (pc' := 61) (L' := [(2, 56), (0, ((e : Nat) : Int)), (0, 1), (0, ((us : Nat) : Int)), (0, (((w : Nat) : Int) + 1))]) (st' := []) (g' := h) rfl ?_
            refine wp_eq (ih61 (w + 1) (h) ?_ ?_ ?_ ?_ ?_) (by first | rfl | (simp; done) | (simp; omega)) (by rfl) (by rfl)
            · omega
            · omega
            · exact hWh.to (by omega) (fun k k1 k2 => hno k k1 (by omega))
            · exact hLh
            · exact hFh
          · refine wp_n 4 (pc' := 81) (L' := [(2, 56), (0, ((e : Nat) : Int)), (0, 1), (0, ((us : Nat) : Int)), (0, ((w : Nat) : Int))]) (st' := [(0, ((w : Nat) : Int)), (0, 1), (0, ((e : Nat) : Int)), (2, 56)]) (g' := h) rfl ?_
            refine wp_cv (as := [(2, 56), (0, ((e : Nat) : Int)), (0, 1), (0, ((w : Nat) : Int))]) (rest := []) rfl rfl rfl (Nat.le_of_ble_eq_true rfl) rfl (e_mayStand (e := e) (t := 1) (v := (w : Int)) (by omega) (by omega) (show -2147483648 ≤ (w : Int) ∧ (w : Int) < 2147483648 by omega) hS15) (by decide) (fun r4 h5 => ?_)
            rcases h5 with ⟨rfl, p81⟩ | ⟨rfl, p81⟩
            · refine wp_eq (L' := [(2, 56), (0, ((e : Nat) : Int)), (0, 1), (0, ((us : Nat) : Int)), (0, ((w : Nat) : Int))]) (st' := [(0, 1)]) (g' := h) ?_
              refine wp_n 5 (pc' := 94) (L' := [(2, 56), (0, ((e : Nat) : Int)), (0, 1), (0, ((us : Nat) : Int)), (0, ((w : Nat) : Int))]) (st' := [(0, ((w : Nat) : Int)), (0, 1), (2, 61)]) (g' := h) rfl ?_
              refine wp_iast (k := 61) (1) rfl rfl (by omega) (by omega) (by decide) ?_
              refine wp_n 5 (pc' := 102) (L' := [(2, 56), (0, ((e : Nat) : Int)), (0, 1), (0, ((us : Nat) : Int)), (0, ((w : Nat) : Int))]) (st' := [(0, (1 + 1)), (2, 64)]) (g' := (am_up h 61 1 ((w : Nat) : Int))) rfl ?_
              refine wp_aald (k := 64) (r := 99) (2) rfl rfl (by omega) (by omega) (by decide) rfl ?_
              refine wp_n 3 (pc' := 108) (L' := [(2, 56), (0, ((e : Nat) : Int)), (0, 1), (0, ((us : Nat) : Int)), (0, ((w : Nat) : Int))]) (st' := [(0, 1), (2, 64), (2, 99)]) (g' := (am_up h 61 1 ((w : Nat) : Int))) rfl ?_
              refine wp_aald (k := 64) (r := 97) (1) rfl rfl (by omega) (by omega) (by decide) rfl ?_
              refine wp_cv (as := [(2, 99), (2, 97)]) (rest := []) rfl rfl rfl (Nat.le_of_ble_eq_true rfl) rfl (e_setb (k := 99) (⟨rfl, rfl⟩ : IsBig b 99) (a := 97) (⟨rfl, rfl⟩ : IsBig b 97) ((hLh.up (by omega)) 99 (by omega) (by omega) (by omega)) (((hX.same fun c j q => hFh c j (by omega) (by omega) (by omega) (by omega) (by omega))).up (by decide) (by decide)) (by omega)) (by decide) (fun r6 h7 => ?_)
              obtain ⟨g109, rfl, hR109, hF109⟩ := h7
              have hq0 : us / 2 ^ w % 2 = 0 := by omega
              have hSu := hS2.same (g' := am_up h 61 1 (w : Int)) fun c j q => up_ne (by omega)
              have hLu := (hLh.up (i := 1) (x := (w : Int)) (show 61 < 66 ∨ 102 < 61 by omega)).fr hF109 hR109.L (by omega)
              have hAu := (hSu.2.1 1 w (by omega) (by omega)).same (g' := g109) fun c j q => hF109 c j (by omega) (by omega)
              have hXe : prw P l ev tb fl n e (wy B) 1 * chn P l ev tb fl (e : Int) 1 ((w : Int)).toNat n = prw P l ev tb fl n e (wy (B + (w + 1) * 5)) 1 * chn P l ev tb fl (e : Int) 1 ((w : Int)).toNat n := by rw [prw_eq 1 fun u hu => (hdg.2.2 u hu).symm]
              have hpl := prw_le H he (w := wy (B + (w + 1) * 5)) (fun u _ => (wy_in _ u (by omega)).2) (show 2 ≤ 3 by omega)
              rw [prw, hdg.2.1, hwn, ← hXe, Int.toNat_natCast] at hpl
              have hlc2 : ∀ u, u < 2 → lcx ev tb fl sc n e (wy (B + (w + 1) * 5)) u := by
                intro u hu
                by_cases q5 : u = 1
                · subst q5
                  refine ⟨Or.inl ⟨by omega, by rw [hdg.2.1]; omega, by rw [hdg.2.1, hwn, ← hS2.2.2]; exact p81⟩, fun v hv _ q6 => ?_⟩
                  rw [hdg.2.1, hdg.2.2 v hv, hwn] at q6
                  have := (hU.2 w (by omega)).mpr ⟨v, hv, q6.symm⟩
                  omega
                · exact lcx_eq (fun v hv => hdg.2.2 v (by omega)) (hlc u (by omega))
              have hT2 : ∀ u : Nat, u < 2 → am_up h 61 1 (w : Int) 61 u = wy (B + (w + 1) * 5) u := by
                intro u hu
                by_cases q5 : u = 1
                · subst q5; rw [up_eq, hdg.2.1, hwn]
                · rw [up_nj q5, hFh 61 u (by omega) (by omega) (by omega) (by omega) (by omega), hT u (by omega)]; exact (hdg.2.2 u (by omega)).symm
              refine wp_eq (L' := [(2, 56), (0, ((e : Nat) : Int)), (0, 1), (0, ((us : Nat) : Int)), (0, ((w : Nat) : Int))]) (st' := []) (g' := g109) ?_
              refine wp_n 5 (pc' := 119) (L' := [(2, 56), (0, ((e : Nat) : Int)), (0, 1), (0, ((us : Nat) : Int)), (0, ((w : Nat) : Int))]) (st' := [(0, (1 + 1)), (2, 64)]) (g' := g109) rfl ?_
              refine wp_aald (k := 64) (r := 99) (2) rfl rfl (by omega) (by omega) (by decide) rfl ?_
              refine wp_n 7 (pc' := 130) (L' := [(2, 56), (0, ((e : Nat) : Int)), (0, 1), (0, ((us : Nat) : Int)), (0, ((w : Nat) : Int))]) (st' := [(0, ((1 * 4) + ((w : Nat) : Int))), (2, 63), (2, 99)]) (g' := g109) rfl ?_
              refine wp_aald (k := 63) (r := (71 + 2 * (4 * 1 + w))) ((4 * 1 + w)) rfl rfl (by omega) (by omega) (by decide) (ch_ref (show 4 * 1 + w < 12 by omega)) ?_
              refine wp_n 2 (pc' := 135) (L' := [(2, 56), (0, ((e : Nat) : Int)), (0, 1), (0, ((us : Nat) : Int)), (0, ((w : Nat) : Int))]) (st' := [(2, 69), (2, (((71 + 2 * (4 * 1 + w)) : Nat) : Int)), (2, 99)]) (g' := g109) rfl ?_
              refine wp_cv (as := [(2, 99), (2, (((71 + 2 * (4 * 1 + w)) : Nat) : Int)), (2, 69)]) (rest := []) rfl rfl rfl (Nat.le_of_ble_eq_true rfl) rfl (e_timesb (⟨rfl, rfl⟩ : IsBig b 99) (isb_ch (show 4 * 1 + w < 12 by omega)) (⟨rfl, rfl⟩ : IsBig b 69) hR109 hAu (hLu 69 (by omega) (by omega) (by omega)) (by omega) (by omega) (by omega) (by omega) (Int.lt_of_le_of_lt hpl.2 (by decide))) (by decide) (fun r8 h9 => ?_)
              obtain ⟨g135, rfl, hR135, hF135, hL135⟩ := h9
              have hL135 : WLs g135 := fun a a1 a2 a3 => by
                by_cases r1 : a = 99
                · subst r1; exact hR135.L
                · by_cases r2 : a = 69
                  · subst r2; exact hL135
                  · exact (hLu a a1 a2 a3).frc hF135 (by omega) (by omega)
              refine wp_eq (L' := [(2, 56), (0, ((e : Nat) : Int)), (0, 1), (0, ((us : Nat) : Int)), (0, ((w : Nat) : Int))]) (st' := []) (g' := g135) ?_
              refine wp_n 5 (pc' := 143) (L' := [(2, 56), (0, ((e : Nat) : Int)), (0, 1), (0, ((us : Nat) : Int)), (0, ((w : Nat) : Int))]) (st' := [(0, (1 + 1)), (0, ((e : Nat) : Int)), (2, 56)]) (g' := g135) rfl ?_
              refine wp_eq (L' := [(2, 56), (0, ((e : Nat) : Int)), (0, 1), (0, ((us : Nat) : Int)), (0, ((w : Nat) : Int))]) (st' := [(0, 2), (0, ((e : Nat) : Int)), (2, 56)]) (g' := g135) ?_ (by rfl) (by rfl) (by rfl)
              refine wp_n 4 (pc' := 148) (L' := [(2, 56), (0, ((e : Nat) : Int)), (0, 1), (0, ((us : Nat) : Int)), (0, ((w : Nat) : Int))]) (st' := [(0, (Int32.ofInt 1 <<< (Int32.ofInt ((w : Nat) : Int) &&& 31)).toInt), (0, ((us : Nat) : Int)), (0, 2), (0, ((e : Nat) : Int)), (2, 56)]) (g' := g135) rfl ?_
              refine wp_eq (L' := [(2, 56), (0, ((e : Nat) : Int)), (0, 1), (0, ((us : Nat) : Int)), (0, ((w : Nat) : Int))]) (st' := [(0, (((2 ^ w) : Nat) : Int)), (0, ((us : Nat) : Int)), (0, 2), (0, ((e : Nat) : Int)), (2, 56)]) (g' := g135) ?_ (by rfl) (by rw [ishl_k (by omega)]) (by rfl)
              refine wp_n 1 (pc' := 149) (L' := [(2, 56), (0, ((e : Nat) : Int)), (0, 1), (0, ((us : Nat) : Int)), (0, ((w : Nat) : Int))]) (st' := [(0, (Int32.ofInt ((us : Nat) : Int) ||| Int32.ofInt (((2 ^ w) : Nat) : Int)).toInt), (0, 2), (0, ((e : Nat) : Int)), (2, 56)]) (g' := g135) rfl ?_
              refine wp_eq (L' := [(2, 56), (0, ((e : Nat) : Int)), (0, 1), (0, ((us : Nat) : Int)), (0, ((w : Nat) : Int))]) (st' := [(0, (((us + 2 ^ w) : Nat) : Int)), (0, 2), (0, ((e : Nat) : Int)), (2, 56)]) (g' := g135) ?_ (by rfl) (by rw [ior_all us (by omega) w (by omega) hq0]) (by rfl)
              refine wp_cv (as := [(2, 56), (0, ((e : Nat) : Int)), (0, 2), (0, (((us + 2 ^ w) : Nat) : Int))]) (rest := []) rfl rfl rfl (Nat.le_of_ble_eq_true rfl) rfl (e_stand2 (B := B + (w + 1) * 5) (us := us + 2 ^ w) H he hc (by omega) hlc2 (hSu.same fun c j q => by rw [hF135 c j (by omega) (by omega) (by omega) (by omega), hF109 c j (by omega) (by omega)]) ((hWh.same (g' := am_up h 61 1 (w : Int)) fun c j q => up_ne (by omega)).same fun c j q => by rw [hF135 c j (by omega) (by omega) (by omega) (by omega), hF109 c j (by omega) (by omega)]) hL135 (fun u hu => (hF135 61 u (by omega) (by omega) (by omega) (by omega)).trans ((hF109 61 u (by omega) (by omega)).trans (hT2 u hu))) (by rw [prw, hdg.2.1, hwn, ← hXe, Int.toNat_natCast]; exact hR135) (hU.add (by omega) (by omega) hdg.2.2 (by rw [hdg.2.1]; omega))) (by decide) (fun r10 h11 => ?_)
              obtain ⟨g149, rfl, hW149, hL149, hF149⟩ := h11
              refine wp_eq (L' := [(2, 56), (0, ((e : Nat) : Int)), (0, 1), (0, ((us : Nat) : Int)), (0, ((w : Nat) : Int))]) (st' := []) (g' := g149) ?_
              refine wp_n 2 (pc' := 61) (L' := [(2, 56), (0, ((e : Nat) : Int)), (0, 1), (0, ((us : Nat) : Int)), (0, (((w : Nat) : Int) + 1))]) (st' := []) (g' := g149) rfl ?_
              refine wp_eq (ih61 (w + 1) (g149) ?_ ?_ ?_ ?_ ?_) (by first | rfl | (simp; done) | (simp; omega)) (by rfl) (by rfl)
              · omega
              · omega
              · rw [show B + (w + 1 + 1) * 5 = B + (w + 1) * 5 + 5 by omega]; exact hW149
              · exact hL149
              · exact ((((hFh.up (by omega)).b hF109 (by omega)).trans fun c j a b x y z => hF135 c j (by omega) (by omega) (by omega) (by omega))).trans hF149.dn
            · have hno := blk_no1 H he hB.1 hB.2 (show w + 1 ≤ 4 by omega) (fun q => by
                rcases q.1 with ⟨q1, q2, q3⟩ | ⟨q1, q2⟩
                · rw [hdg.2.1, hwn, ← hS2.2.2] at q3; exact p81 q3
                · omega)
              refine wp_eq (L' := [(2, 56), (0, ((e : Nat) : Int)), (0, 1), (0, ((us : Nat) : Int)), (0, ((w : Nat) : Int))]) (st' := [(0, 0)]) (g' := h) ?_
              refine wp_n 3 (pc' := 61) (L' := [(2, 56), (0, ((e : Nat) : Int)), (0, 1), (0, ((us : Nat) : Int)), (0, (((w : Nat) : Int) + 1))]) (st' := []) (g' := h) rfl ?_
              refine wp_eq (ih61 (w + 1) (h) ?_ ?_ ?_ ?_ ?_) (by first | rfl | (simp; done) | (simp; omega)) (by rfl) (by rfl)
              · omega
              · omega
              · exact hWh.to (by omega) (fun k k1 k2 => hno k k1 (by omega))
              · exact hLh
              · exact hFh
    refine wp_eq (L61 (_ + 1) (0) (g) (Nat.lt_succ_self _) ?_ ?_ ?_ ?_) (by first | rfl | (simp; done) | (simp; omega)) (by rfl) (by rfl)
    · exact Nat.zero_le _
    · exact hW.to (by omega) (fun k k1 k2 => hm1 k (by omega) (by omega))
    · exact hL
    · exact FrT.rfl
  · have hz : spn ev tb fl (e : Int) ((1 : Nat) : Int) n = 0 := by omega
    have hz0 : ∀ k, B + 5 ≤ k → k < B + 25 → ¬ okw ev tb fl sc n e (wy k) := by
      intro k k1 k2 q
      have q1 := (q.1 1 (by omega)).1
      have q2 : 0 ≤ wy k 1 := by rw [wy1]; omega
      have q3 := q1.mpr q2
      omega
    have hlc1 : ∀ u, u < 2 → lcx ev tb fl sc n e (wy B) u := by
      intro u hu
      by_cases q : u = 1
      · subst q; exact ⟨Or.inr ⟨hz, hw0⟩, fun v _ q2 => absurd q2 (by omega)⟩
      · exact hlc u (by omega)
    have hT1 : ∀ u : Nat, u < 2 → am_up g 61 1 (-1) 61 u = wy B u := by
      intro u hu
      by_cases q : u = 1
      · subst q; rw [up_eq]; exact hw0.symm
      · rw [up_nj q]; exact hT u (by omega)
    have hU1 : UsB us B 2 := by
      refine ⟨hU.1, fun d hd => ⟨fun k => ?_, fun k => ?_⟩⟩
      · obtain ⟨u, u1, u2⟩ := (hU.2 d hd).mp k
        exact ⟨u, by omega, u2⟩
      · obtain ⟨u, u1, u2⟩ := k
        refine (hU.2 d hd).mpr ⟨u, ?_, u2⟩
        by_cases q : u = 1
        · subst q; omega
        · omega
    refine wp_n 4 (pc' := 28) (L' := [(2, 56), (0, ((e : Nat) : Int)), (0, 1), (0, ((us : Nat) : Int)), (9, 0)]) (st' := [(0, (-1)), (0, 1), (2, 61)]) (g' := g) rfl ?_
    refine wp_iast (k := 61) (1) rfl rfl (by omega) (by omega) (by decide) ?_
    refine wp_n 5 (pc' := 36) (L' := [(2, 56), (0, ((e : Nat) : Int)), (0, 1), (0, ((us : Nat) : Int)), (9, 0)]) (st' := [(0, (1 + 1)), (2, 64)]) (g' := (am_up g 61 1 (-1))) rfl ?_
    refine wp_aald (k := 64) (r := 99) (2) rfl rfl (by omega) (by omega) (by decide) rfl ?_
    refine wp_n 3 (pc' := 42) (L' := [(2, 56), (0, ((e : Nat) : Int)), (0, 1), (0, ((us : Nat) : Int)), (9, 0)]) (st' := [(0, 1), (2, 64), (2, 99)]) (g' := (am_up g 61 1 (-1))) rfl ?_
    refine wp_aald (k := 64) (r := 97) (1) rfl rfl (by omega) (by omega) (by decide) rfl ?_
    refine wp_cv (as := [(2, 99), (2, 97)]) (rest := []) rfl rfl rfl (Nat.le_of_ble_eq_true rfl) rfl (e_setb (k := 99) (⟨rfl, rfl⟩ : IsBig b 99) (a := 97) (⟨rfl, rfl⟩ : IsBig b 97) ((hL.up (by omega)) 99 (by omega) (by omega) (by omega)) (hX.up (by decide) (by decide)) (by omega)) (by decide) (fun r12 h13 => ?_)
    obtain ⟨g43, rfl, hR43, hF43⟩ := h13
    refine wp_eq (L' := [(2, 56), (0, ((e : Nat) : Int)), (0, 1), (0, ((us : Nat) : Int)), (9, 0)]) (st' := []) (g' := g43) ?_
    refine wp_n 5 (pc' := 51) (L' := [(2, 56), (0, ((e : Nat) : Int)), (0, 1), (0, ((us : Nat) : Int)), (9, 0)]) (st' := [(0, (1 + 1)), (0, ((e : Nat) : Int)), (2, 56)]) (g' := g43) rfl ?_
    refine wp_eq (L' := [(2, 56), (0, ((e : Nat) : Int)), (0, 1), (0, ((us : Nat) : Int)), (9, 0)]) (st' := [(0, 2), (0, ((e : Nat) : Int)), (2, 56)]) (g' := g43) ?_ (by rfl) (by rfl) (by rfl)
    refine wp_n 1 (pc' := 52) (L' := [(2, 56), (0, ((e : Nat) : Int)), (0, 1), (0, ((us : Nat) : Int)), (9, 0)]) (st' := [(0, ((us : Nat) : Int)), (0, 2), (0, ((e : Nat) : Int)), (2, 56)]) (g' := g43) rfl ?_
    refine wp_cv (as := [(2, 56), (0, ((e : Nat) : Int)), (0, 2), (0, ((us : Nat) : Int))]) (rest := []) rfl rfl rfl (Nat.le_of_ble_eq_true rfl) rfl (e_stand2 (B := B) (us := us) H he hc (by omega) hlc1 ((hS.same (g' := am_up g 61 1 (-1)) fun c j q => up_ne (by omega)).same fun c j q => hF43 c j (by omega) (by omega)) ((hW.same (g' := am_up g 61 1 (-1)) fun c j q => up_ne (by omega)).same fun c j q => hF43 c j (by omega) (by omega)) ((hL.up (by omega)).fr hF43 hR43.L (by omega)) (fun u hu => (hF43 61 u (by omega) (by omega)).trans (hT1 u hu)) (by rw [prw, chn_none n (by omega), Int.mul_one]; exact hR43) hU1) (by decide) (fun r14 h15 => ?_)
    obtain ⟨g52, rfl, hW52, hL52, hF52⟩ := h15
    refine wp_eq (L' := [(2, 56), (0, ((e : Nat) : Int)), (0, 1), (0, ((us : Nat) : Int)), (9, 0)]) (st' := []) (g' := g52) ?_
    refine wp_n 1 (pc' := 158) (L' := [(2, 56), (0, ((e : Nat) : Int)), (0, 1), (0, ((us : Nat) : Int)), (9, 0)]) (st' := []) (g' := g52) rfl ?_
    exact wp_ret rfl rfl rfl ⟨_, rfl, hW52.to (by omega) hz0, hL52, ((FrT.rfl.up (by omega)).b hF43 (by omega)).trans hF52.dn⟩
set_option maxHeartbeats 400000 in
set_option maxRecDepth 20000 in
theorem e_stand0 {sn : Nat} {sx : Nat → Int} {b : Nat} {g : am_G} {P n e B us : Nat} {l ev tb fl sc : Nat → Int} (H : BkH P n l ev tb fl sc) (he : e < 4) (hc : ¬ cls sc e) (hB : B % 125 = 0 ∧ B + 125 ≤ 125) (hlc : ∀ u, u < 0 → lcx ev tb fl sc n e (wy B) u) (hS : STC P n e l ev tb fl sc g) (hW : WB (fun k => okw ev tb fl sc n e (wy k)) (fun k => lkw P l ev tb fl e (wy k) n) e B g) (hL : WLs g) (hT : ∀ u : Nat, u < 0 → g 61 u = wy B u) (hX : BigR g 95 (prw P l ev tb fl n e (wy B) 0)) (hU : UsB us B 0) : Ev sn sx 7 93 [(2, 56), (0, ((e : Nat) : Int)), (0, 0), (0, ((us : Nat) : Int))] (SH b) g (fun r => ∃ g', r = (none, SH b, g') ∧ WB (fun k => okw ev tb fl sc n e (wy k)) (fun k => lkw P l ev tb fl e (wy k) n) e (B + 125) g' ∧ WLs g' ∧ FrT 0 e g g') := by
  have hsp := smT_le (ev := ev) (tb := tb) (fl := fl) (n := n) (e := (e : Int)) 3 (Nat.le_refl _)
  have hs24 := H.2.2.2.2.2 e he
  have hN : spn ev tb fl (e : Int) ((0 : Nat) : Int) n ≤ 24 := by
    first | exact Nat.le_trans (Nat.le_trans (Nat.le_add_right _ _) (Nat.le_add_right _ _)) hs24 | exact Nat.le_trans (Nat.le_trans (Nat.le_add_left _ _) (Nat.le_add_right _ _)) hs24 | exact Nat.le_trans (Nat.le_add_left _ _) hs24
  have hus := hU.1
  have hw0 : wy B 0 = -1 := by rw [wy0]; omega
  refine ev_of (K := 6) T93 (by decide) rfl rfl (Nat.le_of_ble_eq_true rfl) ?_
  refine wp_eq (L' := [(2, 56), (0, ((e : Nat) : Int)), (0, 0), (0, ((us : Nat) : Int)), (9, 0)]) (st' := []) (g' := g) ?_
  refine wp_n 6 (pc' := 18) (L' := [(2, 56), (0, ((e : Nat) : Int)), (0, 0), (0, ((us : Nat) : Int)), (9, 0)]) (st' := [(0, 0), (2, 60)]) (g' := g) rfl ?_
  refine wp_iald (k := 60) (0) rfl rfl (by omega) (by omega) (by decide) ?_
  refine wp_eq (L' := [(2, 56), (0, ((e : Nat) : Int)), (0, 0), (0, ((us : Nat) : Int)), (9, 0)]) (st' := [(0, (((spn ev tb fl (e : Int) ((0 : Nat) : Int) n) : Nat) : Int))]) (g' := g) ?_ (by rfl) (by rw [hS.1 0 (by omega)]) (by rfl)
  refine wp_if_ne rfl (fun c1 => ?_) (fun c1 => ?_)
  · have hn00 : ¬ lcx ev tb fl sc n e (wy (B + 0 * 25)) 0 := by
      intro q
      have q9 : wy (B + 0 * 25) 0 = -1 := by rw [wy0]; omega
      rcases q.1 with ⟨q1, q2, q3⟩ | ⟨q1, q2⟩ <;> omega
    have hm1 := blk_no0 (c := 0) H he hB.1 hB.2 (by omega) hn00
    refine wp_n 2 (pc' := 61) (L' := [(2, 56), (0, ((e : Nat) : Int)), (0, 0), (0, ((us : Nat) : Int)), (0, 0)]) (st' := []) (g' := g) rfl ?_
    have L61 : ∀ (lf : Nat) (w : Nat) (h : am_G), 4 - w < lf → (w ≤ 4) → (WB (fun k => okw ev tb fl sc n e (wy k)) (fun k => lkw P l ev tb fl e (wy k) n) e (B + (w + 1) * 25) h) → (WLs h) → (FrT 0 e g h) → Wp sn sx 6 T93 61 [(2, 56), (0, ((e : Nat) : Int)), (0, 0), (0, ((us : Nat) : Int)), (0, ((w : Nat) : Int))] [] (SH b) h (fun r => ∃ g', r = (none, SH b, g') ∧ WB (fun k => okw ev tb fl sc n e (wy k)) (fun k => lkw P l ev tb fl e (wy k) n) e (B + 125) g' ∧ WLs g' ∧ FrT 0 e g g') := by
      intro lf
      induction lf with
      | zero => intro w h hlf; exact absurd hlf (Nat.not_lt_zero _)
      | succ lf ih61 =>
        intro w h hlf hw hWh hLh hFh
        refine wp_n 2 (pc' := 64) (L' := [(2, 56), (0, ((e : Nat) : Int)), (0, 0), (0, ((us : Nat) : Int)), (0, ((w : Nat) : Int))]) (st' := [(0, 4), (0, ((w : Nat) : Int))]) (g' := h) rfl ?_
        refine wp_ic_ge rfl (fun c2 => ?_) (fun c2 => ?_)
        · obtain rfl : w = 4 := by omega
          exact wp_ret rfl rfl rfl ⟨_, rfl, by rw [show B + 125 = B + (4 + 1) * 25 by omega]; exact hWh, hLh, hFh⟩
        · have hdg := wyb_0 (c := w + 1) hB.1 hB.2 (by omega) (Nat.le_refl _) (show B + (w + 1) * 25 < B + (w + 1) * 25 + 25 by omega)
          have hwn : (((w + 1 : Nat) : Int) - 1) = (w : Int) := by omega
          have hS2 := hS.ft hFh
          have hS15 : ∀ j, j < 12 → -1 ≤ h 15 j ∧ h 15 j ≤ 3 := by rw [hS2.2.2]; exact H.2.2.2.2.1
          obtain ⟨q, hq⟩ : ∃ q, q = us / 2 ^ w % 2 := ⟨_, rfl⟩
          have hq01 : q < 2 := by rw [hq]; exact Nat.mod_lt _ (by decide)
          refine wp_n 3 (pc' := 71) (L' := [(2, 56), (0, ((e : Nat) : Int)), (0, 0), (0, ((us : Nat) : Int)), (0, ((w : Nat) : Int))]) (st' := [(0, (Int32.ofInt ((us : Nat) : Int) >>> (Int32.ofInt ((w : Nat) : Int) &&& 31)).toInt)]) (g' := h) rfl ?_
          refine wp_eq (L' := [(2, 56), (0, ((e : Nat) : Int)), (0, 0), (0, ((us : Nat) : Int)), (0, ((w : Nat) : Int))]) (st' := [(0, (((us / 2 ^ w) : Nat) : Int))]) (g' := h) ?_ (by rfl) (by rw [ishr_k (by omega) (by omega)]) (by rfl)
          refine wp_n 2 (pc' := 73) (L' := [(2, 56), (0, ((e : Nat) : Int)), (0, 0), (0, ((us : Nat) : Int)), (0, ((w : Nat) : Int))]) (st' := [(0, (Int32.ofInt (((us / 2 ^ w) : Nat) : Int) &&& Int32.ofInt 1).toInt)]) (g' := h) rfl ?_
          refine wp_eq (L' := [(2, 56), (0, ((e : Nat) : Int)), (0, 0), (0, ((us : Nat) : Int)), (0, ((w : Nat) : Int))]) (st' := [(0, ((q : Nat) : Int))]) (g' := h) ?_ (by rfl) (by rw [iand_1 (Nat.lt_of_le_of_lt (Nat.div_le_self _ _) (by omega)), ← hq]) (by rfl)
          refine wp_if_ne rfl (fun c3 => ?_) (fun c3 => ?_)
          · have hno := blk_no0 H he hB.1 hB.2 (show w + 1 ≤ 4 by omega) (fun q0 => by
              obtain ⟨u, u1, u2⟩ := (hU.2 w (by omega)).mp (by omega)
              have u3 := q0.2 u u1 (by rw [hdg.2.1]; omega)
              rw [hdg.2.1, hdg.2.2 u u1] at u3
              omega)
            refine wp_n 2 (pc' := 61) (L' := [(2, 56), (0, ((e : Nat) : Int)), (0, 0), (0, ((us : Nat) : Int)), (0, (((w : Nat) : Int) + 1))]) (st' := []) (g' := h) rfl ?_
            refine wp_eq (ih61 (w + 1) (h) ?_ ?_ ?_ ?_ ?_) (by first | rfl | (simp; done) | (simp; omega)) (by rfl) (by rfl)
            · omega
            · omega
            · exact hWh.to (by omega) (fun k k1 k2 => hno k k1 (by omega))
            · exact hLh
            · exact hFh
          · refine wp_n 4 (pc' := 81) (L' := [(2, 56), (0, ((e : Nat) : Int)), (0, 0), (0, ((us : Nat) : Int)), (0, ((w : Nat) : Int))]) (st' := [(0, ((w : Nat) : Int)), (0, 0), (0, ((e : Nat) : Int)), (2, 56)]) (g' := h) rfl ?_
            refine wp_cv (as := [(2, 56), (0, ((e : Nat) : Int)), (0, 0), (0, ((w : Nat) : Int))]) (rest := []) rfl rfl rfl (Nat.le_of_ble_eq_true rfl) rfl (e_mayStand (e := e) (t := 0) (v := (w : Int)) (by omega) (by omega) (show -2147483648 ≤ (w : Int) ∧ (w : Int) < 2147483648 by omega) hS15) (by decide) (fun r4 h5 => ?_)
            rcases h5 with ⟨rfl, p81⟩ | ⟨rfl, p81⟩
            · refine wp_eq (L' := [(2, 56), (0, ((e : Nat) : Int)), (0, 0), (0, ((us : Nat) : Int)), (0, ((w : Nat) : Int))]) (st' := [(0, 1)]) (g' := h) ?_
              refine wp_n 5 (pc' := 94) (L' := [(2, 56), (0, ((e : Nat) : Int)), (0, 0), (0, ((us : Nat) : Int)), (0, ((w : Nat) : Int))]) (st' := [(0, ((w : Nat) : Int)), (0, 0), (2, 61)]) (g' := h) rfl ?_
              refine wp_iast (k := 61) (0) rfl rfl (by omega) (by omega) (by decide) ?_
              refine wp_n 5 (pc' := 102) (L' := [(2, 56), (0, ((e : Nat) : Int)), (0, 0), (0, ((us : Nat) : Int)), (0, ((w : Nat) : Int))]) (st' := [(0, (0 + 1)), (2, 64)]) (g' := (am_up h 61 0 ((w : Nat) : Int))) rfl ?_
              refine wp_aald (k := 64) (r := 97) (1) rfl rfl (by omega) (by omega) (by decide) rfl ?_
              refine wp_n 3 (pc' := 108) (L' := [(2, 56), (0, ((e : Nat) : Int)), (0, 0), (0, ((us : Nat) : Int)), (0, ((w : Nat) : Int))]) (st' := [(0, 0), (2, 64), (2, 97)]) (g' := (am_up h 61 0 ((w : Nat) : Int))) rfl ?_
              refine wp_aald (k := 64) (r := 95) (0) rfl rfl (by omega) (by omega) (by decide) rfl ?_
              refine wp_cv (as := [(2, 97), (2, 95)]) (rest := []) rfl rfl rfl (Nat.le_of_ble_eq_true rfl) rfl (e_setb (k := 97) (⟨rfl, rfl⟩ : IsBig b 97) (a := 95) (⟨rfl, rfl⟩ : IsBig b 95) ((hLh.up (by omega)) 97 (by omega) (by omega) (by omega)) (((hX.same fun c j q => hFh c j (by omega) (by omega) (by omega) (by omega) (by omega))).up (by decide) (by decide)) (by omega)) (by decide) (fun r6 h7 => ?_)
              obtain ⟨g109, rfl, hR109, hF109⟩ := h7
              have hq0 : us / 2 ^ w % 2 = 0 := by omega
              have hSu := hS2.same (g' := am_up h 61 0 (w : Int)) fun c j q => up_ne (by omega)
              have hLu := (hLh.up (i := 0) (x := (w : Int)) (show 61 < 66 ∨ 102 < 61 by omega)).fr hF109 hR109.L (by omega)
              have hAu := (hSu.2.1 0 w (by omega) (by omega)).same (g' := g109) fun c j q => hF109 c j (by omega) (by omega)
              have hXe : prw P l ev tb fl n e (wy B) 0 * chn P l ev tb fl (e : Int) 0 ((w : Int)).toNat n = prw P l ev tb fl n e (wy (B + (w + 1) * 25)) 0 * chn P l ev tb fl (e : Int) 0 ((w : Int)).toNat n := by rw [prw_eq 0 fun u hu => (hdg.2.2 u hu).symm]
              have hpl := prw_le H he (w := wy (B + (w + 1) * 25)) (fun u _ => (wy_in _ u (by omega)).2) (show 1 ≤ 3 by omega)
              rw [prw, hdg.2.1, hwn, ← hXe, Int.toNat_natCast] at hpl
              have hlc2 : ∀ u, u < 1 → lcx ev tb fl sc n e (wy (B + (w + 1) * 25)) u := by
                intro u hu
                by_cases q5 : u = 0
                · subst q5
                  refine ⟨Or.inl ⟨by omega, by rw [hdg.2.1]; omega, by rw [hdg.2.1, hwn, ← hS2.2.2]; exact p81⟩, fun v hv _ q6 => ?_⟩
                  rw [hdg.2.1, hdg.2.2 v hv, hwn] at q6
                  have := (hU.2 w (by omega)).mpr ⟨v, hv, q6.symm⟩
                  omega
                · exact lcx_eq (fun v hv => hdg.2.2 v (by omega)) (hlc u (by omega))
              have hT2 : ∀ u : Nat, u < 1 → am_up h 61 0 (w : Int) 61 u = wy (B + (w + 1) * 25) u := by
                intro u hu
                by_cases q5 : u = 0
                · subst q5; rw [up_eq, hdg.2.1, hwn]
                · rw [up_nj q5, hFh 61 u (by omega) (by omega) (by omega) (by omega) (by omega), hT u (by omega)]; exact (hdg.2.2 u (by omega)).symm
              refine wp_eq (L' := [(2, 56), (0, ((e : Nat) : Int)), (0, 0), (0, ((us : Nat) : Int)), (0, ((w : Nat) : Int))]) (st' := []) (g' := g109) ?_
              refine wp_n 5 (pc' := 119) (L' := [(2, 56), (0, ((e : Nat) : Int)), (0, 0), (0, ((us : Nat) : Int)), (0, ((w : Nat) : Int))]) (st' := [(0, (0 + 1)), (2, 64)]) (g' := g109) rfl ?_
              refine wp_aald (k := 64) (r := 97) (1) rfl rfl (by omega) (by omega) (by decide) rfl ?_
              refine wp_n 7 (pc' := 130) (L' := [(2, 56), (0, ((e : Nat) : Int)), (0, 0), (0, ((us : Nat) : Int)), (0, ((w : Nat) : Int))]) (st' := [(0, ((0 * 4) + ((w : Nat) : Int))), (2, 63), (2, 97)]) (g' := g109) rfl ?_
              refine wp_aald (k := 63) (r := (71 + 2 * (4 * 0 + w))) ((4 * 0 + w)) rfl rfl (by omega) (by omega) (by decide) (ch_ref (show 4 * 0 + w < 12 by omega)) ?_
              refine wp_n 2 (pc' := 135) (L' := [(2, 56), (0, ((e : Nat) : Int)), (0, 0), (0, ((us : Nat) : Int)), (0, ((w : Nat) : Int))]) (st' := [(2, 69), (2, (((71 + 2 * (4 * 0 + w)) : Nat) : Int)), (2, 97)]) (g' := g109) rfl ?_
              refine wp_cv (as := [(2, 97), (2, (((71 + 2 * (4 * 0 + w)) : Nat) : Int)), (2, 69)]) (rest := []) rfl rfl rfl (Nat.le_of_ble_eq_true rfl) rfl (e_timesb (⟨rfl, rfl⟩ : IsBig b 97) (isb_ch (show 4 * 0 + w < 12 by omega)) (⟨rfl, rfl⟩ : IsBig b 69) hR109 hAu (hLu 69 (by omega) (by omega) (by omega)) (by omega) (by omega) (by omega) (by omega) (Int.lt_of_le_of_lt hpl.2 (by decide))) (by decide) (fun r8 h9 => ?_)
              obtain ⟨g135, rfl, hR135, hF135, hL135⟩ := h9
              have hL135 : WLs g135 := fun a a1 a2 a3 => by
                by_cases r1 : a = 97
                · subst r1; exact hR135.L
                · by_cases r2 : a = 69
                  · subst r2; exact hL135
                  · exact (hLu a a1 a2 a3).frc hF135 (by omega) (by omega)
              refine wp_eq (L' := [(2, 56), (0, ((e : Nat) : Int)), (0, 0), (0, ((us : Nat) : Int)), (0, ((w : Nat) : Int))]) (st' := []) (g' := g135) ?_
              refine wp_n 5 (pc' := 143) (L' := [(2, 56), (0, ((e : Nat) : Int)), (0, 0), (0, ((us : Nat) : Int)), (0, ((w : Nat) : Int))]) (st' := [(0, (0 + 1)), (0, ((e : Nat) : Int)), (2, 56)]) (g' := g135) rfl ?_
              refine wp_eq (L' := [(2, 56), (0, ((e : Nat) : Int)), (0, 0), (0, ((us : Nat) : Int)), (0, ((w : Nat) : Int))]) (st' := [(0, 1), (0, ((e : Nat) : Int)), (2, 56)]) (g' := g135) ?_ (by rfl) (by rfl) (by rfl)
              refine wp_n 4 (pc' := 148) (L' := [(2, 56), (0, ((e : Nat) : Int)), (0, 0), (0, ((us : Nat) : Int)), (0, ((w : Nat) : Int))]) (st' := [(0, (Int32.ofInt 1 <<< (Int32.ofInt ((w : Nat) : Int) &&& 31)).toInt), (0, ((us : Nat) : Int)), (0, 1), (0, ((e : Nat) : Int)), (2, 56)]) (g' := g135) rfl ?_
              refine wp_eq (L' := [(2, 56), (0, ((e : Nat) : Int)), (0, 0), (0, ((us : Nat) : Int)), (0, ((w : Nat) : Int))]) (st' := [(0, (((2 ^ w) : Nat) : Int)), (0, ((us : Nat) : Int)), (0, 1), (0, ((e : Nat) : Int)), (2, 56)]) (g' := g135) ?_ (by rfl) (by rw [ishl_k (by omega)]) (by rfl)
              refine wp_n 1 (pc' := 149) (L' := [(2, 56), (0, ((e : Nat) : Int)), (0, 0), (0, ((us : Nat) : Int)), (0, ((w : Nat) : Int))]) (st' := [(0, (Int32.ofInt ((us : Nat) : Int) ||| Int32.ofInt (((2 ^ w) : Nat) : Int)).toInt), (0, 1), (0, ((e : Nat) : Int)), (2, 56)]) (g' := g135) rfl ?_
              refine wp_eq (L' := [(2, 56), (0, ((e : Nat) : Int)), (0, 0), (0, ((us : Nat) : Int)), (0, ((w : Nat) : Int))]) (st' := [(0, (((us + 2 ^ w) : Nat) : Int)), (0, 1), (0, ((e : Nat) : Int)), (2, 56)]) (g' := g135) ?_ (by rfl) (by rw [ior_all us (by omega) w (by omega) hq0]) (by rfl)
              refine wp_cv (as := [(2, 56), (0, ((e : Nat) : Int)), (0, 1), (0, (((us + 2 ^ w) : Nat) : Int))]) (rest := []) rfl rfl rfl (Nat.le_of_ble_eq_true rfl) rfl (e_stand1 (B := B + (w + 1) * 25) (us := us + 2 ^ w) H he hc (by omega) hlc2 (hSu.same fun c j q => by rw [hF135 c j (by omega) (by omega) (by omega) (by omega), hF109 c j (by omega) (by omega)]) ((hWh.same (g' := am_up h 61 0 (w : Int)) fun c j q => up_ne (by omega)).same fun c j q => by rw [hF135 c j (by omega) (by omega) (by omega) (by omega), hF109 c j (by omega) (by omega)]) hL135 (fun u hu => (hF135 61 u (by omega) (by omega) (by omega) (by omega)).trans ((hF109 61 u (by omega) (by omega)).trans (hT2 u hu))) (by rw [prw, hdg.2.1, hwn, ← hXe, Int.toNat_natCast]; exact hR135) (hU.add (by omega) (by omega) hdg.2.2 (by rw [hdg.2.1]; omega))) (by decide) (fun r10 h11 => ?_)
              obtain ⟨g149, rfl, hW149, hL149, hF149⟩ := h11
              refine wp_eq (L' := [(2, 56), (0, ((e : Nat) : Int)), (0, 0), (0, ((us : Nat) : Int)), (0, ((w : Nat) : Int))]) (st' := []) (g' := g149) ?_
              refine wp_n 2 (pc' := 61) (L' := [(2, 56), (0, ((e : Nat) : Int)), (0, 0), (0, ((us : Nat) : Int)), (0, (((w : Nat) : Int) + 1))]) (st' := []) (g' := g149) rfl ?_
              refine wp_eq (ih61 (w + 1) (g149) ?_ ?_ ?_ ?_ ?_) (by first | rfl | (simp; done) | (simp; omega)) (by rfl) (by rfl)
              · omega
              · omega
              · rw [show B + (w + 1 + 1) * 25 = B + (w + 1) * 25 + 25 by omega]; exact hW149
              · exact hL149
              · exact ((((hFh.up (by omega)).b hF109 (by omega)).trans fun c j a b x y z => hF135 c j (by omega) (by omega) (by omega) (by omega))).trans hF149.dn
            · have hno := blk_no0 H he hB.1 hB.2 (show w + 1 ≤ 4 by omega) (fun q => by
                rcases q.1 with ⟨q1, q2, q3⟩ | ⟨q1, q2⟩
                · rw [hdg.2.1, hwn, ← hS2.2.2] at q3; exact p81 q3
                · omega)
              refine wp_eq (L' := [(2, 56), (0, ((e : Nat) : Int)), (0, 0), (0, ((us : Nat) : Int)), (0, ((w : Nat) : Int))]) (st' := [(0, 0)]) (g' := h) ?_
              refine wp_n 3 (pc' := 61) (L' := [(2, 56), (0, ((e : Nat) : Int)), (0, 0), (0, ((us : Nat) : Int)), (0, (((w : Nat) : Int) + 1))]) (st' := []) (g' := h) rfl ?_
              refine wp_eq (ih61 (w + 1) (h) ?_ ?_ ?_ ?_ ?_) (by first | rfl | (simp; done) | (simp; omega)) (by rfl) (by rfl)
              · omega
              · omega
              · exact hWh.to (by omega) (fun k k1 k2 => hno k k1 (by omega))
              · exact hLh
              · exact hFh
    refine wp_eq (L61 (_ + 1) (0) (g) (Nat.lt_succ_self _) ?_ ?_ ?_ ?_) (by first | rfl | (simp; done) | (simp; omega)) (by rfl) (by rfl)
    · exact Nat.zero_le _
    · exact hW.to (by omega) (fun k k1 k2 => hm1 k (by omega) (by omega))
    · exact hL
    · exact FrT.rfl
  · have hz : spn ev tb fl (e : Int) ((0 : Nat) : Int) n = 0 := by omega
    have hz0 : ∀ k, B + 25 ≤ k → k < B + 125 → ¬ okw ev tb fl sc n e (wy k) := by
      intro k k1 k2 q
      have q1 := (q.1 0 (by omega)).1
      have q2 : 0 ≤ wy k 0 := by rw [wy0]; omega
      have q3 := q1.mpr q2
      omega
    have hlc1 : ∀ u, u < 1 → lcx ev tb fl sc n e (wy B) u := by
      intro u hu
      by_cases q : u = 0
      · subst q; exact ⟨Or.inr ⟨hz, hw0⟩, fun v _ q2 => absurd q2 (by omega)⟩
      · exact hlc u (by omega)
    have hT1 : ∀ u : Nat, u < 1 → am_up g 61 0 (-1) 61 u = wy B u := by
      intro u hu
      by_cases q : u = 0
      · subst q; rw [up_eq]; exact hw0.symm
      · rw [up_nj q]; exact hT u (by omega)
    have hU1 : UsB us B 1 := by
      refine ⟨hU.1, fun d hd => ⟨fun k => ?_, fun k => ?_⟩⟩
      · obtain ⟨u, u1, u2⟩ := (hU.2 d hd).mp k
        exact ⟨u, by omega, u2⟩
      · obtain ⟨u, u1, u2⟩ := k
        refine (hU.2 d hd).mpr ⟨u, ?_, u2⟩
        by_cases q : u = 0
        · subst q; omega
        · omega
    refine wp_n 4 (pc' := 28) (L' := [(2, 56), (0, ((e : Nat) : Int)), (0, 0), (0, ((us : Nat) : Int)), (9, 0)]) (st' := [(0, (-1)), (0, 0), (2, 61)]) (g' := g) rfl ?_
    refine wp_iast (k := 61) (0) rfl rfl (by omega) (by omega) (by decide) ?_
    refine wp_n 5 (pc' := 36) (L' := [(2, 56), (0, ((e : Nat) : Int)), (0, 0), (0, ((us : Nat) : Int)), (9, 0)]) (st' := [(0, (0 + 1)), (2, 64)]) (g' := (am_up g 61 0 (-1))) rfl ?_
    refine wp_aald (k := 64) (r := 97) (1) rfl rfl (by omega) (by omega) (by decide) rfl ?_
    refine wp_n 3 (pc' := 42) (L' := [(2, 56), (0, ((e : Nat) : Int)), (0, 0), (0, ((us : Nat) : Int)), (9, 0)]) (st' := [(0, 0), (2, 64), (2, 97)]) (g' := (am_up g 61 0 (-1))) rfl ?_
    refine wp_aald (k := 64) (r := 95) (0) rfl rfl (by omega) (by omega) (by decide) rfl ?_
    refine wp_cv (as := [(2, 97), (2, 95)]) (rest := []) rfl rfl rfl (Nat.le_of_ble_eq_true rfl) rfl (e_setb (k := 97) (⟨rfl, rfl⟩ : IsBig b 97) (a := 95) (⟨rfl, rfl⟩ : IsBig b 95) ((hL.up (by omega)) 97 (by omega) (by omega) (by omega)) (hX.up (by decide) (by decide)) (by omega)) (by decide) (fun r12 h13 => ?_)
    obtain ⟨g43, rfl, hR43, hF43⟩ := h13
    refine wp_eq (L' := [(2, 56), (0, ((e : Nat) : Int)), (0, 0), (0, ((us : Nat) : Int)), (9, 0)]) (st' := []) (g' := g43) ?_
    refine wp_n 5 (pc' := 51) (L' := [(2, 56), (0, ((e : Nat) : Int)), (0, 0), (0, ((us : Nat) : Int)), (9, 0)]) (st' := [(0, (0 + 1)), (0, ((e : Nat) : Int)), (2, 56)]) (g' := g43) rfl ?_
    refine wp_eq (L' := [(2, 56), (0, ((e : Nat) : Int)), (0, 0), (0, ((us : Nat) : Int)), (9, 0)]) (st' := [(0, 1), (0, ((e : Nat) : Int)), (2, 56)]) (g' := g43) ?_ (by rfl) (by rfl) (by rfl)
    refine wp_n 1 (pc' := 52) (L' := [(2, 56), (0, ((e : Nat) : Int)), (0, 0), (0, ((us : Nat) : Int)), (9, 0)]) (st' := [(0, ((us : Nat) : Int)), (0, 1), (0, ((e : Nat) : Int)), (2, 56)]) (g' := g43) rfl ?_
    refine wp_cv (as := [(2, 56), (0, ((e : Nat) : Int)), (0, 1), (0, ((us : Nat) : Int))]) (rest := []) rfl rfl rfl (Nat.le_of_ble_eq_true rfl) rfl (e_stand1 (B := B) (us := us) H he hc (by omega) hlc1 ((hS.same (g' := am_up g 61 0 (-1)) fun c j q => up_ne (by omega)).same fun c j q => hF43 c j (by omega) (by omega)) ((hW.same (g' := am_up g 61 0 (-1)) fun c j q => up_ne (by omega)).same fun c j q => hF43 c j (by omega) (by omega)) ((hL.up (by omega)).fr hF43 hR43.L (by omega)) (fun u hu => (hF43 61 u (by omega) (by omega)).trans (hT1 u hu)) (by rw [prw, chn_none n (by omega), Int.mul_one]; exact hR43) hU1) (by decide) (fun r14 h15 => ?_)
    obtain ⟨g52, rfl, hW52, hL52, hF52⟩ := h15
    refine wp_eq (L' := [(2, 56), (0, ((e : Nat) : Int)), (0, 0), (0, ((us : Nat) : Int)), (9, 0)]) (st' := []) (g' := g52) ?_
    refine wp_n 1 (pc' := 158) (L' := [(2, 56), (0, ((e : Nat) : Int)), (0, 0), (0, ((us : Nat) : Int)), (9, 0)]) (st' := []) (g' := g52) rfl ?_
    exact wp_ret rfl rfl rfl ⟨_, rfl, hW52.to (by omega) hz0, hL52, ((FrT.rfl.up (by omega)).b hF43 (by omega)).trans hF52.dn⟩
