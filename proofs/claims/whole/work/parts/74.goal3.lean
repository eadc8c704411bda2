/-! GOAL: the reference's bets -/
theorem gT_c {y p : Int} {R : Nat → Int} {a s : Nat} : 0 + R (gw y a s) * p + R (a - s) * (1000 - p) = gT y p R a s := by
  unfold gT
  grind
theorem gw_e {y : Int} {a s : Nat} (h0 : 0 ≤ y * (s : Int)) (h : (a : Int) + y * (s : Int) ≤ 40) : ((gw y a s : Nat) : Int) = (a : Int) + y * (s : Int) := by
  unfold gw
  split <;> omega
theorem gw_f {y : Int} {a s : Nat} (h : 40 < (a : Int) + y * (s : Int)) : ((gw y a s : Nat) : Int) = 40 := by
  unfold gw
  split <;> omega
theorem p1000 {d : Nat} (h : d ≤ 10) : (1000 : Int) ^ d ≤ 1000 ^ 10 := pow_up (by decide) h
theorem MR.up142 {r i : Nat} {g : am_G} {v x : Int} (h : MR g r v) : MR (am_up g 142 i x) r v := ⟨fun j hj => by rw [up_ne (by decide)]; exact h.1 j hj, by rw [← h.2]; exact mval_eq fun j hj => up_ne (by decide)⟩
theorem MR.uniq {r : Nat} {g : am_G} {v w : Int} (h : MR g r v) (h' : MR g r w) : v = w := h.2.symm.trans h'.2
set_option maxHeartbeats 400000 in
set_option maxRecDepth 20000 in
theorem m_bets {sn : Nat} {sx : Nat → Int} {b : Nat} {g : am_G} {c : am_G} {u t d : Nat} {q p y : Int} (hM : MRel c g) (hy0 : c 10 16 = y) (hut : u = 0 ∧ t = 62 ∨ u = 62 ∧ t = 0) (hd : d < 10) (hq : 1 ≤ q ∧ q ≤ 40) (hp : 0 ≤ p ∧ p ≤ 1000) (hy : 1 ≤ y ∧ y ≤ 99) (hU : ∀ j : Nat, j < 41 → MR g (u + j) (gR y q p d j)) : Ev sn sx 3 240 [(2, 127), (0, ((u : Nat) : Int)), (0, ((t : Nat) : Int)), (0, q), (0, p), (0, (((d + 1) : Nat) : Int))] (SH b) g (fun r => ∃ g', r = (none, SH b, g') ∧ (∀ j : Nat, j < 41 → MR g' (t + j) (gR y q p (d + 1) j) ∧ g' 142 j = gF y q p j (d + 1)) ∧ FrN g g') := by
  refine ev_of (K := 2) T240 (by decide) rfl rfl (Nat.le_of_ble_eq_true rfl) ?_
  refine wp_eq (L' := [(2, 127), (0, ((u : Nat) : Int)), (0, ((t : Nat) : Int)), (0, q), (0, p), (0, (((d + 1) : Nat) : Int)), (9, 0), (9, 0), (9, 0)]) (st' := []) (g' := g) ?_
  refine wp_n 2 (pc' := 3) (L' := [(2, 127), (0, ((u : Nat) : Int)), (0, ((t : Nat) : Int)), (0, q), (0, p), (0, (((d + 1) : Nat) : Int)), (0, 0), (9, 0), (9, 0)]) (st' := []) (g' := g) rfl ?_
  have L3 : ∀ (lf : Nat) (i : Nat) (h : am_G) (w7 w8 : am_V), 41 - i < lf → (i ≤ 41) → (∀ j : Nat, j < 41 → MR h (u + j) (gR y q p d j)) → (∀ j : Nat, j < i → MR h (t + j) (gR y q p (d + 1) j) ∧ h 142 j = gF y q p j (d + 1)) → (FrN g h) → Wp sn sx 2 T240 3 [(2, 127), (0, ((u : Nat) : Int)), (0, ((t : Nat) : Int)), (0, q), (0, p), (0, (((d + 1) : Nat) : Int)), (0, ((i : Nat) : Int)), w7, w8] [] (SH b) h (fun r => ∃ g', r = (none, SH b, g') ∧ (∀ j : Nat, j < 41 → MR g' (t + j) (gR y q p (d + 1) j) ∧ g' 142 j = gF y q p j (d + 1)) ∧ FrN g g') := by
    intro lf
    induction lf with
    | zero => intro i h w7 w8 hlf; exact absurd hlf (Nat.not_lt_zero _)
    | succ lf ih3 =>
      intro i h w7 w8 hlf hi hV hN hF
      refine wp_n 2 (pc' := 7) (L' := [(2, 127), (0, ((u : Nat) : Int)), (0, ((t : Nat) : Int)), (0, q), (0, p), (0, (((d + 1) : Nat) : Int)), (0, ((i : Nat) : Int)), w7, w8]) (st' := [(0, 40), (0, ((i : Nat) : Int))]) (g' := h) rfl ?_
      refine wp_ic_gt rfl (fun c1 => ?_) (fun c1 => ?_)
      · skip
        exact wp_ret rfl rfl rfl ⟨_, rfl, fun j hj => hN j (by omega), hF⟩
      · have hpd := p1000 (show d ≤ 10 by omega)
        have hpd1 := p1000 (show d + 1 ≤ 10 by omega)
        refine wp_n 4 (pc' := 17) (L' := [(2, 127), (0, ((u : Nat) : Int)), (0, ((t : Nat) : Int)), (0, q), (0, p), (0, (((d + 1) : Nat) : Int)), (0, ((i : Nat) : Int)), w7, w8]) (st' := [(0, 0), (0, ((i : Nat) : Int)), (2, 142)]) (g' := h) rfl ?_
        refine wp_iast (k := 142) (i) rfl rfl (by omega) (by omega) (by decide) ?_
        refine wp_n 2 (pc' := 21) (L' := [(2, 127), (0, ((u : Nat) : Int)), (0, ((t : Nat) : Int)), (0, q), (0, p), (0, (((d + 1) : Nat) : Int)), (0, ((i : Nat) : Int)), w7, w8]) (st' := [(0, q), (0, ((i : Nat) : Int))]) (g' := (am_up h 142 i 0)) rfl ?_
        refine wp_ic_lt rfl (fun c2 => ?_) (fun c2 => ?_)
        · refine wp_n 4 (pc' := 45) (L' := [(2, 127), (0, ((u : Nat) : Int)), (0, ((t : Nat) : Int)), (0, q), (0, p), (0, (((d + 1) : Nat) : Int)), (0, ((i : Nat) : Int)), w7, w8]) (st' := [(0, (((t : Nat) : Int) + ((i : Nat) : Int))), (2, 127)]) (g' := (am_up h 142 i 0)) rfl ?_
          refine wp_eq (L' := [(2, 127), (0, ((u : Nat) : Int)), (0, ((t : Nat) : Int)), (0, q), (0, p), (0, (((d + 1) : Nat) : Int)), (0, ((i : Nat) : Int)), w7, w8]) (st' := [(0, (((t + i) : Nat) : Int)), (2, 127)]) (g' := (am_up h 142 i 0)) ?_ (by rfl) (by rfl) (by rfl)
          refine wp_n 1 (pc' := 46) (L' := [(2, 127), (0, ((u : Nat) : Int)), (0, ((t : Nat) : Int)), (0, q), (0, p), (0, (((d + 1) : Nat) : Int)), (0, ((i : Nat) : Int)), w7, w8]) (st' := [(0, 0), (0, (((t + i) : Nat) : Int)), (2, 127)]) (g' := (am_up h 142 i 0)) rfl ?_
          refine wp_cv (as := [(2, 127), (0, (((t + i) : Nat) : Int)), (0, 0)]) (rest := []) rfl rfl rfl (Nat.le_of_ble_eq_true rfl) rfl (m_put (r := (t + i)) (by omega) (by omega)) (by decide) (fun r3 h4 => ?_)
          obtain ⟨g46, rfl, hR46, hF46⟩ := h4
          refine wp_eq (L' := [(2, 127), (0, ((u : Nat) : Int)), (0, ((t : Nat) : Int)), (0, q), (0, p), (0, (((d + 1) : Nat) : Int)), (0, ((i : Nat) : Int)), w7, w8]) (st' := []) (g' := g46) ?_
          refine wp_n 2 (pc' := 52) (L' := [(2, 127), (0, ((u : Nat) : Int)), (0, ((t : Nat) : Int)), (0, q), (0, p), (0, (((d + 1) : Nat) : Int)), (0, ((i : Nat) : Int)), (0, 0), w8]) (st' := []) (g' := g46) rfl ?_
          have L52 : ∀ (lf : Nat) (s : Nat) (f : am_G) (w8 : am_V), i + 1 - s < lf → (s ≤ i + 1) → (∀ j : Nat, j < 41 → MR f (u + j) (gR y q p d j)) → (∀ j : Nat, j < i → MR f (t + j) (gR y q p (d + 1) j) ∧ f 142 j = gF y q p j (d + 1)) → ((s = 0 ∧ MR f (t + i) 0) ∨ (1 ≤ s ∧ MR f (t + i) ((gT y p (gR y q p d) i) (gmx (gT y p (gR y q p d) i) (s - 1))) ∧ f 142 i = ((gmx (gT y p (gR y q p d) i) (s - 1) : Nat) : Int))) → (FrN g f) → Wp sn sx 2 T240 52 [(2, 127), (0, ((u : Nat) : Int)), (0, ((t : Nat) : Int)), (0, q), (0, p), (0, (((d + 1) : Nat) : Int)), (0, ((i : Nat) : Int)), (0, ((s : Nat) : Int)), w8] [] (SH b) f (fun r => ∃ g', r = (none, SH b, g') ∧ (∀ j : Nat, j < 41 → MR g' (t + j) (gR y q p (d + 1) j) ∧ g' 142 j = gF y q p j (d + 1)) ∧ FrN g g') := by
            intro lf
            induction lf with
            | zero => intro s f w8 hlf; exact absurd hlf (Nat.not_lt_zero _)
            | succ lf ih52 =>
              intro s f w8 hlf hs kV kN kO kF
              refine wp_n 2 (pc' := 56) (L' := [(2, 127), (0, ((u : Nat) : Int)), (0, ((t : Nat) : Int)), (0, q), (0, p), (0, (((d + 1) : Nat) : Int)), (0, ((i : Nat) : Int)), (0, ((s : Nat) : Int)), w8]) (st' := [(0, ((i : Nat) : Int)), (0, ((s : Nat) : Int))]) (g' := f) rfl ?_
              refine wp_ic_gt rfl (fun c5 => ?_) (fun c5 => ?_)
              · have hsi : s = i + 1 := by omega
                have hfin : MR f (t + i) ((gT y p (gR y q p d) i) (gmx (gT y p (gR y q p d) i) i)) ∧ f 142 i = ((gmx (gT y p (gR y q p d) i) i : Nat) : Int) := by
                  rcases kO with ⟨e, _⟩ | ⟨_, e1, e2⟩
                  · exfalso; omega
                  · have ea : s - 1 = i := by omega
                    rw [ea] at e1 e2
                    exact ⟨e1, e2⟩
                refine wp_n 2 (pc' := 3) (L' := [(2, 127), (0, ((u : Nat) : Int)), (0, ((t : Nat) : Int)), (0, q), (0, p), (0, (((d + 1) : Nat) : Int)), (0, (((i : Nat) : Int) + 1)), (0, ((s : Nat) : Int)), w8]) (st' := []) (g' := f) rfl ?_
                refine wp_eq (ih3 (i + 1) (f) ((0, ((s : Nat) : Int))) (w8) ?_ ?_ ?_ ?_ ?_) (by first | rfl | (simp; done) | (simp; omega)) (by rfl) (by rfl)
                · omega
                · omega
                · first | exact kV | exact fun j hj => (MR.up142 (hV j hj)).fr hF34 (by omega)
                · first
                  | (intro j hj
                     by_cases e : j = i
                     · subst e
                       refine ⟨by rw [gR_s, if_neg (by omega)]; exact hfin.1, by rw [gF_s, if_neg (by omega)]; exact hfin.2⟩
                     · exact kN j (by omega))
                  | (intro j hj
                     by_cases e : j = i
                     · subst e
                       refine ⟨by rw [gR_s, if_pos (by omega)]; exact hR34, ?_⟩
                       rw [hF34 142 j (fun e => absurd e (by decide)), up_eq, gF_s, if_pos (by omega)]
                     · have k := hN j (by omega)
                       refine ⟨(MR.up142 k.1).fr hF34 (by omega), ?_⟩
                       rw [hF34 142 j (fun e => absurd e (by decide)), up_nj e]; exact k.2)
                · first | exact kF | exact (hF.up (by unfold Sm; omega)).m hF34
              · have hMf := hM.g_same kF
                have hmu := Int.mul_le_mul hy.2 (show (s : Int) ≤ 40 by omega) (by omega) (by decide)
                have hmn := Int.mul_nonneg (show 0 ≤ y by omega) (show 0 ≤ (s : Int) by omega)
                have hgw := gw_le y i s
                have hg1 := gR_in (y := y) (q := q) hp d (gw y i s)
                have hg2 := gR_in (y := y) (q := q) hp d (i - s)
                have hg3 := Int.mul_le_mul hg1.2 hp.2 hp.1 (Int.pow_nonneg (by decide))
                have hg4 := Int.mul_le_mul hg2.2 (show 1000 - p ≤ 1000 by omega) (show 0 ≤ 1000 - p by omega) (Int.pow_nonneg (by decide))
                refine wp_n 4 (pc' := 66) (L' := [(2, 127), (0, ((u : Nat) : Int)), (0, ((t : Nat) : Int)), (0, q), (0, p), (0, (((d + 1) : Nat) : Int)), (0, ((i : Nat) : Int)), (0, ((s : Nat) : Int)), w8]) (st' := [(0, 5), (2, 128), (0, ((i : Nat) : Int))]) (g' := f) rfl ?_
                refine wp_iald (k := 128) (5) rfl rfl (by omega) (by omega) (by decide) ?_
                refine wp_eq (L' := [(2, 127), (0, ((u : Nat) : Int)), (0, ((t : Nat) : Int)), (0, q), (0, p), (0, (((d + 1) : Nat) : Int)), (0, ((i : Nat) : Int)), (0, ((s : Nat) : Int)), w8]) (st' := [(0, y), (0, ((i : Nat) : Int))]) (g' := f) ?_ (by rfl) (by rw [hMf.pay, hy0]) (by rfl)
                refine wp_n 4 (pc' := 73) (L' := [(2, 127), (0, ((u : Nat) : Int)), (0, ((t : Nat) : Int)), (0, q), (0, p), (0, (((d + 1) : Nat) : Int)), (0, ((i : Nat) : Int)), (0, ((s : Nat) : Int)), w8]) (st' := [(0, 40), (0, (((i : Nat) : Int) + (y * ((s : Nat) : Int))))]) (g' := f) rfl ?_
                refine wp_ic_le rfl (fun c6 => ?_) (fun c6 => ?_)
                · refine wp_n 4 (pc' := 88) (L' := [(2, 127), (0, ((u : Nat) : Int)), (0, ((t : Nat) : Int)), (0, q), (0, p), (0, (((d + 1) : Nat) : Int)), (0, ((i : Nat) : Int)), (0, ((s : Nat) : Int)), w8]) (st' := [(0, 5), (2, 128), (0, ((i : Nat) : Int))]) (g' := f) rfl ?_
                  refine wp_iald (k := 128) (5) rfl rfl (by omega) (by omega) (by decide) ?_
                  refine wp_eq (L' := [(2, 127), (0, ((u : Nat) : Int)), (0, ((t : Nat) : Int)), (0, q), (0, p), (0, (((d + 1) : Nat) : Int)), (0, ((i : Nat) : Int)), (0, ((s : Nat) : Int)), w8]) (st' := [(0, y), (0, ((i : Nat) : Int))]) (g' := f) ?_ (by rfl) (by rw [hMf.pay, hy0]) (by rfl)
                  refine wp_n 3 (pc' := 93) (L' := [(2, 127), (0, ((u : Nat) : Int)), (0, ((t : Nat) : Int)), (0, q), (0, p), (0, (((d + 1) : Nat) : Int)), (0, ((i : Nat) : Int)), (0, ((s : Nat) : Int)), w8]) (st' := [(0, (((i : Nat) : Int) + (y * ((s : Nat) : Int))))]) (g' := f) rfl ?_
                  refine wp_eq (L' := [(2, 127), (0, ((u : Nat) : Int)), (0, ((t : Nat) : Int)), (0, q), (0, p), (0, (((d + 1) : Nat) : Int)), (0, ((i : Nat) : Int)), (0, ((s : Nat) : Int)), w8]) (st' := [(0, (((gw y i s) : Nat) : Int))]) (g' := f) ?_ (by rfl) (by rw [gw_e hmn (by omega)]) (by rfl)
                  refine wp_n 4 (pc' := 99) (L' := [(2, 127), (0, ((u : Nat) : Int)), (0, ((t : Nat) : Int)), (0, q), (0, p), (0, (((d + 1) : Nat) : Int)), (0, ((i : Nat) : Int)), (0, ((s : Nat) : Int)), (0, (((gw y i s) : Nat) : Int))]) (st' := [(0, 0), (0, 124), (2, 127)]) (g' := f) rfl ?_
                  refine wp_cv (as := [(2, 127), (0, 124), (0, 0)]) (rest := []) rfl rfl rfl (Nat.le_of_ble_eq_true rfl) rfl (m_put (r := 124) (by omega) (by omega)) (by decide) (fun r7 h8 => ?_)
                  obtain ⟨g99, rfl, hR99, hF99⟩ := h8
                  refine wp_eq (L' := [(2, 127), (0, ((u : Nat) : Int)), (0, ((t : Nat) : Int)), (0, q), (0, p), (0, (((d + 1) : Nat) : Int)), (0, ((i : Nat) : Int)), (0, ((s : Nat) : Int)), (0, (((gw y i s) : Nat) : Int))]) (st' := []) (g' := g99) ?_
                  refine wp_n 5 (pc' := 109) (L' := [(2, 127), (0, ((u : Nat) : Int)), (0, ((t : Nat) : Int)), (0, q), (0, p), (0, (((d + 1) : Nat) : Int)), (0, ((i : Nat) : Int)), (0, ((s : Nat) : Int)), (0, (((gw y i s) : Nat) : Int))]) (st' := [(0, (((u : Nat) : Int) + (((gw y i s) : Nat) : Int))), (0, 124), (2, 127)]) (g' := g99) rfl ?_
                  refine wp_eq (L' := [(2, 127), (0, ((u : Nat) : Int)), (0, ((t : Nat) : Int)), (0, q), (0, p), (0, (((d + 1) : Nat) : Int)), (0, ((i : Nat) : Int)), (0, ((s : Nat) : Int)), (0, (((gw y i s) : Nat) : Int))]) (st' := [(0, (((u + gw y i s) : Nat) : Int)), (0, 124), (2, 127)]) (g' := g99) ?_ (by rfl) (by rfl) (by rfl)
                  refine wp_n 1 (pc' := 111) (L' := [(2, 127), (0, ((u : Nat) : Int)), (0, ((t : Nat) : Int)), (0, q), (0, p), (0, (((d + 1) : Nat) : Int)), (0, ((i : Nat) : Int)), (0, ((s : Nat) : Int)), (0, (((gw y i s) : Nat) : Int))]) (st' := [(0, p), (0, (((u + gw y i s) : Nat) : Int)), (0, 124), (2, 127)]) (g' := g99) rfl ?_
                  refine wp_cv (as := [(2, 127), (0, 124), (0, (((u + gw y i s) : Nat) : Int)), (0, p)]) (rest := []) rfl rfl rfl (Nat.le_of_ble_eq_true rfl) rfl (m_add (r := 124) (s := (u + gw y i s)) (by omega) (by omega) (by omega) hR99 ((kV _ (by omega)).fr hF99 (by omega)) (by omega) (by omega)) (by decide) (fun r9 h10 => ?_)
                  obtain ⟨g111, rfl, hR111, hF111⟩ := h10
                  refine wp_eq (L' := [(2, 127), (0, ((u : Nat) : Int)), (0, ((t : Nat) : Int)), (0, q), (0, p), (0, (((d + 1) : Nat) : Int)), (0, ((i : Nat) : Int)), (0, ((s : Nat) : Int)), (0, (((gw y i s) : Nat) : Int))]) (st' := []) (g' := g111) ?_
                  refine wp_n 7 (pc' := 124) (L' := [(2, 127), (0, ((u : Nat) : Int)), (0, ((t : Nat) : Int)), (0, q), (0, p), (0, (((d + 1) : Nat) : Int)), (0, ((i : Nat) : Int)), (0, ((s : Nat) : Int)), (0, (((gw y i s) : Nat) : Int))]) (st' := [(0, ((((u : Nat) : Int) + ((i : Nat) : Int)) - ((s : Nat) : Int))), (0, 124), (2, 127)]) (g' := g111) rfl ?_
                  refine wp_eq (L' := [(2, 127), (0, ((u : Nat) : Int)), (0, ((t : Nat) : Int)), (0, q), (0, p), (0, (((d + 1) : Nat) : Int)), (0, ((i : Nat) : Int)), (0, ((s : Nat) : Int)), (0, (((gw y i s) : Nat) : Int))]) (st' := [(0, (((u + (i - s)) : Nat) : Int)), (0, 124), (2, 127)]) (g' := g111) ?_ (by rfl) (by rw [show ((u : Nat) : Int) + ((i : Nat) : Int) - ((s : Nat) : Int) = ((u + (i - s) : Nat) : Int) by omega]) (by rfl)
                  refine wp_n 3 (pc' := 130) (L' := [(2, 127), (0, ((u : Nat) : Int)), (0, ((t : Nat) : Int)), (0, q), (0, p), (0, (((d + 1) : Nat) : Int)), (0, ((i : Nat) : Int)), (0, ((s : Nat) : Int)), (0, (((gw y i s) : Nat) : Int))]) (st' := [(0, (1000 - p)), (0, (((u + (i - s)) : Nat) : Int)), (0, 124), (2, 127)]) (g' := g111) rfl ?_
                  refine wp_cv (as := [(2, 127), (0, 124), (0, (((u + (i - s)) : Nat) : Int)), (0, (1000 - p))]) (rest := []) rfl rfl rfl (Nat.le_of_ble_eq_true rfl) rfl (m_add (r := 124) (s := (u + (i - s))) (by omega) (by omega) (by omega) hR111 (((kV _ (by omega)).fr hF99 (by omega)).fr hF111 (by omega)) (by omega) (by omega)) (by decide) (fun r11 h12 => ?_)
                  obtain ⟨g130, rfl, hR130, hF130⟩ := h12
                  rw [gT_c] at hR130
                  have fr3 {j : Nat} {v : Int} (hj : j ≠ 124) (H : MR f j v) : MR g130 j v := ((H.fr hF99 hj).fr hF111 hj).fr hF130 hj
                  have eV : ∀ j : Nat, j < 41 → MR g130 (u + j) (gR y q p d j) := fun j hj => fr3 (by omega) (kV j hj)
                  have e142 : ∀ j, g130 142 j = f 142 j := fun j => by rw [hF130 142 j (fun e => absurd e (by decide)), hF111 142 j (fun e => absurd e (by decide)), hF99 142 j (fun e => absurd e (by decide))]
                  have eN : ∀ j : Nat, j < i → MR g130 (t + j) (gR y q p (d + 1) j) ∧ g130 142 j = gF y q p j (d + 1) := fun j hj => ⟨fr3 (by omega) (kN j hj).1, by rw [e142]; exact (kN j hj).2⟩
                  have eO : (s = 0 ∧ MR g130 (t + i) 0) ∨ (1 ≤ s ∧ MR g130 (t + i) ((gT y p (gR y q p d) i) (gmx (gT y p (gR y q p d) i) (s - 1))) ∧ g130 142 i = ((gmx (gT y p (gR y q p d) i) (s - 1) : Nat) : Int)) := by
                    rcases kO with ⟨e, e1⟩ | ⟨e, e1, e2⟩
                    · exact Or.inl ⟨e, fr3 (by omega) e1⟩
                    · exact Or.inr ⟨e, fr3 (by omega) e1, by rw [e142]; exact e2⟩
                  have eF : FrN g g130 := ((kF.m hF99).m hF111).m hF130
                  have eW : ∃ ww, MR g130 (t + i) ww ∧ ∀ vv, MR g130 (t + i) vv → vv = ww := by
                    rcases eO with ⟨_, e1⟩ | ⟨_, e1, _⟩ <;> exact ⟨_, e1, fun vv hv => hv.uniq e1⟩
                  obtain ⟨ww, hWW, hWU⟩ := eW
                  refine wp_eq (L' := [(2, 127), (0, ((u : Nat) : Int)), (0, ((t : Nat) : Int)), (0, q), (0, p), (0, (((d + 1) : Nat) : Int)), (0, ((i : Nat) : Int)), (0, ((s : Nat) : Int)), (0, (((gw y i s) : Nat) : Int))]) (st' := []) (g' := g130) ?_
                  refine wp_n 1 (pc' := 135) (L' := [(2, 127), (0, ((u : Nat) : Int)), (0, ((t : Nat) : Int)), (0, q), (0, p), (0, (((d + 1) : Nat) : Int)), (0, ((i : Nat) : Int)), (0, ((s : Nat) : Int)), (0, (((gw y i s) : Nat) : Int))]) (st' := [(0, ((s : Nat) : Int))]) (g' := g130) rfl ?_
                  refine wp_if_le rfl (fun c13 => ?_) (fun c13 => ?_)
                  · refine wp_n 5 (pc' := 161) (L' := [(2, 127), (0, ((u : Nat) : Int)), (0, ((t : Nat) : Int)), (0, q), (0, p), (0, (((d + 1) : Nat) : Int)), (0, ((i : Nat) : Int)), (0, ((s : Nat) : Int)), (0, (((gw y i s) : Nat) : Int))]) (st' := [(0, (((t : Nat) : Int) + ((i : Nat) : Int))), (0, 124), (2, 127)]) (g' := g130) rfl ?_
                    refine wp_eq (L' := [(2, 127), (0, ((u : Nat) : Int)), (0, ((t : Nat) : Int)), (0, q), (0, p), (0, (((d + 1) : Nat) : Int)), (0, ((i : Nat) : Int)), (0, ((s : Nat) : Int)), (0, (((gw y i s) : Nat) : Int))]) (st' := [(0, (((t + i) : Nat) : Int)), (0, 124), (2, 127)]) (g' := g130) ?_ (by rfl) (by rfl) (by rfl)
                    refine wp_cv (as := [(2, 127), (0, 124), (0, (((t + i) : Nat) : Int))]) (rest := []) rfl rfl rfl (Nat.le_of_ble_eq_true rfl) rfl (m_lay (s := 124) (r := (t + i)) (by omega) (by omega) (by omega) hR130) (by decide) (fun r14 h15 => ?_)
                    obtain ⟨g161, rfl, hR161, hF161⟩ := h15
                    refine wp_eq (L' := [(2, 127), (0, ((u : Nat) : Int)), (0, ((t : Nat) : Int)), (0, q), (0, p), (0, (((d + 1) : Nat) : Int)), (0, ((i : Nat) : Int)), (0, ((s : Nat) : Int)), (0, (((gw y i s) : Nat) : Int))]) (st' := []) (g' := g161) ?_
                    refine wp_n 4 (pc' := 172) (L' := [(2, 127), (0, ((u : Nat) : Int)), (0, ((t : Nat) : Int)), (0, q), (0, p), (0, (((d + 1) : Nat) : Int)), (0, ((i : Nat) : Int)), (0, ((s : Nat) : Int)), (0, (((gw y i s) : Nat) : Int))]) (st' := [(0, ((s : Nat) : Int)), (0, ((i : Nat) : Int)), (2, 142)]) (g' := g161) rfl ?_
                    refine wp_iast (k := 142) (i) rfl rfl (by omega) (by omega) (by decide) ?_
                    refine wp_n 2 (pc' := 52) (L' := [(2, 127), (0, ((u : Nat) : Int)), (0, ((t : Nat) : Int)), (0, q), (0, p), (0, (((d + 1) : Nat) : Int)), (0, ((i : Nat) : Int)), (0, (((s : Nat) : Int) + 1)), (0, (((gw y i s) : Nat) : Int))]) (st' := []) (g' := (am_up g161 142 i ((s : Nat) : Int))) rfl ?_
                    refine wp_eq (ih52 (s + 1) ((am_up g161 142 i ((s : Nat) : Int))) ((0, (((gw y i s) : Nat) : Int))) ?_ ?_ ?_ ?_ ?_ ?_) (by first | rfl | (simp; done) | (simp; omega)) (by rfl) (by rfl)
                    · omega
                    · omega
                    · first | exact fun j hj => MR.up142 ((eV j hj).fr hF161 (by omega)) | exact eV
                    · first
                      | (intro j hj
                         have k := eN j hj
                         refine ⟨MR.up142 (k.1.fr hF161 (by omega)), ?_⟩
                         rw [up_nj (by omega), hF161 142 j (fun e => absurd e (by decide))]; exact k.2)
                      | exact eN
                    · right
                      rw [Nat.add_sub_cancel]
                      refine ⟨by omega, ?_⟩
                      rcases eO with ⟨e, e1⟩ | ⟨e, e1, e2⟩
                      · subst e
                        first
                        | exact ⟨MR.up142 hR161, by rw [up_eq]; rfl⟩
                        | (exfalso; omega)
                      · obtain ⟨s1, rfl⟩ : ∃ s1, s = s1 + 1 := ⟨s - 1, by omega⟩
                        rw [Nat.add_sub_cancel] at e1 e2
                        rw [gmx_s]
                        first
                        | (exfalso; omega)
                        | (rw [if_pos (hlt e1)]; exact ⟨MR.up142 hR161, by rw [up_eq]⟩)
                        | (rw [if_neg (hnl e1)]; exact ⟨e1, e2⟩)
                    · first | exact (eF.m hF161).up (by unfold Sm; omega) | exact eF
                  · refine wp_n 5 (pc' := 145) (L' := [(2, 127), (0, ((u : Nat) : Int)), (0, ((t : Nat) : Int)), (0, q), (0, p), (0, (((d + 1) : Nat) : Int)), (0, ((i : Nat) : Int)), (0, ((s : Nat) : Int)), (0, (((gw y i s) : Nat) : Int))]) (st' := [(0, (((t : Nat) : Int) + ((i : Nat) : Int))), (0, 124), (2, 127)]) (g' := g130) rfl ?_
                    refine wp_eq (L' := [(2, 127), (0, ((u : Nat) : Int)), (0, ((t : Nat) : Int)), (0, q), (0, p), (0, (((d + 1) : Nat) : Int)), (0, ((i : Nat) : Int)), (0, ((s : Nat) : Int)), (0, (((gw y i s) : Nat) : Int))]) (st' := [(0, (((t + i) : Nat) : Int)), (0, 124), (2, 127)]) (g' := g130) ?_ (by rfl) (by rfl) (by rfl)
                    refine wp_cv (as := [(2, 127), (0, 124), (0, (((t + i) : Nat) : Int))]) (rest := []) rfl rfl rfl (Nat.le_of_ble_eq_true rfl) rfl (m_compare (r := 124) (s := (t + i)) (by omega) (by omega) hR130 hWW) (by decide) (fun r16 h17 => ?_)
                    obtain ⟨c145, rfl, hc145⟩ := h17
                    refine wp_eq (L' := [(2, 127), (0, ((u : Nat) : Int)), (0, ((t : Nat) : Int)), (0, q), (0, p), (0, (((d + 1) : Nat) : Int)), (0, ((i : Nat) : Int)), (0, ((s : Nat) : Int)), (0, (((gw y i s) : Nat) : Int))]) (st' := [(0, c145)]) (g' := g130) ?_
                    refine wp_if_gt rfl (fun c18 => ?_) (fun c18 => ?_)
                    · have hlt : ∀ {vv : Int}, MR g130 (t + i) vv → vv < (gT y p (gR y q p d) i) s := fun hv => by rw [hWU _ hv]; omega
                      refine wp_n 5 (pc' := 161) (L' := [(2, 127), (0, ((u : Nat) : Int)), (0, ((t : Nat) : Int)), (0, q), (0, p), (0, (((d + 1) : Nat) : Int)), (0, ((i : Nat) : Int)), (0, ((s : Nat) : Int)), (0, (((gw y i s) : Nat) : Int))]) (st' := [(0, (((t : Nat) : Int) + ((i : Nat) : Int))), (0, 124), (2, 127)]) (g' := g130) rfl ?_
                      refine wp_eq (L' := [(2, 127), (0, ((u : Nat) : Int)), (0, ((t : Nat) : Int)), (0, q), (0, p), (0, (((d + 1) : Nat) : Int)), (0, ((i : Nat) : Int)), (0, ((s : Nat) : Int)), (0, (((gw y i s) : Nat) : Int))]) (st' := [(0, (((t + i) : Nat) : Int)), (0, 124), (2, 127)]) (g' := g130) ?_ (by rfl) (by rfl) (by rfl)
                      refine wp_cv (as := [(2, 127), (0, 124), (0, (((t + i) : Nat) : Int))]) (rest := []) rfl rfl rfl (Nat.le_of_ble_eq_true rfl) rfl (m_lay (s := 124) (r := (t + i)) (by omega) (by omega) (by omega) hR130) (by decide) (fun r19 h20 => ?_)
                      obtain ⟨g161, rfl, hR161, hF161⟩ := h20
                      refine wp_eq (L' := [(2, 127), (0, ((u : Nat) : Int)), (0, ((t : Nat) : Int)), (0, q), (0, p), (0, (((d + 1) : Nat) : Int)), (0, ((i : Nat) : Int)), (0, ((s : Nat) : Int)), (0, (((gw y i s) : Nat) : Int))]) (st' := []) (g' := g161) ?_
                      refine wp_n 4 (pc' := 172) (L' := [(2, 127), (0, ((u : Nat) : Int)), (0, ((t : Nat) : Int)), (0, q), (0, p), (0, (((d + 1) : Nat) : Int)), (0, ((i : Nat) : Int)), (0, ((s : Nat) : Int)), (0, (((gw y i s) : Nat) : Int))]) (st' := [(0, ((s : Nat) : Int)), (0, ((i : Nat) : Int)), (2, 142)]) (g' := g161) rfl ?_
                      refine wp_iast (k := 142) (i) rfl rfl (by omega) (by omega) (by decide) ?_
                      refine wp_n 2 (pc' := 52) (L' := [(2, 127), (0, ((u : Nat) : Int)), (0, ((t : Nat) : Int)), (0, q), (0, p), (0, (((d + 1) : Nat) : Int)), (0, ((i : Nat) : Int)), (0, (((s : Nat) : Int) + 1)), (0, (((gw y i s) : Nat) : Int))]) (st' := []) (g' := (am_up g161 142 i ((s : Nat) : Int))) rfl ?_
                      refine wp_eq (ih52 (s + 1) ((am_up g161 142 i ((s : Nat) : Int))) ((0, (((gw y i s) : Nat) : Int))) ?_ ?_ ?_ ?_ ?_ ?_) (by first | rfl | (simp; done) | (simp; omega)) (by rfl) (by rfl)
                      · omega
                      · omega
                      · first | exact fun j hj => MR.up142 ((eV j hj).fr hF161 (by omega)) | exact eV
                      · first
                        | (intro j hj
                           have k := eN j hj
                           refine ⟨MR.up142 (k.1.fr hF161 (by omega)), ?_⟩
                           rw [up_nj (by omega), hF161 142 j (fun e => absurd e (by decide))]; exact k.2)
                        | exact eN
                      · right
                        rw [Nat.add_sub_cancel]
                        refine ⟨by omega, ?_⟩
                        rcases eO with ⟨e, e1⟩ | ⟨e, e1, e2⟩
                        · subst e
                          first
                          | exact ⟨MR.up142 hR161, by rw [up_eq]; rfl⟩
                          | (exfalso; omega)
                        · obtain ⟨s1, rfl⟩ : ∃ s1, s = s1 + 1 := ⟨s - 1, by omega⟩
                          rw [Nat.add_sub_cancel] at e1 e2
                          rw [gmx_s]
                          first
                          | (exfalso; omega)
                          | (rw [if_pos (hlt e1)]; exact ⟨MR.up142 hR161, by rw [up_eq]⟩)
                          | (rw [if_neg (hnl e1)]; exact ⟨e1, e2⟩)
                      · first | exact (eF.m hF161).up (by unfold Sm; omega) | exact eF
                    · have hnl : ∀ {vv : Int}, MR g130 (t + i) vv → ¬ vv < (gT y p (gR y q p d) i) s := fun hv => by rw [hWU _ hv]; omega
                      refine wp_n 3 (pc' := 52) (L' := [(2, 127), (0, ((u : Nat) : Int)), (0, ((t : Nat) : Int)), (0, q), (0, p), (0, (((d + 1) : Nat) : Int)), (0, ((i : Nat) : Int)), (0, (((s : Nat) : Int) + 1)), (0, (((gw y i s) : Nat) : Int))]) (st' := []) (g' := g130) rfl ?_
                      refine wp_eq (ih52 (s + 1) (g130) ((0, (((gw y i s) : Nat) : Int))) ?_ ?_ ?_ ?_ ?_ ?_) (by first | rfl | (simp; done) | (simp; omega)) (by rfl) (by rfl)
                      · omega
                      · omega
                      · first | exact fun j hj => MR.up142 ((eV j hj).fr hF161 (by omega)) | exact eV
                      · first
                        | (intro j hj
                           have k := eN j hj
                           refine ⟨MR.up142 (k.1.fr hF161 (by omega)), ?_⟩
                           rw [up_nj (by omega), hF161 142 j (fun e => absurd e (by decide))]; exact k.2)
                        | exact eN
                      · right
                        rw [Nat.add_sub_cancel]
                        refine ⟨by omega, ?_⟩
                        rcases eO with ⟨e, e1⟩ | ⟨e, e1, e2⟩
                        · subst e
                          first
                          | exact ⟨MR.up142 hR161, by rw [up_eq]; rfl⟩
                          | (exfalso; omega)
                        · obtain ⟨s1, rfl⟩ : ∃ s1, s = s1 + 1 := ⟨s - 1, by omega⟩
                          rw [Nat.add_sub_cancel] at e1 e2
                          rw [gmx_s]
                          first
                          | (exfalso; omega)
                          | (rw [if_pos (hlt e1)]; exact ⟨MR.up142 hR161, by rw [up_eq]⟩)
                          | (rw [if_neg (hnl e1)]; exact ⟨e1, e2⟩)
                      · first | exact (eF.m hF161).up (by unfold Sm; omega) | exact eF
                · refine wp_n 1 (pc' := 78) (L' := [(2, 127), (0, ((u : Nat) : Int)), (0, ((t : Nat) : Int)), (0, q), (0, p), (0, (((d + 1) : Nat) : Int)), (0, ((i : Nat) : Int)), (0, ((s : Nat) : Int)), w8]) (st' := [(0, 40)]) (g' := f) rfl ?_
                  refine wp_eq (L' := [(2, 127), (0, ((u : Nat) : Int)), (0, ((t : Nat) : Int)), (0, q), (0, p), (0, (((d + 1) : Nat) : Int)), (0, ((i : Nat) : Int)), (0, ((s : Nat) : Int)), w8]) (st' := [(0, (((gw y i s) : Nat) : Int))]) (g' := f) ?_ (by rfl) (by rw [gw_f (by omega)]) (by rfl)
                  refine wp_n 5 (pc' := 99) (L' := [(2, 127), (0, ((u : Nat) : Int)), (0, ((t : Nat) : Int)), (0, q), (0, p), (0, (((d + 1) : Nat) : Int)), (0, ((i : Nat) : Int)), (0, ((s : Nat) : Int)), (0, (((gw y i s) : Nat) : Int))]) (st' := [(0, 0), (0, 124), (2, 127)]) (g' := f) rfl ?_
                  refine wp_cv (as := [(2, 127), (0, 124), (0, 0)]) (rest := []) rfl rfl rfl (Nat.le_of_ble_eq_true rfl) rfl (m_put (r := 124) (by omega) (by omega)) (by decide) (fun r21 h22 => ?_)
                  obtain ⟨g99, rfl, hR99, hF99⟩ := h22
                  refine wp_eq (L' := [(2, 127), (0, ((u : Nat) : Int)), (0, ((t : Nat) : Int)), (0, q), (0, p), (0, (((d + 1) : Nat) : Int)), (0, ((i : Nat) : Int)), (0, ((s : Nat) : Int)), (0, (((gw y i s) : Nat) : Int))]) (st' := []) (g' := g99) ?_
                  refine wp_n 5 (pc' := 109) (L' := [(2, 127), (0, ((u : Nat) : Int)), (0, ((t : Nat) : Int)), (0, q), (0, p), (0, (((d + 1) : Nat) : Int)), (0, ((i : Nat) : Int)), (0, ((s : Nat) : Int)), (0, (((gw y i s) : Nat) : Int))]) (st' := [(0, (((u : Nat) : Int) + (((gw y i s) : Nat) : Int))), (0, 124), (2, 127)]) (g' := g99) rfl ?_
                  refine wp_eq (L' := [(2, 127), (0, ((u : Nat) : Int)), (0, ((t : Nat) : Int)), (0, q), (0, p), (0, (((d + 1) : Nat) : Int)), (0, ((i : Nat) : Int)), (0, ((s : Nat) : Int)), (0, (((gw y i s) : Nat) : Int))]) (st' := [(0, (((u + gw y i s) : Nat) : Int)), (0, 124), (2, 127)]) (g' := g99) ?_ (by rfl) (by rfl) (by rfl)
                  refine wp_n 1 (pc' := 111) (L' := [(2, 127), (0, ((u : Nat) : Int)), (0, ((t : Nat) : Int)), (0, q), (0, p), (0, (((d + 1) : Nat) : Int)), (0, ((i : Nat) : Int)), (0, ((s : Nat) : Int)), (0, (((gw y i s) : Nat) : Int))]) (st' := [(0, p), (0, (((u + gw y i s) : Nat) : Int)), (0, 124), (2, 127)]) (g' := g99) rfl ?_
                  refine wp_cv (as := [(2, 127), (0, 124), (0, (((u + gw y i s) : Nat) : Int)), (0, p)]) (rest := []) rfl rfl rfl (Nat.le_of_ble_eq_true rfl) rfl (m_add (r := 124) (s := (u + gw y i s)) (by omega) (by omega) (by omega) hR99 ((kV _ (by omega)).fr hF99 (by omega)) (by omega) (by omega)) (by decide) (fun r23 h24 => ?_)
                  obtain ⟨g111, rfl, hR111, hF111⟩ := h24
                  refine wp_eq (L' := [(2, 127), (0, ((u : Nat) : Int)), (0, ((t : Nat) : Int)), (0, q), (0, p), (0, (((d + 1) : Nat) : Int)), (0, ((i : Nat) : Int)), (0, ((s : Nat) : Int)), (0, (((gw y i s) : Nat) : Int))]) (st' := []) (g' := g111) ?_
                  refine wp_n 7 (pc' := 124) (L' := [(2, 127), (0, ((u : Nat) : Int)), (0, ((t : Nat) : Int)), (0, q), (0, p), (0, (((d + 1) : Nat) : Int)), (0, ((i : Nat) : Int)), (0, ((s : Nat) : Int)), (0, (((gw y i s) : Nat) : Int))]) (st' := [(0, ((((u : Nat) : Int) + ((i : Nat) : Int)) - ((s : Nat) : Int))), (0, 124), (2, 127)]) (g' := g111) rfl ?_
                  refine wp_eq (L' := [(2, 127), (0, ((u : Nat) : Int)), (0, ((t : Nat) : Int)), (0, q), (0, p), (0, (((d + 1) : Nat) : Int)), (0, ((i : Nat) : Int)), (0, ((s : Nat) : Int)), (0, (((gw y i s) : Nat) : Int))]) (st' := [(0, (((u + (i - s)) : Nat) : Int)), (0, 124), (2, 127)]) (g' := g111) ?_ (by rfl) (by rw [show ((u : Nat) : Int) + ((i : Nat) : Int) - ((s : Nat) : Int) = ((u + (i - s) : Nat) : Int) by omega]) (by rfl)
                  refine wp_n 3 (pc' := 130) (L' := [(2, 127), (0, ((u : Nat) : Int)), (0, ((t : Nat) : Int)), (0, q), (0, p), (0, (((d + 1) : Nat) : Int)), (0, ((i : Nat) : Int)), (0, ((s : Nat) : Int)), (0, (((gw y i s) : Nat) : Int))]) (st' := [(0, (1000 - p)), (0, (((u + (i - s)) : Nat) : Int)), (0, 124), (2, 127)]) (g' := g111) rfl ?_
                  refine wp_cv (as := [(2, 127), (0, 124), (0, (((u + (i - s)) : Nat) : Int)), (0, (1000 - p))]) (rest := []) rfl rfl rfl (Nat.le_of_ble_eq_true rfl) rfl (m_add (r := 124) (s := (u + (i - s))) (by omega) (by omega) (by omega) hR111 (((kV _ (by omega)).fr hF99 (by omega)).fr hF111 (by omega)) (by omega) (by omega)) (by decide) (fun r25 h26 => ?_)
                  obtain ⟨g130, rfl, hR130, hF130⟩ := h26
                  rw [gT_c] at hR130
                  have fr3 {j : Nat} {v : Int} (hj : j ≠ 124) (H : MR f j v) : MR g130 j v := ((H.fr hF99 hj).fr hF111 hj).fr hF130 hj
                  have eV : ∀ j : Nat, j < 41 → MR g130 (u + j) (gR y q p d j) := fun j hj => fr3 (by omega) (kV j hj)
                  have e142 : ∀ j, g130 142 j = f 142 j := fun j => by rw [hF130 142 j (fun e => absurd e (by decide)), hF111 142 j (fun e => absurd e (by decide)), hF99 142 j (fun e => absurd e (by decide))]
                  have eN : ∀ j : Nat, j < i → MR g130 (t + j) (gR y q p (d + 1) j) ∧ g130 142 j = gF y q p j (d + 1) := fun j hj => ⟨fr3 (by omega) (kN j hj).1, by rw [e142]; exact (kN j hj).2⟩
                  have eO : (s = 0 ∧ MR g130 (t + i) 0) ∨ (1 ≤ s ∧ MR g130 (t + i) ((gT y p (gR y q p d) i) (gmx (gT y p (gR y q p d) i) (s - 1))) ∧ g130 142 i = ((gmx (gT y p (gR y q p d) i) (s - 1) : Nat) : Int)) := by
                    rcases kO with ⟨e, e1⟩ | ⟨e, e1, e2⟩
                    · exact Or.inl ⟨e, fr3 (by omega) e1⟩
                    · exact Or.inr ⟨e, fr3 (by omega) e1, by rw [e142]; exact e2⟩
                  have eF : FrN g g130 := ((kF.m hF99).m hF111).m hF130
                  have eW : ∃ ww, MR g130 (t + i) ww ∧ ∀ vv, MR g130 (t + i) vv → vv = ww := by
                    rcases eO with ⟨_, e1⟩ | ⟨_, e1, _⟩ <;> exact ⟨_, e1, fun vv hv => hv.uniq e1⟩
                  obtain ⟨ww, hWW, hWU⟩ := eW
                  refine wp_eq (L' := [(2, 127), (0, ((u : Nat) : Int)), (0, ((t : Nat) : Int)), (0, q), (0, p), (0, (((d + 1) : Nat) : Int)), (0, ((i : Nat) : Int)), (0, ((s : Nat) : Int)), (0, (((gw y i s) : Nat) : Int))]) (st' := []) (g' := g130) ?_
                  refine wp_n 1 (pc' := 135) (L' := [(2, 127), (0, ((u : Nat) : Int)), (0, ((t : Nat) : Int)), (0, q), (0, p), (0, (((d + 1) : Nat) : Int)), (0, ((i : Nat) : Int)), (0, ((s : Nat) : Int)), (0, (((gw y i s) : Nat) : Int))]) (st' := [(0, ((s : Nat) : Int))]) (g' := g130) rfl ?_
                  refine wp_if_le rfl (fun c27 => ?_) (fun c27 => ?_)
                  · refine wp_n 5 (pc' := 161) (L' := [(2, 127), (0, ((u : Nat) : Int)), (0, ((t : Nat) : Int)), (0, q), (0, p), (0, (((d + 1) : Nat) : Int)), (0, ((i : Nat) : Int)), (0, ((s : Nat) : Int)), (0, (((gw y i s) : Nat) : Int))]) (st' := [(0, (((t : Nat) : Int) + ((i : Nat) : Int))), (0, 124), (2, 127)]) (g' := g130) rfl ?_
                    refine wp_eq (L' := [(2, 127), (0, ((u : Nat) : Int)), (0, ((t : Nat) : Int)), (0, q), (0, p), (0, (((d + 1) : Nat) : Int)), (0, ((i : Nat) : Int)), (0, ((s : Nat) : Int)), (0, (((gw y i s) : Nat) : Int))]) (st' := [(0, (((t + i) : Nat) : Int)), (0, 124), (2, 127)]) (g' := g130) ?_ (by rfl) (by rfl) (by rfl)
                    refine wp_cv (as := [(2, 127), (0, 124), (0, (((t + i) : Nat) : Int))]) (rest := []) rfl rfl rfl (Nat.le_of_ble_eq_true rfl) rfl (m_lay (s := 124) (r := (t + i)) (by omega) (by omega) (by omega) hR130) (by decide) (fun r28 h29 => ?_)
                    obtain ⟨g161, rfl, hR161, hF161⟩ := h29
                    refine wp_eq (L' := [(2, 127), (0, ((u : Nat) : Int)), (0, ((t : Nat) : Int)), (0, q), (0, p), (0, (((d + 1) : Nat) : Int)), (0, ((i : Nat) : Int)), (0, ((s : Nat) : Int)), (0, (((gw y i s) : Nat) : Int))]) (st' := []) (g' := g161) ?_
                    refine wp_n 4 (pc' := 172) (L' := [(2, 127), (0, ((u : Nat) : Int)), (0, ((t : Nat) : Int)), (0, q), (0, p), (0, (((d + 1) : Nat) : Int)), (0, ((i : Nat) : Int)), (0, ((s : Nat) : Int)), (0, (((gw y i s) : Nat) : Int))]) (st' := [(0, ((s : Nat) : Int)), (0, ((i : Nat) : Int)), (2, 142)]) (g' := g161) rfl ?_
                    refine wp_iast (k := 142) (i) rfl rfl (by omega) (by omega) (by decide) ?_
                    refine wp_n 2 (pc' := 52) (L' := [(2, 127), (0, ((u : Nat) : Int)), (0, ((t : Nat) : Int)), (0, q), (0, p), (0, (((d + 1) : Nat) : Int)), (0, ((i : Nat) : Int)), (0, (((s : Nat) : Int) + 1)), (0, (((gw y i s) : Nat) : Int))]) (st' := []) (g' := (am_up g161 142 i ((s : Nat) : Int))) rfl ?_
                    refine wp_eq (ih52 (s + 1) ((am_up g161 142 i ((s : Nat) : Int))) ((0, (((gw y i s) : Nat) : Int))) ?_ ?_ ?_ ?_ ?_ ?_) (by first | rfl | (simp; done) | (simp; omega)) (by rfl) (by rfl)
                    · omega
                    · omega
                    · first | exact fun j hj => MR.up142 ((eV j hj).fr hF161 (by omega)) | exact eV
                    · first
                      | (intro j hj
                         have k := eN j hj
                         refine ⟨MR.up142 (k.1.fr hF161 (by omega)), ?_⟩
                         rw [up_nj (by omega), hF161 142 j (fun e => absurd e (by decide))]; exact k.2)
                      | exact eN
                    · right
                      rw [Nat.add_sub_cancel]
                      refine ⟨by omega, ?_⟩
                      rcases eO with ⟨e, e1⟩ | ⟨e, e1, e2⟩
                      · subst e
                        first
                        | exact ⟨MR.up142 hR161, by rw [up_eq]; rfl⟩
                        | (exfalso; omega)
                      · obtain ⟨s1, rfl⟩ : ∃ s1, s = s1 + 1 := ⟨s - 1, by omega⟩
                        rw [Nat.add_sub_cancel] at e1 e2
                        rw [gmx_s]
                        first
                        | (exfalso; omega)
                        | (rw [if_pos (hlt e1)]; exact ⟨MR.up142 hR161, by rw [up_eq]⟩)
                        | (rw [if_neg (hnl e1)]; exact ⟨e1, e2⟩)
                    · first | exact (eF.m hF161).up (by unfold Sm; omega) | exact eF
                  · refine wp_n 5 (pc' := 145) (L' := [(2, 127), (0, ((u : Nat) : Int)), (0, ((t : Nat) : Int)), (0, q), (0, p), (0, (((d + 1) : Nat) : Int)), (0, ((i : Nat) : Int)), (0, ((s : Nat) : Int)), (0, (((gw y i s) : Nat) : Int))]) (st' := [(0, (((t : Nat) : Int) + ((i : Nat) : Int))), (0, 124), (2, 127)]) (g' := g130) rfl ?_
                    refine wp_eq (L' := [(2, 127), (0, ((u : Nat) : Int)), (0, ((t : Nat) : Int)), (0, q), (0, p), (0, (((d + 1) : Nat) : Int)), (0, ((i : Nat) : Int)), (0, ((s : Nat) : Int)), (0, (((gw y i s) : Nat) : Int))]) (st' := [(0, (((t + i) : Nat) : Int)), (0, 124), (2, 127)]) (g' := g130) ?_ (by rfl) (by rfl) (by rfl)
                    refine wp_cv (as := [(2, 127), (0, 124), (0, (((t + i) : Nat) : Int))]) (rest := []) rfl rfl rfl (Nat.le_of_ble_eq_true rfl) rfl (m_compare (r := 124) (s := (t + i)) (by omega) (by omega) hR130 hWW) (by decide) (fun r30 h31 => ?_)
                    obtain ⟨c145, rfl, hc145⟩ := h31
                    refine wp_eq (L' := [(2, 127), (0, ((u : Nat) : Int)), (0, ((t : Nat) : Int)), (0, q), (0, p), (0, (((d + 1) : Nat) : Int)), (0, ((i : Nat) : Int)), (0, ((s : Nat) : Int)), (0, (((gw y i s) : Nat) : Int))]) (st' := [(0, c145)]) (g' := g130) ?_
                    refine wp_if_gt rfl (fun c32 => ?_) (fun c32 => ?_)
                    · have hlt : ∀ {vv : Int}, MR g130 (t + i) vv → vv < (gT y p (gR y q p d) i) s := fun hv => by rw [hWU _ hv]; omega
                      refine wp_n 5 (pc' := 161) (L' := [(2, 127), (0, ((u : Nat) : Int)), (0, ((t : Nat) : Int)), (0, q), (0, p), (0, (((d + 1) : Nat) : Int)), (0, ((i : Nat) : Int)), (0, ((s : Nat) : Int)), (0, (((gw y i s) : Nat) : Int))]) (st' := [(0, (((t : Nat) : Int) + ((i : Nat) : Int))), (0, 124), (2, 127)]) (g' := g130) rfl ?_
                      refine wp_eq (L' := [(2, 127), (0, ((u : Nat) : Int)), (0, ((t : Nat) : Int)), (0, q), (0, p), (0, (((d + 1) : Nat) : Int)), (0, ((i : Nat) : Int)), (0, ((s : Nat) : Int)), (0, (((gw y i s) : Nat) : Int))]) (st' := [(0, (((t + i) : Nat) : Int)), (0, 124), (2, 127)]) (g' := g130) ?_ (by rfl) (by rfl) (by rfl)
                      refine wp_cv (as := [(2, 127), (0, 124), (0, (((t + i) : Nat) : Int))]) (rest := []) rfl rfl rfl (Nat.le_of_ble_eq_true rfl) rfl (m_lay (s := 124) (r := (t + i)) (by omega) (by omega) (by omega) hR130) (by decide) (fun r33 h34 => ?_)
                      obtain ⟨g161, rfl, hR161, hF161⟩ := h34
                      refine wp_eq (L' := [(2, 127), (0, ((u : Nat) : Int)), (0, ((t : Nat) : Int)), (0, q), (0, p), (0, (((d + 1) : Nat) : Int)), (0, ((i : Nat) : Int)), (0, ((s : Nat) : Int)), (0, (((gw y i s) : Nat) : Int))]) (st' := []) (g' := g161) ?_
                      refine wp_n 4 (pc' := 172) (L' := [(2, 127), (0, ((u : Nat) : Int)), (0, ((t : Nat) : Int)), (0, q), (0, p), (0, (((d + 1) : Nat) : Int)), (0, ((i : Nat) : Int)), (0, ((s : Nat) : Int)), (0, (((gw y i s) : Nat) : Int))]) (st' := [(0, ((s : Nat) : Int)), (0, ((i : Nat) : Int)), (2, 142)]) (g' := g161) rfl ?_
                      refine wp_iast (k := 142) (i) rfl rfl (by omega) (by omega) (by decide) ?_
                      refine wp_n 2 (pc' := 52) (L' := [(2, 127), (0, ((u : Nat) : Int)), (0, ((t : Nat) : Int)), (0, q), (0, p), (0, (((d + 1) : Nat) : Int)), (0, ((i : Nat) : Int)), (0, (((s : Nat) : Int) + 1)), (0, (((gw y i s) : Nat) : Int))]) (st' := []) (g' := (am_up g161 142 i ((s : Nat) : Int))) rfl ?_
                      refine wp_eq (ih52 (s + 1) ((am_up g161 142 i ((s : Nat) : Int))) ((0, (((gw y i s) : Nat) : Int))) ?_ ?_ ?_ ?_ ?_ ?_) (by first | rfl | (simp; done) | (simp; omega)) (by rfl) (by rfl)
                      · omega
                      · omega
                      · first | exact fun j hj => MR.up142 ((eV j hj).fr hF161 (by omega)) | exact eV
                      · first
                        | (intro j hj
                           have k := eN j hj
                           refine ⟨MR.up142 (k.1.fr hF161 (by omega)), ?_⟩
                           rw [up_nj (by omega), hF161 142 j (fun e => absurd e (by decide))]; exact k.2)
                        | exact eN
                      · right
                        rw [Nat.add_sub_cancel]
                        refine ⟨by omega, ?_⟩
                        rcases eO with ⟨e, e1⟩ | ⟨e, e1, e2⟩
                        · subst e
                          first
                          | exact ⟨MR.up142 hR161, by rw [up_eq]; rfl⟩
                          | (exfalso; omega)
                        · obtain ⟨s1, rfl⟩ : ∃ s1, s = s1 + 1 := ⟨s - 1, by omega⟩
                          rw [Nat.add_sub_cancel] at e1 e2
                          rw [gmx_s]
                          first
                          | (exfalso; omega)
                          | (rw [if_pos (hlt e1)]; exact ⟨MR.up142 hR161, by rw [up_eq]⟩)
                          | (rw [if_neg (hnl e1)]; exact ⟨e1, e2⟩)
                      · first | exact (eF.m hF161).up (by unfold Sm; omega) | exact eF
                    · have hnl : ∀ {vv : Int}, MR g130 (t + i) vv → ¬ vv < (gT y p (gR y q p d) i) s := fun hv => by rw [hWU _ hv]; omega
                      refine wp_n 3 (pc' := 52) (L' := [(2, 127), (0, ((u : Nat) : Int)), (0, ((t : Nat) : Int)), (0, q), (0, p), (0, (((d + 1) : Nat) : Int)), (0, ((i : Nat) : Int)), (0, (((s : Nat) : Int) + 1)), (0, (((gw y i s) : Nat) : Int))]) (st' := []) (g' := g130) rfl ?_
                      refine wp_eq (ih52 (s + 1) (g130) ((0, (((gw y i s) : Nat) : Int))) ?_ ?_ ?_ ?_ ?_ ?_) (by first | rfl | (simp; done) | (simp; omega)) (by rfl) (by rfl)
                      · omega
                      · omega
                      · first | exact fun j hj => MR.up142 ((eV j hj).fr hF161 (by omega)) | exact eV
                      · first
                        | (intro j hj
                           have k := eN j hj
                           refine ⟨MR.up142 (k.1.fr hF161 (by omega)), ?_⟩
                           rw [up_nj (by omega), hF161 142 j (fun e => absurd e (by decide))]; exact k.2)
                        | exact eN
                      · right
                        rw [Nat.add_sub_cancel]
                        refine ⟨by omega, ?_⟩
                        rcases eO with ⟨e, e1⟩ | ⟨e, e1, e2⟩
                        · subst e
                          first
                          | exact ⟨MR.up142 hR161, by rw [up_eq]; rfl⟩
                          | (exfalso; omega)
                        · obtain ⟨s1, rfl⟩ : ∃ s1, s = s1 + 1 := ⟨s - 1, by omega⟩
                          rw [Nat.add_sub_cancel] at e1 e2
                          rw [gmx_s]
                          first
                          | (exfalso; omega)
                          | (rw [if_pos (hlt e1)]; exact ⟨MR.up142 hR161, by rw [up_eq]⟩)
                          | (rw [if_neg (hnl e1)]; exact ⟨e1, e2⟩)
                      · first | exact (eF.m hF161).up (by unfold Sm; omega) | exact eF
          refine wp_eq (L52 (_ + 1) (0) (g46) (w8) (Nat.lt_succ_self _) ?_ ?_ ?_ ?_ ?_) (by first | rfl | (simp; done) | (simp; omega)) (by rfl) (by rfl)
          · exact Nat.zero_le _
          · exact fun j hj => (MR.up142 (hV j hj)).fr hF46 (by omega)
          · intro j hj
            have k := hN j hj
            refine ⟨(MR.up142 k.1).fr hF46 (by omega), ?_⟩
            rw [hF46 142 j (fun e => absurd e (by decide)), up_nj (by omega)]; exact k.2
          · exact Or.inl ⟨rfl, hR46⟩
          · exact (hF.up (by unfold Sm; omega)).m hF46
        · refine wp_n 4 (pc' := 29) (L' := [(2, 127), (0, ((u : Nat) : Int)), (0, ((t : Nat) : Int)), (0, q), (0, p), (0, (((d + 1) : Nat) : Int)), (0, ((i : Nat) : Int)), w7, w8]) (st' := [(0, (((t : Nat) : Int) + ((i : Nat) : Int))), (2, 127)]) (g' := (am_up h 142 i 0)) rfl ?_
          refine wp_eq (L' := [(2, 127), (0, ((u : Nat) : Int)), (0, ((t : Nat) : Int)), (0, q), (0, p), (0, (((d + 1) : Nat) : Int)), (0, ((i : Nat) : Int)), w7, w8]) (st' := [(0, (((t + i) : Nat) : Int)), (2, 127)]) (g' := (am_up h 142 i 0)) ?_ (by rfl) (by rfl) (by rfl)
          refine wp_n 2 (pc' := 34) (L' := [(2, 127), (0, ((u : Nat) : Int)), (0, ((t : Nat) : Int)), (0, q), (0, p), (0, (((d + 1) : Nat) : Int)), (0, ((i : Nat) : Int)), w7, w8]) (st' := [(0, (((d + 1) : Nat) : Int)), (0, 1000), (0, (((t + i) : Nat) : Int)), (2, 127)]) (g' := (am_up h 142 i 0)) rfl ?_
          refine wp_cv (as := [(2, 127), (0, (((t + i) : Nat) : Int)), (0, 1000), (0, (((d + 1) : Nat) : Int))]) (rest := []) rfl rfl rfl (Nat.le_of_ble_eq_true rfl) rfl (m_power (r := (t + i)) (n := ((d + 1))) (by omega) (by omega) (by omega) (by omega)) (by decide) (fun r35 h36 => ?_)
          obtain ⟨g34, rfl, hR34, hF34⟩ := h36
          refine wp_eq (L' := [(2, 127), (0, ((u : Nat) : Int)), (0, ((t : Nat) : Int)), (0, q), (0, p), (0, (((d + 1) : Nat) : Int)), (0, ((i : Nat) : Int)), w7, w8]) (st' := []) (g' := g34) ?_
          refine wp_n 3 (pc' := 3) (L' := [(2, 127), (0, ((u : Nat) : Int)), (0, ((t : Nat) : Int)), (0, q), (0, p), (0, (((d + 1) : Nat) : Int)), (0, (((i : Nat) : Int) + 1)), w7, w8]) (st' := []) (g' := g34) rfl ?_
          refine wp_eq (ih3 (i + 1) (g34) (w7) (w8) ?_ ?_ ?_ ?_ ?_) (by first | rfl | (simp; done) | (simp; omega)) (by rfl) (by rfl)
          · omega
          · omega
          · first | exact kV | exact fun j hj => (MR.up142 (hV j hj)).fr hF34 (by omega)
          · first
            | (intro j hj
               by_cases e : j = i
               · subst e
                 refine ⟨by rw [gR_s, if_neg (by omega)]; exact hfin.1, by rw [gF_s, if_neg (by omega)]; exact hfin.2⟩
               · exact kN j (by omega))
            | (intro j hj
               by_cases e : j = i
               · subst e
                 refine ⟨by rw [gR_s, if_pos (by omega)]; exact hR34, ?_⟩
                 rw [hF34 142 j (fun e => absurd e (by decide)), up_eq, gF_s, if_pos (by omega)]
               · have k := hN j (by omega)
                 refine ⟨(MR.up142 k.1).fr hF34 (by omega), ?_⟩
                 rw [hF34 142 j (fun e => absurd e (by decide)), up_nj e]; exact k.2)
          · first | exact kF | exact (hF.up (by unfold Sm; omega)).m hF34
  refine wp_eq (L3 (_ + 1) (0) (g) ((9, 0)) ((9, 0)) (Nat.lt_succ_self _) ?_ ?_ ?_ ?_) (by first | rfl | (simp; done) | (simp; omega)) (by rfl) (by rfl)
  · exact Nat.zero_le _
  · exact hU
  · exact fun j hj => absurd hj (Nat.not_lt_zero _)
  · exact FrN.rfl
