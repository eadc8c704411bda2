/-! THE REFERENCE'S CONSTRUCTOR: its numbers -/
def z1 (f : Nat → Int) (j : Nat) : Int := if j = 6 then 10 else if j = 5 then 35 else if j = 1 then -1 else f j
def z2 (f : Nat → Int) (i j : Nat) : Int := if (20 ≤ j ∧ j < 20 + i) ∨ (170 ≤ j ∧ j < 170 + i) then 10 else f j
def z3 (f : Nat → Int) (i j : Nat) : Int := if 320 ≤ j ∧ j < 320 + 4 * i ∧ j % 4 = 0 then 10 else f j
def z4 (f : Nat → Int) (i j : Nat) : Int := if 1380 ≤ j ∧ j < 1380 + i then -1 else f j
def z9 (f : Nat → Int) : Nat → Int := z4 (z3 (z2 (z1 f) 148) 32) 12
set_option maxHeartbeats 400000 in
set_option maxRecDepth 20000 in
theorem m_new1 {sn : Nat} {sx : Nat → Int} {g : am_G} {n p : Int} : Wp sn sx 2 T149 169 [(2, 127), (0, n), (9, 0)] [(0, p), (2, 127)] (SH 0) g (fun r => ∃ g', r = (none, SH 0, g') ∧ g' 127 0 = p ∧ (∀ j, j ≠ 0 → g' 127 j = g 127 j) ∧ (∀ j, j < 1620 → g' 128 j = z9 (g 128) j) ∧ (∀ j, j < 1620 → g' 129 j = g' 128 j) ∧ ∀ c j, c ≠ 127 → c ≠ 128 → c ≠ 129 → g' c j = g c j) := by
  refine wp_n 5 (pc' := 178) (L' := [(2, 127), (0, n), (9, 0)]) (st' := [(0, (-1)), (0, 1), (2, 128)]) (g' := (am_up g 127 0 p)) rfl ?_
  refine wp_iast (k := 128) (1) rfl rfl (by omega) (by omega) (by decide) ?_
  refine wp_n 4 (pc' := 186) (L' := [(2, 127), (0, n), (9, 0)]) (st' := [(0, 35), (0, 5), (2, 128)]) (g' := (am_up (am_up g 127 0 p) 128 1 (-1))) rfl ?_
  refine wp_iast (k := 128) (5) rfl rfl (by omega) (by omega) (by decide) ?_
  refine wp_n 4 (pc' := 195) (L' := [(2, 127), (0, n), (9, 0)]) (st' := [(0, 10), (0, 6), (2, 128)]) (g' := (am_up (am_up (am_up g 127 0 p) 128 1 (-1)) 128 5 35)) rfl ?_
  refine wp_iast (k := 128) (6) rfl rfl (by omega) (by omega) (by decide) ?_
  refine wp_n 2 (pc' := 198) (L' := [(2, 127), (0, n), (0, 0)]) (st' := []) (g' := (am_up (am_up (am_up (am_up g 127 0 p) 128 1 (-1)) 128 5 35) 128 6 10)) rfl ?_
  have L198 : ∀ (lf : Nat) (i : Nat) (h2 : am_G), 148 - i < lf → (i ≤ 148) → (∀ j, h2 128 j = z2 (z1 (g 128)) i j) → (∀ c j, c ≠ 128 → h2 c j = (am_up g 127 0 p) c j) → Wp sn sx 2 T149 198 [(2, 127), (0, n), (0, ((i : Nat) : Int))] [] (SH 0) h2 (fun r => ∃ g', r = (none, SH 0, g') ∧ g' 127 0 = p ∧ (∀ j, j ≠ 0 → g' 127 j = g 127 j) ∧ (∀ j, j < 1620 → g' 128 j = z9 (g 128) j) ∧ (∀ j, j < 1620 → g' 129 j = g' 128 j) ∧ ∀ c j, c ≠ 127 → c ≠ 128 → c ≠ 129 → g' c j = g c j) := by
    intro lf
    induction lf with
    | zero => intro i h2 hlf; exact absurd hlf (Nat.not_lt_zero _)
    | succ lf ih198 =>
      intro i h2 hlf hi1 h8b hF2
      refine wp_n 2 (pc' := 202) (L' := [(2, 127), (0, n), (0, ((i : Nat) : Int))]) (st' := [(0, 148), (0, ((i : Nat) : Int))]) (g' := h2) rfl ?_
      refine wp_ic_ge rfl (fun c1 => ?_) (fun c1 => ?_)
      · have hi148 : i = 148 := by omega
        refine wp_n 2 (pc' := 236) (L' := [(2, 127), (0, n), (0, 0)]) (st' := []) (g' := h2) rfl ?_
        have L236 : ∀ (lf : Nat) (i2 : Nat) (h3 : am_G), 32 - i2 < lf → (i2 ≤ 32) → (∀ j, h3 128 j = z3 (z2 (z1 (g 128)) 148) i2 j) → (∀ c j, c ≠ 128 → h3 c j = (am_up g 127 0 p) c j) → Wp sn sx 2 T149 236 [(2, 127), (0, n), (0, ((i2 : Nat) : Int))] [] (SH 0) h3 (fun r => ∃ g', r = (none, SH 0, g') ∧ g' 127 0 = p ∧ (∀ j, j ≠ 0 → g' 127 j = g 127 j) ∧ (∀ j, j < 1620 → g' 128 j = z9 (g 128) j) ∧ (∀ j, j < 1620 → g' 129 j = g' 128 j) ∧ ∀ c j, c ≠ 127 → c ≠ 128 → c ≠ 129 → g' c j = g c j) := by
          intro lf
          induction lf with
          | zero => intro i2 h3 hlf; exact absurd hlf (Nat.not_lt_zero _)
          | succ lf ih236 =>
            intro i2 h3 hlf hi2 h8c hF3
            refine wp_n 2 (pc' := 239) (L' := [(2, 127), (0, n), (0, ((i2 : Nat) : Int))]) (st' := [(0, 32), (0, ((i2 : Nat) : Int))]) (g' := h3) rfl ?_
            refine wp_ic_ge rfl (fun c2 => ?_) (fun c2 => ?_)
            · have hi32 : i2 = 32 := by omega
              refine wp_n 2 (pc' := 264) (L' := [(2, 127), (0, n), (0, 0)]) (st' := []) (g' := h3) rfl ?_
              have L264 : ∀ (lf : Nat) (i3 : Nat) (h4 : am_G), 12 - i3 < lf → (i3 ≤ 12) → (∀ j, h4 128 j = z4 (z3 (z2 (z1 (g 128)) 148) 32) i3 j) → (∀ c j, c ≠ 128 → h4 c j = (am_up g 127 0 p) c j) → Wp sn sx 2 T149 264 [(2, 127), (0, n), (0, ((i3 : Nat) : Int))] [] (SH 0) h4 (fun r => ∃ g', r = (none, SH 0, g') ∧ g' 127 0 = p ∧ (∀ j, j ≠ 0 → g' 127 j = g 127 j) ∧ (∀ j, j < 1620 → g' 128 j = z9 (g 128) j) ∧ (∀ j, j < 1620 → g' 129 j = g' 128 j) ∧ ∀ c j, c ≠ 127 → c ≠ 128 → c ≠ 129 → g' c j = g c j) := by
                intro lf
                induction lf with
                | zero => intro i3 h4 hlf; exact absurd hlf (Nat.not_lt_zero _)
                | succ lf ih264 =>
                  intro i3 h4 hlf hi3 h8d hF4
                  refine wp_n 2 (pc' := 267) (L' := [(2, 127), (0, n), (0, ((i3 : Nat) : Int))]) (st' := [(0, 12), (0, ((i3 : Nat) : Int))]) (g' := h4) rfl ?_
                  refine wp_ic_ge rfl (fun c3 => ?_) (fun c3 => ?_)
                  · have hi12 : i3 = 12 := by omega
                    refine wp_n 4 (pc' := 295) (L' := [(2, 127), (0, n), (0, ((i3 : Nat) : Int))]) (st' := [(2, 129), (2, 128)]) (g' := h4) rfl ?_
                    refine wp_cs (as := [(2, 128), (2, 129)]) (rest := []) rfl (by decide) rfl (Nat.le_of_ble_eq_true rfl) (m_copy1 (b := 0)) (by decide) (fun r4 h5 => ?_)
                    obtain ⟨g295, rfl, hc295, h295⟩ := h5
                    refine wp_eq (L' := [(2, 127), (0, n), (0, ((i3 : Nat) : Int))]) (st' := []) (g' := g295) ?_
                    exact wp_ret rfl rfl rfl ⟨_, rfl, by rw [h295 127 0 (by decide), hF4 127 0 (by decide)]; exact up_eq, fun j hj => by rw [h295 127 j (by decide), hF4 127 j (by decide), up_nj hj], fun j hj => by rw [h295 128 j (by decide), h8d j, hi12]; rfl, fun j hj => by rw [hc295 j hj, h295 128 j (by decide)], fun c j q1 q2 q3 => by rw [h295 c j q3, hF4 c j q2, up_ne q1]⟩
                  · refine wp_n 6 (pc' := 280) (L' := [(2, 127), (0, n), (0, ((i3 : Nat) : Int))]) (st' := [(0, (-1)), (0, (1380 + ((i3 : Nat) : Int))), (2, 128)]) (g' := h4) rfl ?_
                    refine wp_iast (k := 128) ((1380 + i3)) rfl rfl (by omega) (by omega) (by decide) ?_
                    refine wp_n 2 (pc' := 264) (L' := [(2, 127), (0, n), (0, (((i3 : Nat) : Int) + 1))]) (st' := []) (g' := (am_up h4 128 ((1380 + i3)) (-1))) rfl ?_
                    refine wp_eq (ih264 (i3 + 1) ((am_up h4 128 ((1380 + i3)) (-1))) ?_ ?_ ?_ ?_) (by first | rfl | (simp; done) | (simp; omega)) (by rfl) (by rfl)
                    · omega
                    · omega
                    · intro j
                      unfold z4
                      by_cases e : j = 1380 + i3
                      · subst e; rw [up_eq, if_pos (by omega)]
                      · rw [up_nj e, h8d j]
                        unfold z4
                        by_cases e3 : 1380 ≤ j ∧ j < 1380 + i3
                        · rw [if_pos e3, if_pos (by omega)]
                        · rw [if_neg e3, if_neg (by omega)]
                    · exact fun c j q => (up_ne q).trans (hF4 c j q)
              refine wp_eq (L264 (_ + 1) (0) (h3) (Nat.lt_succ_self _) ?_ ?_ ?_) (by first | rfl | (simp; done) | (simp; omega)) (by rfl) (by rfl)
              · exact Nat.zero_le _
              · intro j
                unfold z4
                rw [if_neg (by omega), h8c j, hi32]
              · exact hF3
            · refine wp_n 8 (pc' := 255) (L' := [(2, 127), (0, n), (0, ((i2 : Nat) : Int))]) (st' := [(0, 10), (0, (320 + (4 * ((i2 : Nat) : Int)))), (2, 128)]) (g' := h3) rfl ?_
              refine wp_iast (k := 128) ((320 + 4 * i2)) rfl rfl (by omega) (by omega) (by decide) ?_
              refine wp_n 2 (pc' := 236) (L' := [(2, 127), (0, n), (0, (((i2 : Nat) : Int) + 1))]) (st' := []) (g' := (am_up h3 128 ((320 + 4 * i2)) 10)) rfl ?_
              refine wp_eq (ih236 (i2 + 1) ((am_up h3 128 ((320 + 4 * i2)) 10)) ?_ ?_ ?_ ?_) (by first | rfl | (simp; done) | (simp; omega)) (by rfl) (by rfl)
              · omega
              · omega
              · intro j
                unfold z3
                by_cases e : j = 320 + 4 * i2
                · subst e; rw [up_eq, if_pos (by omega)]
                · rw [up_nj e, h8c j]
                  unfold z3
                  by_cases e3 : 320 ≤ j ∧ j < 320 + 4 * i2 ∧ j % 4 = 0
                  · rw [if_pos e3, if_pos (by omega)]
                  · rw [if_neg e3, if_neg (by omega)]
              · exact fun c j q => (up_ne q).trans (hF3 c j q)
        refine wp_eq (L236 (_ + 1) (0) (h2) (Nat.lt_succ_self _) ?_ ?_ ?_) (by first | rfl | (simp; done) | (simp; omega)) (by rfl) (by rfl)
        · exact Nat.zero_le _
        · intro j
          unfold z3
          rw [if_neg (by omega), h8b j, hi148]
        · exact hF2
      · refine wp_n 6 (pc' := 215) (L' := [(2, 127), (0, n), (0, ((i : Nat) : Int))]) (st' := [(0, 10), (0, (20 + ((i : Nat) : Int))), (2, 128)]) (g' := h2) rfl ?_
        refine wp_iast (k := 128) ((20 + i)) rfl rfl (by omega) (by omega) (by decide) ?_
        refine wp_n 6 (pc' := 227) (L' := [(2, 127), (0, n), (0, ((i : Nat) : Int))]) (st' := [(0, 10), (0, (170 + ((i : Nat) : Int))), (2, 128)]) (g' := (am_up h2 128 ((20 + i)) 10)) rfl ?_
        refine wp_iast (k := 128) ((170 + i)) rfl rfl (by omega) (by omega) (by decide) ?_
        refine wp_n 2 (pc' := 198) (L' := [(2, 127), (0, n), (0, (((i : Nat) : Int) + 1))]) (st' := []) (g' := (am_up (am_up h2 128 ((20 + i)) 10) 128 ((170 + i)) 10)) rfl ?_
        refine wp_eq (ih198 (i + 1) ((am_up (am_up h2 128 ((20 + i)) 10) 128 ((170 + i)) 10)) ?_ ?_ ?_ ?_) (by first | rfl | (simp; done) | (simp; omega)) (by rfl) (by rfl)
        · omega
        · omega
        · intro j
          unfold z2
          by_cases e : j = 170 + i
          · subst e; rw [up_eq, if_pos (by omega)]
          · rw [up_nj e]
            by_cases e2 : j = 20 + i
            · subst e2; rw [up_eq, if_pos (by omega)]
            · rw [up_nj e2, h8b j]
              unfold z2
              by_cases e3 : (20 ≤ j ∧ j < 20 + i) ∨ (170 ≤ j ∧ j < 170 + i)
              · rw [if_pos e3, if_pos (by omega)]
              · rw [if_neg e3, if_neg (by omega)]
        · exact fun c j q => (up_ne q).trans ((up_ne q).trans (hF2 c j q))
  refine wp_eq (L198 (_ + 1) (0) ((am_up (am_up (am_up (am_up g 127 0 p) 128 1 (-1)) 128 5 35) 128 6 10)) (Nat.lt_succ_self _) ?_ ?_ ?_) (by first | rfl | (simp; done) | (simp; omega)) (by rfl) (by rfl)
  · exact Nat.zero_le _
  · intro j
    unfold z2 z1
    rw [if_neg (by omega)]
    by_cases e6 : j = 6
    · subst e6; rfl
    · by_cases e5 : j = 5
      · subst e5; rfl
      · by_cases e1 : j = 1
        · subst e1; rfl
        · rw [if_neg e6, if_neg e5, if_neg e1, up_nj e6, up_nj e5, up_nj e1]; rfl
  · exact fun c j q => (up_ne q).trans ((up_ne q).trans (up_ne q))
theorem m_new {sn : Nat} {sx : Nat → Int} {g : am_G} {n : Int} (hn : R32 n) : Ev sn sx 3 149 [(2, 127), (0, n)] Zs253 g (fun r => ∃ g', r = (none, SH 0, g') ∧ g' 127 0 = clP n ∧ (∀ j, j ≠ 0 → g' 127 j = Gm0 g 127 j) ∧ (∀ j, j < 1620 → g' 128 j = z9 (Gm0 g 128) j) ∧ (∀ j, j < 1620 → g' 129 j = g' 128 j) ∧ ∀ c j, c ≠ 127 → c ≠ 128 → c ≠ 129 → g' c j = Gm0 g c j) := by
  have hn1 : -2147483648 ≤ n ∧ n < 2147483648 := hn
  refine ev_of (K := 2) T149 (by decide) rfl rfl (Nat.le_of_ble_eq_true rfl) ?_
  refine m_new0 ?_
  refine wp_n 3 (pc' := 150) (L' := [(2, 127), (0, n), (9, 0)]) (st' := [(0, 5), (0, n), (2, 127)]) (g' := Gm0 g) rfl ?_
  refine wp_ic_ge rfl (fun c1 => ?_) (fun c1 => ?_)
  · refine wp_n 2 (pc' := 160) (L' := [(2, 127), (0, n), (9, 0)]) (st' := [(0, 37), (0, n), (2, 127)]) (g' := Gm0 g) rfl ?_
    refine wp_ic_le rfl (fun c2 => ?_) (fun c2 => ?_)
    · refine wp_n 1 (pc' := 169) (L' := [(2, 127), (0, n), (9, 0)]) (st' := [(0, n), (2, 127)]) (g' := Gm0 g) rfl ?_
      rw [show clP n = n by unfold clP; split <;> split <;> omega]
      exact m_new1
    · refine wp_n 2 (pc' := 169) (L' := [(2, 127), (0, n), (9, 0)]) (st' := [(0, 37), (2, 127)]) (g' := Gm0 g) rfl ?_
      rw [show clP n = 37 by unfold clP; split <;> split <;> omega]
      exact m_new1
  · refine wp_n 2 (pc' := 169) (L' := [(2, 127), (0, n), (9, 0)]) (st' := [(0, 5), (2, 127)]) (g' := Gm0 g) rfl ?_
    rw [show clP n = 5 by unfold clP; split <;> split <;> omega]
    exact m_new1
