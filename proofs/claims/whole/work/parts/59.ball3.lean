/-! A DROP: the reference; drop on both sides -/
def RollM (c g' : am_G) (P w : Nat) (p s d u : Int) : Prop := g' 127 24 = rOff c P w p s ∧ g' 127 25 = rStud c P w p s ∧ g' 127 26 = rPkt c P w p s d u
theorem mul_ite0 {a A : Int} {i j : Nat} : a * (if i = j then A else 0) = if i = j then a * A else 0 := by
  split
  · rfl
  · exact Int.mul_zero a
set_option maxHeartbeats 400000 in
set_option maxRecDepth 20000 in
theorem m_ring {sn : Nat} {sx : Nat → Int} {b : Nat} {g : am_G} {P : Nat} {x : Int} (hx : R32 x) (hP : g 127 0 = (P : Int)) (h5 : 5 ≤ P ∧ P ≤ 37) : Ev sn sx 1 192 [(2, 127), (0, x)] (SH b) g (fun r => r = (some (0, x % (8 * (P : Int))), SH b, g)) := by
  have hm := tmod_em (x := x) (y := 8 * (P : Int)) (by omega) rfl
  obtain ⟨m, hmm⟩ : ∃ m, Int.tmod x (8 * (P : Int)) = m := ⟨_, rfl⟩
  rw [hmm] at hm
  refine ev_of (K := 0) T192 (by decide) rfl rfl (Nat.le_of_ble_eq_true rfl) ?_
  refine wp_eq (L' := [(2, 127), (0, x), (9, 0)]) (st' := []) (g' := g) ?_
  refine wp_n 4 (pc' := 7) (L' := [(2, 127), (0, x), (9, 0)]) (st' := [(0, (g 127 0)), (0, 8), (0, x)]) (g' := g) rfl ?_
  refine wp_eq (L' := [(2, 127), (0, x), (9, 0)]) (st' := [(0, ((P : Nat) : Int)), (0, 8), (0, x)]) (g' := g) ?_ (by rfl) (by rw [hP]) (by rfl)
  refine wp_n 1 (pc' := 8) (L' := [(2, 127), (0, x), (9, 0)]) (st' := [(0, (8 * ((P : Nat) : Int))), (0, x)]) (g' := g) rfl ?_
  refine wp_irem rfl (by omega) (by omega) (by omega) ?_
  refine wp_eq (L' := [(2, 127), (0, x), (9, 0)]) (st' := [(0, m)]) (g' := g) ?_ (by rfl) (by rw [hmm]) (by rfl)
  refine wp_n 2 (pc' := 11) (L' := [(2, 127), (0, x), (0, m)]) (st' := [(0, m)]) (g' := g) rfl ?_
  refine wp_if_ge rfl (fun c1 => ?_) (fun c1 => ?_)
  · refine wp_n 1 (pc' := 27) (L' := [(2, 127), (0, x), (0, m)]) (st' := [(0, m)]) (g' := g) rfl ?_
    exact wp_ret rfl rfl rfl (by by_cases h0 : 0 ≤ x
                                 · rw [(hm.1 h0).1]
                                 · rcases hm.2 (by omega) with e | e; rw [e.1, e.2]; exact absurd e.2.1 (by omega))
  · refine wp_n 4 (pc' := 21) (L' := [(2, 127), (0, x), (0, m)]) (st' := [(0, (g 127 0)), (0, 8), (0, m)]) (g' := g) rfl ?_
    refine wp_eq (L' := [(2, 127), (0, x), (0, m)]) (st' := [(0, ((P : Nat) : Int)), (0, 8), (0, m)]) (g' := g) ?_ (by rfl) (by rw [hP]) (by rfl)
    refine wp_n 3 (pc' := 27) (L' := [(2, 127), (0, x), (0, m)]) (st' := [(0, (m + (8 * ((P : Nat) : Int))))]) (g' := g) rfl ?_
    exact wp_ret rfl rfl rfl (by by_cases h0 : 0 ≤ x
                                 · exact absurd (hm.1 h0).2.1 (by omega)
                                 · rcases hm.2 (by omega) with e | e; exact absurd e.1 (by omega); rw [e.2.2])
set_option maxHeartbeats 400000 in
set_option maxRecDepth 20000 in
theorem m_roll {sn : Nat} {sx : Nat → Int} {b : Nat} {g : am_G} {c : am_G} {P w : Nat} {p s d u : Int} (hI : CInv P c) (hM : MRel c g) (hw : w < 4) (hp : 0 ≤ p ∧ p ≤ 10000) (hs : 0 ≤ s ∧ s ≤ 999) (hd : -10000 ≤ d ∧ d ≤ 10000) (hu : 0 ≤ u ∧ u ≤ 99) : Ev sn sx 4 193 [(2, 127), (0, ((w : Nat) : Int)), (0, p), (0, s), (0, d), (0, u)] (SH b) g (fun r => ∃ g', r = (none, SH b, g') ∧ RollM c g' P w p s d u ∧ FrN g g' ∧ g' 135 = g 135) := by
  have h5 := hI.ck.1
  have hP : g 127 0 = (P : Int) := hM.n.trans hI.ck.2.1
  have htl := hI.rg.r5_3 w hw
  have hlaw := hI.tx.law
  have hn0 := hI.tx.n0
  have hp0 := Int.emod_nonneg p (show 8 * (P : Int) ≠ 0 by omega)
  have hp1 := Int.emod_lt_of_pos p (show (0 : Int) < 8 * (P : Int) by omega)
  refine ev_of (K := 3) T193 (by decide) rfl rfl (Nat.le_of_ble_eq_true rfl) ?_
  refine wp_eq (L' := [(2, 127), (0, ((w : Nat) : Int)), (0, p), (0, s), (0, d), (0, u), (9, 0), (9, 0), (9, 0), (9, 0), (9, 0)]) (st' := []) (g' := g) ?_
  refine wp_n 2 (pc' := 2) (L' := [(2, 127), (0, ((w : Nat) : Int)), (0, p), (0, s), (0, d), (0, u), (9, 0), (9, 0), (9, 0), (9, 0), (9, 0)]) (st' := [(0, p), (2, 127)]) (g' := g) rfl ?_
  refine wp_cv (as := [(2, 127), (0, p)]) (rest := []) rfl rfl rfl (Nat.le_of_ble_eq_true rfl) rfl (m_ring (P := P) (by omega) (by assumption) h5) (by decide) (fun r1 h2 => ?_)
  obtain rfl := h2
  refine wp_eq (L' := [(2, 127), (0, ((w : Nat) : Int)), (0, p), (0, s), (0, d), (0, u), (9, 0), (9, 0), (9, 0), (9, 0), (9, 0)]) (st' := [(0, (p % (8 * ((P : Nat) : Int))))]) (g' := g) ?_
  refine wp_n 15 (pc' := 30) (L' := [(2, 127), (0, ((w : Nat) : Int)), (0, p), (0, s), (0, d), (0, u), (0, (p % (8 * ((P : Nat) : Int)))), (0, s), (0, 0), (0, 0), (9, 0)]) (st' := [(0, (450 + ((w : Nat) : Int))), (2, 128), (0, 3), (2, 133)]) (g' := g) rfl ?_
  refine wp_iald (k := 128) ((450 + w)) rfl rfl (by omega) (by omega) (by decide) ?_
  refine wp_eq (L' := [(2, 127), (0, ((w : Nat) : Int)), (0, p), (0, s), (0, d), (0, u), (0, (p % (8 * ((P : Nat) : Int)))), (0, s), (0, 0), (0, 0), (9, 0)]) (st' := [(0, (c 5 w)), (0, 3), (2, 133)]) (g' := g) ?_ (by rfl) (by rw [hM.tilt _ hw]) (by rfl)
  refine wp_iast (k := 133) (3) rfl rfl (by omega) (by omega) (by decide) ?_
  have L32 : ∀ (lf : Nat) (n : Nat) (q v f : Int) (h : am_G) (w10 : am_V), 2 * n + (1 - f.toNat) < lf → (n ≤ 600) → (0 ≤ q ∧ q < 8 * (P : Int)) → (-998 ≤ v ∧ v ≤ 999) → ((f = 0 ∧ rollF c P (c 5 w) n q v (600 - (n : Int)) = rollF c P (c 5 w) 600 (p % (8 * (P : Int))) s 0) ∨ (f = 1 ∧ rollF c P (c 5 w) 600 (p % (8 * (P : Int))) s 0 = (q, 600 - (n : Int)))) → (h 133 3 = c 5 w) → (FrN g h) → (h 135 = g 135) → Wp sn sx 3 T193 32 [(2, 127), (0, ((w : Nat) : Int)), (0, p), (0, s), (0, d), (0, u), (0, q), (0, v), (0, (600 - (n : Int))), (0, f), w10] [] (SH b) h (fun r => ∃ g', r = (none, SH b, g') ∧ RollM c g' P w p s d u ∧ FrN g g' ∧ g' 135 = g 135) := by
    intro lf
    induction lf with
    | zero => intro n q v f h w10 hlf; exact absurd hlf (Nat.not_lt_zero _)
    | succ lf ih32 =>
      intro n q v f h w10 hlf hn hq hv hf h503 hF hO
      refine wp_n 1 (pc' := 34) (L' := [(2, 127), (0, ((w : Nat) : Int)), (0, p), (0, s), (0, d), (0, u), (0, q), (0, v), (0, (600 - (n : Int))), (0, f), w10]) (st' := [(0, f)]) (g' := h) rfl ?_
      refine wp_if_ne rfl (fun c3 => ?_) (fun c3 => ?_)
      · have hrl : rollF c P (c 5 w) 600 (p % (8 * (P : Int))) s 0 = (q, 600 - (n : Int)) := by rcases hf with e | e; exact absurd e.1 (by omega); exact e.2
        have hQ0 := Int.ediv_nonneg hq.1 (show (0 : Int) ≤ (P : Int) by omega)
        have hQ1 := Int.ediv_le_self (P : Int) hq.1
        have hut1 : 0 ≤ u * (600 - (n : Int)) := Int.mul_nonneg hu.1 (show 0 ≤ 600 - (n : Int) by omega)
        have hut2 : u * (600 - (n : Int)) ≤ 99 * 600 := Int.mul_le_mul hu.2 (show 600 - (n : Int) ≤ 600 by omega) (show 0 ≤ 600 - (n : Int) by omega) (by decide)
        have hS0 := Int.emod_nonneg (q / (P : Int) + 1) (show (8 : Int) ≠ 0 by decide)
        have hS1 := Int.emod_lt_of_pos (q / (P : Int) + 1) (show (0 : Int) < 8 by decide)
        have hSP1 : 0 ≤ (q / (P : Int) + 1) % 8 * (P : Int) := Int.mul_nonneg hS0 (by omega)
        have hSP2 : (q / (P : Int) + 1) % 8 * (P : Int) ≤ 7 * 37 := Int.mul_le_mul (by omega) (by omega) (by omega) (by decide)
        have hX0 := Int.emod_nonneg (d - u * (600 - (n : Int))) (show 8 * (P : Int) ≠ 0 by omega)
        have hX1 := Int.emod_lt_of_pos (d - u * (600 - (n : Int))) (show (0 : Int) < 8 * (P : Int) by omega)
        have hY0 := Int.emod_nonneg ((q / (P : Int) + 1) % 8 * (P : Int) - (d - u * (600 - (n : Int))) % (8 * (P : Int))) (show 8 * (P : Int) ≠ 0 by omega)
        have hY1 := Int.emod_lt_of_pos ((q / (P : Int) + 1) % 8 * (P : Int) - (d - u * (600 - (n : Int))) % (8 * (P : Int))) (show (0 : Int) < 8 * (P : Int) by omega)
        have hO_ : rOff c P w p s = 600 - (n : Int) := by unfold rOff; rw [hrl]
        have hSt : rStud c P w p s = (q / (P : Int) + 1) % 8 := by unfold rStud; rw [hrl]
        have hPk : rPkt c P w p s d u = ((q / (P : Int) + 1) % 8 * (P : Int) - (d - u * (600 - (n : Int))) % (8 * (P : Int))) % (8 * (P : Int)) / 8 := by unfold rPkt; rw [hSt, hO_]
        refine wp_n 7 (pc' := 193) (L' := [(2, 127), (0, ((w : Nat) : Int)), (0, p), (0, s), (0, d), (0, u), (0, q), (0, v), (0, (600 - (n : Int))), (0, f), w10]) (st' := [(0, (h 127 0)), (0, q), (2, 127)]) (g' := (am_up h 127 24 (600 - (n : Int)))) rfl ?_
        refine wp_eq (L' := [(2, 127), (0, ((w : Nat) : Int)), (0, p), (0, s), (0, d), (0, u), (0, q), (0, v), (0, (600 - (n : Int))), (0, f), w10]) (st' := [(0, ((P : Nat) : Int)), (0, q), (2, 127)]) (g' := (am_up h 127 24 (600 - (n : Int)))) ?_ (by rfl) (by rw [hF _ _ (by unfold Sm; omega), hP]) (by rfl)
        refine wp_idiv rfl (by omega) (by omega) (by omega) ?_
        refine wp_eq (L' := [(2, 127), (0, ((w : Nat) : Int)), (0, p), (0, s), (0, d), (0, u), (0, q), (0, v), (0, (600 - (n : Int))), (0, f), w10]) (st' := [(0, (q / ((P : Nat) : Int))), (2, 127)]) (g' := (am_up h 127 24 (600 - (n : Int)))) ?_ (by rfl) (by rw [Int.tdiv_eq_ediv_of_nonneg hq.1]) (by rfl)
        refine wp_n 3 (pc' := 198) (L' := [(2, 127), (0, ((w : Nat) : Int)), (0, p), (0, s), (0, d), (0, u), (0, q), (0, v), (0, (600 - (n : Int))), (0, f), w10]) (st' := [(0, 8), (0, ((q / ((P : Nat) : Int)) + 1)), (2, 127)]) (g' := (am_up h 127 24 (600 - (n : Int)))) rfl ?_
        refine wp_irem rfl (by omega) (by omega) (by omega) ?_
        refine wp_eq (L' := [(2, 127), (0, ((w : Nat) : Int)), (0, p), (0, s), (0, d), (0, u), (0, q), (0, v), (0, (600 - (n : Int))), (0, f), w10]) (st' := [(0, (((q / ((P : Nat) : Int)) + 1) % 8)), (2, 127)]) (g' := (am_up h 127 24 (600 - (n : Int)))) ?_ (by rfl) (by rw [Int.tmod_eq_emod_of_nonneg (show 0 ≤ q / (P : Int) + 1 by omega)]) (by rfl)
        refine wp_n 7 (pc' := 212) (L' := [(2, 127), (0, ((w : Nat) : Int)), (0, p), (0, s), (0, d), (0, u), (0, q), (0, v), (0, (600 - (n : Int))), (0, f), w10]) (st' := [(0, (h 127 0)), (0, (((q / ((P : Nat) : Int)) + 1) % 8)), (2, 127), (2, 127)]) (g' := (am_up (am_up h 127 24 (600 - (n : Int))) 127 25 (((q / ((P : Nat) : Int)) + 1) % 8))) rfl ?_
        refine wp_eq (L' := [(2, 127), (0, ((w : Nat) : Int)), (0, p), (0, s), (0, d), (0, u), (0, q), (0, v), (0, (600 - (n : Int))), (0, f), w10]) (st' := [(0, ((P : Nat) : Int)), (0, (((q / ((P : Nat) : Int)) + 1) % 8)), (2, 127), (2, 127)]) (g' := (am_up (am_up h 127 24 (600 - (n : Int))) 127 25 (((q / ((P : Nat) : Int)) + 1) % 8))) ?_ (by rfl) (by rw [hF _ _ (by unfold Sm; omega), hP]) (by rfl)
        refine wp_n 7 (pc' := 222) (L' := [(2, 127), (0, ((w : Nat) : Int)), (0, p), (0, s), (0, d), (0, u), (0, q), (0, v), (0, (600 - (n : Int))), (0, f), w10]) (st' := [(0, (d - (u * (600 - (n : Int))))), (2, 127), (0, ((((q / ((P : Nat) : Int)) + 1) % 8) * ((P : Nat) : Int))), (2, 127), (2, 127)]) (g' := (am_up (am_up h 127 24 (600 - (n : Int))) 127 25 (((q / ((P : Nat) : Int)) + 1) % 8))) rfl ?_
        refine wp_cv (as := [(2, 127), (0, (d - (u * (600 - (n : Int)))))]) (rest := [(0, ((((q / ((P : Nat) : Int)) + 1) % 8) * ((P : Nat) : Int))), (2, 127), (2, 127)]) rfl rfl rfl (Nat.le_of_ble_eq_true rfl) rfl (m_ring (P := P) (by omega) (by rw [up_no (by omega), up_no (by omega), hF _ _ (by unfold Sm; omega)]; exact hP) h5) (by decide) (fun r4 h5 => ?_)
        obtain rfl := h5
        refine wp_eq (L' := [(2, 127), (0, ((w : Nat) : Int)), (0, p), (0, s), (0, d), (0, u), (0, q), (0, v), (0, (600 - (n : Int))), (0, f), w10]) (st' := [(0, ((d - (u * (600 - (n : Int)))) % (8 * ((P : Nat) : Int)))), (0, ((((q / ((P : Nat) : Int)) + 1) % 8) * ((P : Nat) : Int))), (2, 127), (2, 127)]) (g' := (am_up (am_up h 127 24 (600 - (n : Int))) 127 25 (((q / ((P : Nat) : Int)) + 1) % 8))) ?_
        refine wp_n 1 (pc' := 226) (L' := [(2, 127), (0, ((w : Nat) : Int)), (0, p), (0, s), (0, d), (0, u), (0, q), (0, v), (0, (600 - (n : Int))), (0, f), w10]) (st' := [(0, (((((q / ((P : Nat) : Int)) + 1) % 8) * ((P : Nat) : Int)) - ((d - (u * (600 - (n : Int)))) % (8 * ((P : Nat) : Int))))), (2, 127), (2, 127)]) (g' := (am_up (am_up h 127 24 (600 - (n : Int))) 127 25 (((q / ((P : Nat) : Int)) + 1) % 8))) rfl ?_
        refine wp_cv (as := [(2, 127), (0, (((((q / ((P : Nat) : Int)) + 1) % 8) * ((P : Nat) : Int)) - ((d - (u * (600 - (n : Int)))) % (8 * ((P : Nat) : Int)))))]) (rest := [(2, 127)]) rfl rfl rfl (Nat.le_of_ble_eq_true rfl) rfl (m_ring (P := P) (by omega) (by rw [up_no (by omega), up_no (by omega), hF _ _ (by unfold Sm; omega)]; exact hP) h5) (by decide) (fun r6 h7 => ?_)
        obtain rfl := h7
        refine wp_eq (L' := [(2, 127), (0, ((w : Nat) : Int)), (0, p), (0, s), (0, d), (0, u), (0, q), (0, v), (0, (600 - (n : Int))), (0, f), w10]) (st' := [(0, ((((((q / ((P : Nat) : Int)) + 1) % 8) * ((P : Nat) : Int)) - ((d - (u * (600 - (n : Int)))) % (8 * ((P : Nat) : Int)))) % (8 * ((P : Nat) : Int)))), (2, 127)]) (g' := (am_up (am_up h 127 24 (600 - (n : Int))) 127 25 (((q / ((P : Nat) : Int)) + 1) % 8))) ?_
        refine wp_n 1 (pc' := 231) (L' := [(2, 127), (0, ((w : Nat) : Int)), (0, p), (0, s), (0, d), (0, u), (0, q), (0, v), (0, (600 - (n : Int))), (0, f), w10]) (st' := [(0, 8), (0, ((((((q / ((P : Nat) : Int)) + 1) % 8) * ((P : Nat) : Int)) - ((d - (u * (600 - (n : Int)))) % (8 * ((P : Nat) : Int)))) % (8 * ((P : Nat) : Int)))), (2, 127)]) (g' := (am_up (am_up h 127 24 (600 - (n : Int))) 127 25 (((q / ((P : Nat) : Int)) + 1) % 8))) rfl ?_
        refine wp_idiv rfl (by omega) (by omega) (by omega) ?_
        refine wp_eq (L' := [(2, 127), (0, ((w : Nat) : Int)), (0, p), (0, s), (0, d), (0, u), (0, q), (0, v), (0, (600 - (n : Int))), (0, f), w10]) (st' := [(0, (((((((q / ((P : Nat) : Int)) + 1) % 8) * ((P : Nat) : Int)) - ((d - (u * (600 - (n : Int)))) % (8 * ((P : Nat) : Int)))) % (8 * ((P : Nat) : Int))) / 8)), (2, 127)]) (g' := (am_up (am_up h 127 24 (600 - (n : Int))) 127 25 (((q / ((P : Nat) : Int)) + 1) % 8))) ?_ (by rfl) (by rw [Int.tdiv_eq_ediv_of_nonneg (Int.emod_nonneg _ (by omega))]) (by rfl)
        refine wp_n 1 (pc' := 235) (L' := [(2, 127), (0, ((w : Nat) : Int)), (0, p), (0, s), (0, d), (0, u), (0, q), (0, v), (0, (600 - (n : Int))), (0, f), w10]) (st' := []) (g' := (am_up (am_up (am_up h 127 24 (600 - (n : Int))) 127 25 (((q / ((P : Nat) : Int)) + 1) % 8)) 127 26 (((((((q / ((P : Nat) : Int)) + 1) % 8) * ((P : Nat) : Int)) - ((d - (u * (600 - (n : Int)))) % (8 * ((P : Nat) : Int)))) % (8 * ((P : Nat) : Int))) / 8))) rfl ?_
        exact wp_ret rfl rfl rfl ⟨_, rfl, ⟨by rw [hO_, up_no (by omega), up_no (by omega), up_eq], by rw [hSt, up_no (by omega), up_eq], by rw [hPk, up_eq]⟩, ((hF.up (by unfold Sm; omega)).up (by unfold Sm; omega)).up (by unfold Sm; omega), (funext fun j => by rw [up_ne (by decide), up_ne (by decide), up_ne (by decide)] : _ = _).trans hO⟩
      · have hrl : rollF c P (c 5 w) n q v (600 - (n : Int)) = rollF c P (c 5 w) 600 (p % (8 * (P : Int))) s 0 := by rcases hf with e | e; exact e.2; exact absurd e.1 (by omega)
        have hNU : ((am_up (am_up (am_up (am_up h 133 0 v) 133 1 q) 133 2 (600 - (n : Int))) 133 4 (q / ((P : Nat) : Int))) 133 0 = v ∧ (am_up (am_up (am_up (am_up h 133 0 v) 133 1 q) 133 2 (600 - (n : Int))) 133 4 (q / ((P : Nat) : Int))) 133 1 = q ∧ (am_up (am_up (am_up (am_up h 133 0 v) 133 1 q) 133 2 (600 - (n : Int))) 133 4 (q / ((P : Nat) : Int))) 133 2 = 600 - (n : Int) ∧ (am_up (am_up (am_up (am_up h 133 0 v) 133 1 q) 133 2 (600 - (n : Int))) 133 4 (q / ((P : Nat) : Int))) 133 3 = c 5 w ∧ (am_up (am_up (am_up (am_up h 133 0 v) 133 1 q) 133 2 (600 - (n : Int))) 133 4 (q / ((P : Nat) : Int))) 133 4 = q / (P : Int)) := ⟨by rw [up_nj (by decide), up_nj (by decide), up_nj (by decide), up_eq], by rw [up_nj (by decide), up_nj (by decide), up_eq], by rw [up_nj (by decide), up_eq], by rw [up_nj (by decide), up_nj (by decide), up_nj (by decide), up_nj (by decide)]; exact h503, up_eq⟩
        have hFU : FrN g (am_up (am_up (am_up (am_up h 133 0 v) 133 1 q) 133 2 (600 - (n : Int))) 133 4 (q / ((P : Nat) : Int))) := (((hF.up (by unfold Sm; omega)).up (by unfold Sm; omega)).up (by unfold Sm; omega)).up (by unfold Sm; omega)
        have hOU : (am_up (am_up (am_up (am_up h 133 0 v) 133 1 q) 133 2 (600 - (n : Int))) 133 4 (q / ((P : Nat) : Int))) 135 = g 135 := (funext fun j => by rw [up_ne (by decide), up_ne (by decide), up_ne (by decide), up_ne (by decide)] : _ = _).trans hO
        have hMU : MRel c (am_up (am_up (am_up (am_up h 133 0 v) 133 1 q) 133 2 (600 - (n : Int))) 133 4 (q / ((P : Nat) : Int))) := hM.g_same hFU
        have hnb0 := nl_nb (k := 1) (by decide) hNU h5 (by unfold MB; omega) (by omega) (by unfold MB; omega) (by unfold MB; omega)
        have hnb1 := nl_nb (k := 0) (by decide) hNU h5 (by unfold MB; omega) (by omega) (by unfold MB; omega) (by unfold MB; omega)
        refine wp_n 4 (pc' := 44) (L' := [(2, 127), (0, ((w : Nat) : Int)), (0, p), (0, s), (0, d), (0, u), (0, q), (0, v), (0, (600 - (n : Int))), (0, f), w10]) (st' := [(0, v), (0, 0), (2, 133)]) (g' := h) rfl ?_
        refine wp_iast (k := 133) (0) rfl rfl (by omega) (by omega) (by decide) ?_
        refine wp_n 4 (pc' := 52) (L' := [(2, 127), (0, ((w : Nat) : Int)), (0, p), (0, s), (0, d), (0, u), (0, q), (0, v), (0, (600 - (n : Int))), (0, f), w10]) (st' := [(0, q), (0, 1), (2, 133)]) (g' := (am_up h 133 0 v)) rfl ?_
        refine wp_iast (k := 133) (1) rfl rfl (by omega) (by omega) (by decide) ?_
        refine wp_n 4 (pc' := 60) (L' := [(2, 127), (0, ((w : Nat) : Int)), (0, p), (0, s), (0, d), (0, u), (0, q), (0, v), (0, (600 - (n : Int))), (0, f), w10]) (st' := [(0, (600 - (n : Int))), (0, 2), (2, 133)]) (g' := (am_up (am_up h 133 0 v) 133 1 q)) rfl ?_
        refine wp_iast (k := 133) (2) rfl rfl (by omega) (by omega) (by decide) ?_
        refine wp_n 6 (pc' := 72) (L' := [(2, 127), (0, ((w : Nat) : Int)), (0, p), (0, s), (0, d), (0, u), (0, q), (0, v), (0, (600 - (n : Int))), (0, f), w10]) (st' := [(0, (h 127 0)), (0, q), (0, 4), (2, 133)]) (g' := (am_up (am_up (am_up h 133 0 v) 133 1 q) 133 2 (600 - (n : Int)))) rfl ?_
        refine wp_eq (L' := [(2, 127), (0, ((w : Nat) : Int)), (0, p), (0, s), (0, d), (0, u), (0, q), (0, v), (0, (600 - (n : Int))), (0, f), w10]) (st' := [(0, ((P : Nat) : Int)), (0, q), (0, 4), (2, 133)]) (g' := (am_up (am_up (am_up h 133 0 v) 133 1 q) 133 2 (600 - (n : Int)))) ?_ (by rfl) (by rw [hF _ _ (by unfold Sm; omega), hP]) (by rfl)
        refine wp_idiv rfl (by omega) (by omega) (by omega) ?_
        refine wp_eq (L' := [(2, 127), (0, ((w : Nat) : Int)), (0, p), (0, s), (0, d), (0, u), (0, q), (0, v), (0, (600 - (n : Int))), (0, f), w10]) (st' := [(0, (q / ((P : Nat) : Int))), (0, 4), (2, 133)]) (g' := (am_up (am_up (am_up h 133 0 v) 133 1 q) 133 2 (600 - (n : Int)))) ?_ (by rfl) (by rw [Int.tdiv_eq_ediv_of_nonneg hq.1]) (by rfl)
        refine wp_iast (k := 133) (4) rfl rfl (by omega) (by omega) (by decide) ?_
        refine wp_n 2 (pc' := 79) (L' := [(2, 127), (0, ((w : Nat) : Int)), (0, p), (0, s), (0, d), (0, u), (0, q), (0, v), (0, (600 - (n : Int))), (0, f), w10]) (st' := [(0, 600), (0, (600 - (n : Int)))]) (g' := (am_up (am_up (am_up (am_up h 133 0 v) 133 1 q) 133 2 (600 - (n : Int))) 133 4 (q / ((P : Nat) : Int)))) rfl ?_
        refine wp_ic_eq rfl (fun c8 => ?_) (fun c8 => ?_)
        · have hn00 : n = 0 := by omega
          refine wp_n 5 (pc' := 32) (L' := [(2, 127), (0, ((w : Nat) : Int)), (0, p), (0, s), (0, d), (0, u), (0, q), (0, v), (0, (600 - (n : Int))), (0, 1), w10]) (st' := []) (g' := (am_up (am_up (am_up (am_up h 133 0 v) 133 1 q) 133 2 (600 - (n : Int))) 133 4 (q / ((P : Nat) : Int)))) rfl ?_
          refine wp_eq (ih32 (n) (q) (v) (1) ((am_up (am_up (am_up (am_up h 133 0 v) 133 1 q) 133 2 (600 - (n : Int))) 133 4 (q / ((P : Nat) : Int)))) (w10) ?_ ?_ ?_ ?_ ?_ ?_ ?_ ?_) (by first | rfl | rw [hn1c]) (by rfl) (by rfl)
          · omega
          · omega
          · first | exact hq | exact ⟨Int.emod_nonneg _ (by omega), Int.emod_lt_of_pos _ (by omega)⟩
          · omega
          · first | exact Or.inr ⟨rfl, by rw [← hrl]; first | exact rollF_stop (Or.inl (by omega)) | exact rollF_stop (Or.inr (Or.inl (by omega))) | exact rollF_stop (Or.inr (Or.inr (by omega)))⟩ | exact Or.inl ⟨rfl, by rw [hn1c]; exact (rollF_go2 (n := n) (p := q) (v := v) (t := 600 - (n : Int)) (by omega) (by omega) (by omega)).symm.trans hrl⟩
          · first | exact hNU.2.2.2.1 | exact hN100.2.2.2.1 | exact hN127.2.2.2.1
          · first | exact hFU | exact hFU.trans (hE100.n (by decide)) | exact (hFU.trans (hE100.n (by decide))).trans (hE127.n (by decide))
          · first | exact hOU | exact (funext fun j => hE100 135 j (by decide) : _ = _).trans hOU | exact (funext fun j => (hE127 135 j (by decide)).trans (hE100 135 j (by decide)) : _ = _).trans hOU
        · have hnpos : 0 < n := by omega
          have hn1c : (600 : Int) - ((n - 1 : Nat) : Int) = 600 - (n : Int) + 1 := by omega
          refine wp_n 2 (pc' := 85) (L' := [(2, 127), (0, ((w : Nat) : Int)), (0, p), (0, s), (0, d), (0, u), (0, q), (0, v), (0, (600 - (n : Int))), (0, f), w10]) (st' := [(0, 1), (0, v)]) (g' := (am_up (am_up (am_up (am_up h 133 0 v) 133 1 q) 133 2 (600 - (n : Int))) 133 4 (q / ((P : Nat) : Int)))) rfl ?_
          refine wp_ic_lt rfl (fun c9 => ?_) (fun c9 => ?_)
          · refine wp_n 5 (pc' := 32) (L' := [(2, 127), (0, ((w : Nat) : Int)), (0, p), (0, s), (0, d), (0, u), (0, q), (0, v), (0, (600 - (n : Int))), (0, 1), w10]) (st' := []) (g' := (am_up (am_up (am_up (am_up h 133 0 v) 133 1 q) 133 2 (600 - (n : Int))) 133 4 (q / ((P : Nat) : Int)))) rfl ?_
            refine wp_eq (ih32 (n) (q) (v) (1) ((am_up (am_up (am_up (am_up h 133 0 v) 133 1 q) 133 2 (600 - (n : Int))) 133 4 (q / ((P : Nat) : Int)))) (w10) ?_ ?_ ?_ ?_ ?_ ?_ ?_ ?_) (by first | rfl | rw [hn1c]) (by rfl) (by rfl)
            · omega
            · omega
            · first | exact hq | exact ⟨Int.emod_nonneg _ (by omega), Int.emod_lt_of_pos _ (by omega)⟩
            · omega
            · first | exact Or.inr ⟨rfl, by rw [← hrl]; first | exact rollF_stop (Or.inl (by omega)) | exact rollF_stop (Or.inr (Or.inl (by omega))) | exact rollF_stop (Or.inr (Or.inr (by omega)))⟩ | exact Or.inl ⟨rfl, by rw [hn1c]; exact (rollF_go2 (n := n) (p := q) (v := v) (t := 600 - (n : Int)) (by omega) (by omega) (by omega)).symm.trans hrl⟩
            · first | exact hNU.2.2.2.1 | exact hN100.2.2.2.1 | exact hN127.2.2.2.1
            · first | exact hFU | exact hFU.trans (hE100.n (by decide)) | exact (hFU.trans (hE100.n (by decide))).trans (hE127.n (by decide))
            · first | exact hOU | exact (funext fun j => hE100 135 j (by decide) : _ = _).trans hOU | exact (funext fun j => (hE127 135 j (by decide)).trans (hE100 135 j (by decide)) : _ = _).trans hOU
          · refine wp_n 5 (pc' := 96) (L' := [(2, 127), (0, ((w : Nat) : Int)), (0, p), (0, s), (0, d), (0, u), (0, q), (0, v), (0, (600 - (n : Int))), (0, f), w10]) (st' := [(0, 1), (2, 128), (2, 127), (0, v)]) (g' := (am_up (am_up (am_up (am_up h 133 0 v) 133 1 q) 133 2 (600 - (n : Int))) 133 4 (q / ((P : Nat) : Int)))) rfl ?_
            refine wp_iald (k := 128) (1) rfl rfl (by omega) (by omega) (by decide) ?_
            refine wp_eq (L' := [(2, 127), (0, ((w : Nat) : Int)), (0, p), (0, s), (0, d), (0, u), (0, q), (0, v), (0, (600 - (n : Int))), (0, f), w10]) (st' := [(0, (c 6 4)), (2, 127), (0, v)]) (g' := (am_up (am_up (am_up (am_up h 133 0 v) 133 1 q) 133 2 (600 - (n : Int))) 133 4 (q / ((P : Nat) : Int)))) ?_ (by rfl) (by rw [hMU.law]) (by rfl)
            refine wp_n 2 (pc' := 100) (L' := [(2, 127), (0, ((w : Nat) : Int)), (0, p), (0, s), (0, d), (0, u), (0, q), (0, v), (0, (600 - (n : Int))), (0, f), w10]) (st' := [(0, 8), (0, 1), (0, (c 6 4)), (2, 127), (0, v)]) (g' := (am_up (am_up (am_up (am_up h 133 0 v) 133 1 q) 133 2 (600 - (n : Int))) 133 4 (q / ((P : Nat) : Int)))) rfl ?_
            refine wp_cv (as := [(2, 127), (0, (c 6 4)), (0, 1), (0, 8)]) (rest := [(0, v)]) rfl rfl rfl (Nat.le_of_ble_eq_true rfl) rfl (m_value (c := c) (k := 1) hI.tx hMU.tr hlaw (by decide) hnb0) (by decide) (fun r10 h11 => ?_)
            obtain ⟨g100, rfl, hE100⟩ := h11
            have hN100 : (g100 133 0 = v ∧ g100 133 1 = q ∧ g100 133 2 = 600 - (n : Int) ∧ g100 133 3 = c 5 w ∧ g100 133 4 = q / (P : Int)) := by rw [show g100 133 = (am_up (am_up (am_up (am_up h 133 0 v) 133 1 q) 133 2 (600 - (n : Int))) 133 4 (q / ((P : Nat) : Int))) 133 from funext fun j => hE100 133 j (by decide)]; exact hNU
            have hv100 := tv_go (c := c) (h := c) (P := P) (k := 1) (w := 8) hI.tx (by decide) (fun a j q1 q2 => rfl) hNU
            have hb100 := tv_in (g := c) (N := (am_up (am_up (am_up (am_up h 133 0 v) 133 1 q) 133 2 (600 - (n : Int))) 133 4 (q / ((P : Nat) : Int))) 133) (t := c 6 4) (k := 1) (w := 8) hI.tx hlaw (by decide) hnb0 (by decide)
            rw [hv100] at hb100
            unfold MB at hb100
            have hM100 := hMU.g_same (hE100.n (by decide))
            refine wp_eq (L' := [(2, 127), (0, ((w : Nat) : Int)), (0, p), (0, s), (0, d), (0, u), (0, q), (0, v), (0, (600 - (n : Int))), (0, f), w10]) (st' := [(0, (tv c ((am_up (am_up (am_up (am_up h 133 0 v) 133 1 q) 133 2 (600 - (n : Int))) 133 4 (q / ((P : Nat) : Int))) 133) (c 6 4) 1 8)), (0, v)]) (g' := g100) ?_
            refine wp_eq (L' := [(2, 127), (0, ((w : Nat) : Int)), (0, p), (0, s), (0, d), (0, u), (0, q), (0, v), (0, (600 - (n : Int))), (0, f), w10]) (st' := [(0, (tv c (NL P (c 5 w) v q (600 - (n : Int))) (c 6 4) 1 8)), (0, v)]) (g' := g100) ?_ (by rfl) (by rw [hv100]) (by rfl)
            refine wp_ic_gt rfl (fun c12 => ?_) (fun c12 => ?_)
            · refine wp_n 8 (pc' := 124) (L' := [(2, 127), (0, ((w : Nat) : Int)), (0, p), (0, s), (0, d), (0, u), (0, q), (0, v), (0, (600 - (n : Int))), (0, 0), w10]) (st' := [(0, 1), (2, 128), (2, 127)]) (g' := g100) rfl ?_
              refine wp_iald (k := 128) (1) rfl rfl (by omega) (by omega) (by decide) ?_
              refine wp_eq (L' := [(2, 127), (0, ((w : Nat) : Int)), (0, p), (0, s), (0, d), (0, u), (0, q), (0, v), (0, (600 - (n : Int))), (0, 0), w10]) (st' := [(0, (c 6 4)), (2, 127)]) (g' := g100) ?_ (by rfl) (by rw [hM100.law]) (by rfl)
              refine wp_n 2 (pc' := 127) (L' := [(2, 127), (0, ((w : Nat) : Int)), (0, p), (0, s), (0, d), (0, u), (0, q), (0, v), (0, (600 - (n : Int))), (0, 0), w10]) (st' := [(0, 1), (0, 0), (0, (c 6 4)), (2, 127)]) (g' := g100) rfl ?_
              refine wp_cv (as := [(2, 127), (0, (c 6 4)), (0, 0), (0, 1)]) (rest := []) rfl rfl rfl (Nat.le_of_ble_eq_true rfl) rfl (m_value (c := c) (k := 0) hI.tx hM100.tr hlaw (by decide) (by rw [show g100 133 = (am_up (am_up (am_up (am_up h 133 0 v) 133 1 q) 133 2 (600 - (n : Int))) 133 4 (q / ((P : Nat) : Int))) 133 from funext fun j => hE100 133 j (by decide)]; exact hnb1)) (by decide) (fun r13 h14 => ?_)
              obtain ⟨g127, rfl, hE127⟩ := h14
              have hN127 : (g127 133 0 = v ∧ g127 133 1 = q ∧ g127 133 2 = 600 - (n : Int) ∧ g127 133 3 = c 5 w ∧ g127 133 4 = q / (P : Int)) := by rw [show g127 133 = g100 133 from funext fun j => hE127 133 j (by decide)]; exact hN100
              have hv127 := tv_go (c := c) (h := c) (P := P) (k := 0) (w := 1) hI.tx (by decide) (fun a j q1 q2 => rfl) hN100
              have hb127 := tv_in (g := c) (N := g100 133) (t := c 6 4) (k := 0) (w := 1) hI.tx hlaw (by decide) (by rw [show g100 133 = (am_up (am_up (am_up (am_up h 133 0 v) 133 1 q) 133 2 (600 - (n : Int))) 133 4 (q / ((P : Nat) : Int))) 133 from funext fun j => hE100 133 j (by decide)]; exact hnb1) (by decide)
              rw [hv127] at hb127
              unfold MB at hb127
              have hP127 : g127 127 0 = (P : Int) := by rw [hE127 127 0 (by decide), hE100 127 0 (by decide), hFU 127 0 (by unfold Sm; omega)]; exact hP
              have hcl : 1 ≤ clL (tv c (NL P (c 5 w) v q (600 - (n : Int))) (c 6 4) 0 1) ∧ clL (tv c (NL P (c 5 w) v q (600 - (n : Int))) (c 6 4) 0 1) ≤ 999 := clL_in (tv c (NL P (c 5 w) v q (600 - (n : Int))) (c 6 4) 0 1)
              refine wp_eq (L' := [(2, 127), (0, ((w : Nat) : Int)), (0, p), (0, s), (0, d), (0, u), (0, q), (0, v), (0, (600 - (n : Int))), (0, 0), w10]) (st' := [(0, (tv c (g100 133) (c 6 4) 0 1))]) (g' := g127) ?_
              refine wp_eq (L' := [(2, 127), (0, ((w : Nat) : Int)), (0, p), (0, s), (0, d), (0, u), (0, q), (0, v), (0, (600 - (n : Int))), (0, 0), w10]) (st' := [(0, (tv c (NL P (c 5 w) v q (600 - (n : Int))) (c 6 4) 0 1))]) (g' := g127) ?_ (by rfl) (by rw [hv127]) (by rfl)
              refine wp_n 5 (pc' := 138) (L' := [(2, 127), (0, ((w : Nat) : Int)), (0, p), (0, s), (0, d), (0, u), (0, q), (0, v), (0, (600 - (n : Int))), (0, 0), (0, (tv c (NL P (c 5 w) v q (600 - (n : Int))) (c 6 4) 0 1))]) (st' := [(0, (q + v)), (2, 127)]) (g' := g127) rfl ?_
              refine wp_cv (as := [(2, 127), (0, (q + v))]) (rest := []) rfl rfl rfl (Nat.le_of_ble_eq_true rfl) rfl (m_ring (P := P) (by omega) hP127 h5) (by decide) (fun r15 h16 => ?_)
              obtain rfl := h16
              refine wp_eq (L' := [(2, 127), (0, ((w : Nat) : Int)), (0, p), (0, s), (0, d), (0, u), (0, q), (0, v), (0, (600 - (n : Int))), (0, 0), (0, (tv c (NL P (c 5 w) v q (600 - (n : Int))) (c 6 4) 0 1))]) (st' := [(0, ((q + v) % (8 * ((P : Nat) : Int))))]) (g' := g127) ?_
              refine wp_n 4 (pc' := 148) (L' := [(2, 127), (0, ((w : Nat) : Int)), (0, p), (0, s), (0, d), (0, u), (0, ((q + v) % (8 * ((P : Nat) : Int)))), (0, v), (0, (600 - (n : Int))), (0, 0), (0, (tv c (NL P (c 5 w) v q (600 - (n : Int))) (c 6 4) 0 1))]) (st' := [(0, 1), (0, (tv c (NL P (c 5 w) v q (600 - (n : Int))) (c 6 4) 0 1)), (0, v)]) (g' := g127) rfl ?_
              refine wp_ic_ge rfl (fun c17 => ?_) (fun c17 => ?_)
              · refine wp_n 2 (pc' := 160) (L' := [(2, 127), (0, ((w : Nat) : Int)), (0, p), (0, s), (0, d), (0, u), (0, ((q + v) % (8 * ((P : Nat) : Int)))), (0, v), (0, (600 - (n : Int))), (0, 0), (0, (tv c (NL P (c 5 w) v q (600 - (n : Int))) (c 6 4) 0 1))]) (st' := [(0, 999), (0, (tv c (NL P (c 5 w) v q (600 - (n : Int))) (c 6 4) 0 1)), (0, v)]) (g' := g127) rfl ?_
                refine wp_ic_le rfl (fun c18 => ?_) (fun c18 => ?_)
                · refine wp_n 1 (pc' := 171) (L' := [(2, 127), (0, ((w : Nat) : Int)), (0, p), (0, s), (0, d), (0, u), (0, ((q + v) % (8 * ((P : Nat) : Int)))), (0, v), (0, (600 - (n : Int))), (0, 0), (0, (tv c (NL P (c 5 w) v q (600 - (n : Int))) (c 6 4) 0 1))]) (st' := [(0, (tv c (NL P (c 5 w) v q (600 - (n : Int))) (c 6 4) 0 1)), (0, v)]) (g' := g127) rfl ?_
                  refine wp_eq (L' := [(2, 127), (0, ((w : Nat) : Int)), (0, p), (0, s), (0, d), (0, u), (0, ((q + v) % (8 * ((P : Nat) : Int)))), (0, v), (0, (600 - (n : Int))), (0, 0), (0, (tv c (NL P (c 5 w) v q (600 - (n : Int))) (c 6 4) 0 1))]) (st' := [(0, (clL (tv c (NL P (c 5 w) v q (600 - (n : Int))) (c 6 4) 0 1))), (0, v)]) (g' := g127) ?_ (by rfl) (by unfold clL; rw [if_neg (by omega), if_neg (by omega)]) (by rfl)
                  refine wp_n 4 (pc' := 32) (L' := [(2, 127), (0, ((w : Nat) : Int)), (0, p), (0, s), (0, d), (0, u), (0, ((q + v) % (8 * ((P : Nat) : Int)))), (0, (v - (clL (tv c (NL P (c 5 w) v q (600 - (n : Int))) (c 6 4) 0 1)))), (0, ((600 - (n : Int)) + 1)), (0, 0), (0, (tv c (NL P (c 5 w) v q (600 - (n : Int))) (c 6 4) 0 1))]) (st' := []) (g' := g127) rfl ?_
                  refine wp_eq (ih32 (n - 1) (((q + v) % (8 * ((P : Nat) : Int)))) ((v - (clL (tv c (NL P (c 5 w) v q (600 - (n : Int))) (c 6 4) 0 1)))) (0) (g127) ((0, (tv c (NL P (c 5 w) v q (600 - (n : Int))) (c 6 4) 0 1))) ?_ ?_ ?_ ?_ ?_ ?_ ?_ ?_) (by first | rfl | rw [hn1c]) (by rfl) (by rfl)
                  · omega
                  · omega
                  · first | exact hq | exact ⟨Int.emod_nonneg _ (by omega), Int.emod_lt_of_pos _ (by omega)⟩
                  · omega
                  · first | exact Or.inr ⟨rfl, by rw [← hrl]; first | exact rollF_stop (Or.inl (by omega)) | exact rollF_stop (Or.inr (Or.inl (by omega))) | exact rollF_stop (Or.inr (Or.inr (by omega)))⟩ | exact Or.inl ⟨rfl, by rw [hn1c]; exact (rollF_go2 (n := n) (p := q) (v := v) (t := 600 - (n : Int)) (by omega) (by omega) (by omega)).symm.trans hrl⟩
                  · first | exact hNU.2.2.2.1 | exact hN100.2.2.2.1 | exact hN127.2.2.2.1
                  · first | exact hFU | exact hFU.trans (hE100.n (by decide)) | exact (hFU.trans (hE100.n (by decide))).trans (hE127.n (by decide))
                  · first | exact hOU | exact (funext fun j => hE100 135 j (by decide) : _ = _).trans hOU | exact (funext fun j => (hE127 135 j (by decide)).trans (hE100 135 j (by decide)) : _ = _).trans hOU
                · refine wp_n 1 (pc' := 166) (L' := [(2, 127), (0, ((w : Nat) : Int)), (0, p), (0, s), (0, d), (0, u), (0, ((q + v) % (8 * ((P : Nat) : Int)))), (0, v), (0, (600 - (n : Int))), (0, 0), (0, (tv c (NL P (c 5 w) v q (600 - (n : Int))) (c 6 4) 0 1))]) (st' := [(0, 999), (0, v)]) (g' := g127) rfl ?_
                  refine wp_eq (L' := [(2, 127), (0, ((w : Nat) : Int)), (0, p), (0, s), (0, d), (0, u), (0, ((q + v) % (8 * ((P : Nat) : Int)))), (0, v), (0, (600 - (n : Int))), (0, 0), (0, (tv c (NL P (c 5 w) v q (600 - (n : Int))) (c 6 4) 0 1))]) (st' := [(0, (clL (tv c (NL P (c 5 w) v q (600 - (n : Int))) (c 6 4) 0 1))), (0, v)]) (g' := g127) ?_ (by rfl) (by unfold clL; rw [if_neg (by omega), if_pos (by omega)]) (by rfl)
                  refine wp_n 5 (pc' := 32) (L' := [(2, 127), (0, ((w : Nat) : Int)), (0, p), (0, s), (0, d), (0, u), (0, ((q + v) % (8 * ((P : Nat) : Int)))), (0, (v - (clL (tv c (NL P (c 5 w) v q (600 - (n : Int))) (c 6 4) 0 1)))), (0, ((600 - (n : Int)) + 1)), (0, 0), (0, (tv c (NL P (c 5 w) v q (600 - (n : Int))) (c 6 4) 0 1))]) (st' := []) (g' := g127) rfl ?_
                  refine wp_eq (ih32 (n - 1) (((q + v) % (8 * ((P : Nat) : Int)))) ((v - (clL (tv c (NL P (c 5 w) v q (600 - (n : Int))) (c 6 4) 0 1)))) (0) (g127) ((0, (tv c (NL P (c 5 w) v q (600 - (n : Int))) (c 6 4) 0 1))) ?_ ?_ ?_ ?_ ?_ ?_ ?_ ?_) (by first | rfl | rw [hn1c]) (by rfl) (by rfl)
                  · omega
                  · omega
                  · first | exact hq | exact ⟨Int.emod_nonneg _ (by omega), Int.emod_lt_of_pos _ (by omega)⟩
                  · omega
                  · first | exact Or.inr ⟨rfl, by rw [← hrl]; first | exact rollF_stop (Or.inl (by omega)) | exact rollF_stop (Or.inr (Or.inl (by omega))) | exact rollF_stop (Or.inr (Or.inr (by omega)))⟩ | exact Or.inl ⟨rfl, by rw [hn1c]; exact (rollF_go2 (n := n) (p := q) (v := v) (t := 600 - (n : Int)) (by omega) (by omega) (by omega)).symm.trans hrl⟩
                  · first | exact hNU.2.2.2.1 | exact hN100.2.2.2.1 | exact hN127.2.2.2.1
                  · first | exact hFU | exact hFU.trans (hE100.n (by decide)) | exact (hFU.trans (hE100.n (by decide))).trans (hE127.n (by decide))
                  · first | exact hOU | exact (funext fun j => hE100 135 j (by decide) : _ = _).trans hOU | exact (funext fun j => (hE127 135 j (by decide)).trans (hE100 135 j (by decide)) : _ = _).trans hOU
              · refine wp_n 1 (pc' := 152) (L' := [(2, 127), (0, ((w : Nat) : Int)), (0, p), (0, s), (0, d), (0, u), (0, ((q + v) % (8 * ((P : Nat) : Int)))), (0, v), (0, (600 - (n : Int))), (0, 0), (0, (tv c (NL P (c 5 w) v q (600 - (n : Int))) (c 6 4) 0 1))]) (st' := [(0, 1), (0, v)]) (g' := g127) rfl ?_
                refine wp_eq (L' := [(2, 127), (0, ((w : Nat) : Int)), (0, p), (0, s), (0, d), (0, u), (0, ((q + v) % (8 * ((P : Nat) : Int)))), (0, v), (0, (600 - (n : Int))), (0, 0), (0, (tv c (NL P (c 5 w) v q (600 - (n : Int))) (c 6 4) 0 1))]) (st' := [(0, (clL (tv c (NL P (c 5 w) v q (600 - (n : Int))) (c 6 4) 0 1))), (0, v)]) (g' := g127) ?_ (by rfl) (by unfold clL; rw [if_pos (by omega)]) (by rfl)
                refine wp_n 5 (pc' := 32) (L' := [(2, 127), (0, ((w : Nat) : Int)), (0, p), (0, s), (0, d), (0, u), (0, ((q + v) % (8 * ((P : Nat) : Int)))), (0, (v - (clL (tv c (NL P (c 5 w) v q (600 - (n : Int))) (c 6 4) 0 1)))), (0, ((600 - (n : Int)) + 1)), (0, 0), (0, (tv c (NL P (c 5 w) v q (600 - (n : Int))) (c 6 4) 0 1))]) (st' := []) (g' := g127) rfl ?_
                refine wp_eq (ih32 (n - 1) (((q + v) % (8 * ((P : Nat) : Int)))) ((v - (clL (tv c (NL P (c 5 w) v q (600 - (n : Int))) (c 6 4) 0 1)))) (0) (g127) ((0, (tv c (NL P (c 5 w) v q (600 - (n : Int))) (c 6 4) 0 1))) ?_ ?_ ?_ ?_ ?_ ?_ ?_ ?_) (by first | rfl | rw [hn1c]) (by rfl) (by rfl)
                · omega
                · omega
                · first | exact hq | exact ⟨Int.emod_nonneg _ (by omega), Int.emod_lt_of_pos _ (by omega)⟩
                · omega
                · first | exact Or.inr ⟨rfl, by rw [← hrl]; first | exact rollF_stop (Or.inl (by omega)) | exact rollF_stop (Or.inr (Or.inl (by omega))) | exact rollF_stop (Or.inr (Or.inr (by omega)))⟩ | exact Or.inl ⟨rfl, by rw [hn1c]; exact (rollF_go2 (n := n) (p := q) (v := v) (t := 600 - (n : Int)) (by omega) (by omega) (by omega)).symm.trans hrl⟩
                · first | exact hNU.2.2.2.1 | exact hN100.2.2.2.1 | exact hN127.2.2.2.1
                · first | exact hFU | exact hFU.trans (hE100.n (by decide)) | exact (hFU.trans (hE100.n (by decide))).trans (hE127.n (by decide))
                · first | exact hOU | exact (funext fun j => hE100 135 j (by decide) : _ = _).trans hOU | exact (funext fun j => (hE127 135 j (by decide)).trans (hE100 135 j (by decide)) : _ = _).trans hOU
            · refine wp_n 5 (pc' := 32) (L' := [(2, 127), (0, ((w : Nat) : Int)), (0, p), (0, s), (0, d), (0, u), (0, q), (0, v), (0, (600 - (n : Int))), (0, 1), w10]) (st' := []) (g' := g100) rfl ?_
              refine wp_eq (ih32 (n) (q) (v) (1) (g100) (w10) ?_ ?_ ?_ ?_ ?_ ?_ ?_ ?_) (by first | rfl | rw [hn1c]) (by rfl) (by rfl)
              · omega
              · omega
              · first | exact hq | exact ⟨Int.emod_nonneg _ (by omega), Int.emod_lt_of_pos _ (by omega)⟩
              · omega
              · first | exact Or.inr ⟨rfl, by rw [← hrl]; first | exact rollF_stop (Or.inl (by omega)) | exact rollF_stop (Or.inr (Or.inl (by omega))) | exact rollF_stop (Or.inr (Or.inr (by omega)))⟩ | exact Or.inl ⟨rfl, by rw [hn1c]; exact (rollF_go2 (n := n) (p := q) (v := v) (t := 600 - (n : Int)) (by omega) (by omega) (by omega)).symm.trans hrl⟩
              · first | exact hNU.2.2.2.1 | exact hN100.2.2.2.1 | exact hN127.2.2.2.1
              · first | exact hFU | exact hFU.trans (hE100.n (by decide)) | exact (hFU.trans (hE100.n (by decide))).trans (hE127.n (by decide))
              · first | exact hOU | exact (funext fun j => hE100 135 j (by decide) : _ = _).trans hOU | exact (funext fun j => (hE127 135 j (by decide)).trans (hE100 135 j (by decide)) : _ = _).trans hOU
  refine wp_eq (L32 (_ + 1) (600) ((p % (8 * ((P : Nat) : Int)))) (s) (0) ((am_up g 133 3 (c 5 w))) ((9, 0)) (Nat.lt_succ_self _) ?_ ?_ ?_ ?_ ?_ ?_ ?_) (by rfl) (by rfl) (by rfl)
  · decide
  · exact ⟨hp0, hp1⟩
  · omega
  · exact Or.inl ⟨rfl, rfl⟩
  · exact up_eq
  · exact FrN.rfl.up (by unfold Sm; omega)
  · exact funext fun j => up_ne (by decide)
set_option maxHeartbeats 400000 in
set_option maxRecDepth 20000 in
theorem m_clearOdds {sn : Nat} {sx : Nat → Int} {b : Nat} {g : am_G}  : Ev sn sx 1 195 [(2, 127)] (SH b) g (fun r => ∃ g', r = (none, SH b, g') ∧ (∀ j, j < 37 → g' 135 j = 0) ∧ FrA 135 g g') := by
  refine ev_of (K := 0) T195 (by decide) rfl rfl (Nat.le_of_ble_eq_true rfl) ?_
  refine wp_eq (L' := [(2, 127), (9, 0)]) (st' := []) (g' := g) ?_
  refine wp_n 2 (pc' := 2) (L' := [(2, 127), (0, 0)]) (st' := []) (g' := g) rfl ?_
  have L2 : ∀ (lf : Nat) (i : Nat) (h : am_G), 37 - i < lf → (i ≤ 37) → (∀ j, j < i → h 135 j = 0) → (FrA 135 g h) → Wp sn sx 0 T195 2 [(2, 127), (0, ((i : Nat) : Int))] [] (SH b) h (fun r => ∃ g', r = (none, SH b, g') ∧ (∀ j, j < 37 → g' 135 j = 0) ∧ FrA 135 g g') := by
    intro lf
    induction lf with
    | zero => intro i h hlf; exact absurd hlf (Nat.not_lt_zero _)
    | succ lf ih2 =>
      intro i h hlf hi hH hF
      refine wp_n 2 (pc' := 5) (L' := [(2, 127), (0, ((i : Nat) : Int))]) (st' := [(0, 37), (0, ((i : Nat) : Int))]) (g' := h) rfl ?_
      refine wp_ic_ge rfl (fun c1 => ?_) (fun c1 => ?_)
      · exact wp_ret rfl rfl rfl ⟨_, rfl, fun j hj => hH j (by omega), hF⟩
      · refine wp_n 4 (pc' := 14) (L' := [(2, 127), (0, ((i : Nat) : Int))]) (st' := [(0, 0), (0, ((i : Nat) : Int)), (2, 135)]) (g' := h) rfl ?_
        refine wp_iast (k := 135) (i) rfl rfl (by omega) (by omega) (by decide) ?_
        refine wp_n 2 (pc' := 2) (L' := [(2, 127), (0, (((i : Nat) : Int) + 1))]) (st' := []) (g' := (am_up h 135 i 0)) rfl ?_
        refine wp_eq (ih2 (i + 1) ((am_up h 135 i 0)) ?_ ?_ ?_ ?_) (by first | rfl | (simp; done) | (simp; omega)) (by rfl) (by rfl)
        · omega
        · omega
        · intro j hj
          by_cases e : j = i
          · subst e; exact up_eq
          · rw [up_nj e]; exact hH j (by omega)
        · exact fun c j hc => by rw [up_ne hc]; exact hF c j hc
  refine wp_eq (L2 (_ + 1) (0) (g) (Nat.lt_succ_self _) ?_ ?_ ?_) (by first | rfl | (simp; done) | (simp; omega)) (by rfl) (by rfl)
  · exact Nat.zero_le _
  · exact fun j hj => absurd hj (Nat.not_lt_zero _)
  · exact fun _ _ _ => rfl
set_option maxHeartbeats 400000 in
set_option maxRecDepth 20000 in
theorem m_addOdds {sn : Nat} {sx : Nat → Int} {b : Nat} {g : am_G} {c : am_G} {P w : Nat} {st pk y : Int} (hI : CInv P c) (hM : MRel c g) (hw : w < 4) (h6 : g 127 25 = st) (h7 : g 127 26 = pk) (hs : 0 ≤ st ∧ st ≤ 7) (hp : 0 ≤ pk ∧ pk ≤ 37) : Ev sn sx 1 194 [(2, 127), (0, ((w : Nat) : Int)), (0, y)] (SH b) g (fun r => ∃ g', r = (none, SH b, g') ∧ (∀ j, j < 37 → g' 135 j = g 135 j + y * od c P w st pk j 4) ∧ FrA 135 g g') := by
  have h5 := hI.ck.1
  have hP : g 127 0 = (P : Int) := hM.n.trans hI.ck.2.1
  refine ev_of (K := 0) T194 (by decide) rfl rfl (Nat.le_of_ble_eq_true rfl) ?_
  refine wp_eq (L' := [(2, 127), (0, ((w : Nat) : Int)), (0, y), (9, 0), (9, 0), (9, 0), (9, 0), (9, 0), (9, 0), (9, 0)]) (st' := []) (g' := g) ?_
  refine wp_n 2 (pc' := 2) (L' := [(2, 127), (0, ((w : Nat) : Int)), (0, y), (0, 0), (9, 0), (9, 0), (9, 0), (9, 0), (9, 0), (9, 0)]) (st' := []) (g' := g) rfl ?_
  have L2 : ∀ (lf : Nat) (k : Nat) (h : am_G) (w4 w5 w6 w7 w8 w9 : am_V), 4 - k < lf → (k ≤ 4) → (∀ j, j < 37 → h 135 j = g 135 j + y * od c P w st pk j k) → (FrA 135 g h) → Wp sn sx 0 T194 2 [(2, 127), (0, ((w : Nat) : Int)), (0, y), (0, ((k : Nat) : Int)), w4, w5, w6, w7, w8, w9] [] (SH b) h (fun r => ∃ g', r = (none, SH b, g') ∧ (∀ j, j < 37 → g' 135 j = g 135 j + y * od c P w st pk j 4) ∧ FrA 135 g g') := by
    intro lf
    induction lf with
    | zero => intro k h w4 w5 w6 w7 w8 w9 hlf; exact absurd hlf (Nat.not_lt_zero _)
    | succ lf ih2 =>
      intro k h w4 w5 w6 w7 w8 w9 hlf hk hH hF
      refine wp_n 2 (pc' := 4) (L' := [(2, 127), (0, ((w : Nat) : Int)), (0, y), (0, ((k : Nat) : Int)), w4, w5, w6, w7, w8, w9]) (st' := [(0, 4), (0, ((k : Nat) : Int))]) (g' := h) rfl ?_
      refine wp_ic_ge rfl (fun c1 => ?_) (fun c1 => ?_)
      · have hk4 : k = 4 := by omega
        exact wp_ret rfl rfl rfl ⟨_, rfl, fun j hj => by rw [hH j hj, hk4], hF⟩
      · have hMh := hM.g_same (hF.n (by decide))
        have e1 := Int.emod_nonneg (pk + (k : Int)) (show (P : Int) ≠ 0 by omega)
        have e2 := Int.emod_lt_of_pos (pk + (k : Int)) (show (0 : Int) < (P : Int) by omega)
        have e3 := Int.emod_nonneg ((pk + (k : Int)) % (P : Int) + 1) (show (P : Int) ≠ 0 by omega)
        have e4 := Int.emod_lt_of_pos ((pk + (k : Int)) % (P : Int) + 1) (show (0 : Int) < (P : Int) by omega)
        have e5 := Int.emod_nonneg ((pk + (k : Int)) % (P : Int) + 2) (show (P : Int) ≠ 0 by omega)
        have e6 := Int.emod_lt_of_pos ((pk + (k : Int)) % (P : Int) + 2) (show (0 : Int) < (P : Int) by omega)
        refine wp_n 10 (pc' := 24) (L' := [(2, 127), (0, ((w : Nat) : Int)), (0, y), (0, ((k : Nat) : Int)), w4, w5, w6, w7, w8, w9]) (st' := [(0, (h 127 25)), (0, 4), (0, (320 + (32 * ((w : Nat) : Int)))), (2, 128)]) (g' := h) rfl ?_
        refine wp_eq (L' := [(2, 127), (0, ((w : Nat) : Int)), (0, y), (0, ((k : Nat) : Int)), w4, w5, w6, w7, w8, w9]) (st' := [(0, st), (0, 4), (0, (320 + (32 * ((w : Nat) : Int)))), (2, 128)]) (g' := h) ?_ (by rfl) (by rw [hF _ _ (by decide), h6]) (by rfl)
        refine wp_n 4 (pc' := 28) (L' := [(2, 127), (0, ((w : Nat) : Int)), (0, y), (0, ((k : Nat) : Int)), w4, w5, w6, w7, w8, w9]) (st' := [(0, (((320 + (32 * ((w : Nat) : Int))) + (4 * st)) + ((k : Nat) : Int))), (2, 128)]) (g' := h) rfl ?_
        refine wp_iald (k := 128) ((320 + (32 * w + 4 * st.toNat + k))) rfl rfl (by omega) (by omega) (by decide) ?_
        refine wp_eq (L' := [(2, 127), (0, ((w : Nat) : Int)), (0, y), (0, ((k : Nat) : Int)), w4, w5, w6, w7, w8, w9]) (st' := [(0, (c 4 (32 * w + 4 * st.toNat + k)))]) (g' := h) ?_ (by rfl) (by rw [hMh.skip _ (by omega)]) (by rfl)
        refine wp_n 3 (pc' := 35) (L' := [(2, 127), (0, ((w : Nat) : Int)), (0, y), (0, ((k : Nat) : Int)), (0, (c 4 (32 * w + 4 * st.toNat + k))), w5, w6, w7, w8, w9]) (st' := [(0, (h 127 26))]) (g' := h) rfl ?_
        refine wp_eq (L' := [(2, 127), (0, ((w : Nat) : Int)), (0, y), (0, ((k : Nat) : Int)), (0, (c 4 (32 * w + 4 * st.toNat + k))), w5, w6, w7, w8, w9]) (st' := [(0, pk)]) (g' := h) ?_ (by rfl) (by rw [hF _ _ (by decide), h7]) (by rfl)
        refine wp_n 4 (pc' := 41) (L' := [(2, 127), (0, ((w : Nat) : Int)), (0, y), (0, ((k : Nat) : Int)), (0, (c 4 (32 * w + 4 * st.toNat + k))), w5, w6, w7, w8, w9]) (st' := [(0, (h 127 0)), (0, (pk + ((k : Nat) : Int)))]) (g' := h) rfl ?_
        refine wp_eq (L' := [(2, 127), (0, ((w : Nat) : Int)), (0, y), (0, ((k : Nat) : Int)), (0, (c 4 (32 * w + 4 * st.toNat + k))), w5, w6, w7, w8, w9]) (st' := [(0, ((P : Nat) : Int)), (0, (pk + ((k : Nat) : Int)))]) (g' := h) ?_ (by rfl) (by rw [hF _ _ (by decide), hP]) (by rfl)
        refine wp_irem rfl (by omega) (by omega) (by omega) ?_
        refine wp_eq (L' := [(2, 127), (0, ((w : Nat) : Int)), (0, y), (0, ((k : Nat) : Int)), (0, (c 4 (32 * w + 4 * st.toNat + k))), w5, w6, w7, w8, w9]) (st' := [(0, ((pk + ((k : Nat) : Int)) % ((P : Nat) : Int)))]) (g' := h) ?_ (by rfl) (by rw [Int.tmod_eq_emod_of_nonneg (show 0 ≤ pk + (k : Int) by omega)]) (by rfl)
        refine wp_n 6 (pc' := 52) (L' := [(2, 127), (0, ((w : Nat) : Int)), (0, y), (0, ((k : Nat) : Int)), (0, (c 4 (32 * w + 4 * st.toNat + k))), (0, ((pk + ((k : Nat) : Int)) % ((P : Nat) : Int))), w6, w7, w8, w9]) (st' := [(0, (h 127 0)), (0, (((pk + ((k : Nat) : Int)) % ((P : Nat) : Int)) + 1))]) (g' := h) rfl ?_
        refine wp_eq (L' := [(2, 127), (0, ((w : Nat) : Int)), (0, y), (0, ((k : Nat) : Int)), (0, (c 4 (32 * w + 4 * st.toNat + k))), (0, ((pk + ((k : Nat) : Int)) % ((P : Nat) : Int))), w6, w7, w8, w9]) (st' := [(0, ((P : Nat) : Int)), (0, (((pk + ((k : Nat) : Int)) % ((P : Nat) : Int)) + 1))]) (g' := h) ?_ (by rfl) (by rw [hF _ _ (by decide), hP]) (by rfl)
        refine wp_irem rfl (by omega) (by omega) (by omega) ?_
        refine wp_eq (L' := [(2, 127), (0, ((w : Nat) : Int)), (0, y), (0, ((k : Nat) : Int)), (0, (c 4 (32 * w + 4 * st.toNat + k))), (0, ((pk + ((k : Nat) : Int)) % ((P : Nat) : Int))), w6, w7, w8, w9]) (st' := [(0, ((((pk + ((k : Nat) : Int)) % ((P : Nat) : Int)) + 1) % ((P : Nat) : Int)))]) (g' := h) ?_ (by rfl) (by rw [Int.tmod_eq_emod_of_nonneg (show 0 ≤ ((pk + (k : Int)) % (P : Int)) + 1 by omega)]) (by rfl)
        refine wp_n 6 (pc' := 63) (L' := [(2, 127), (0, ((w : Nat) : Int)), (0, y), (0, ((k : Nat) : Int)), (0, (c 4 (32 * w + 4 * st.toNat + k))), (0, ((pk + ((k : Nat) : Int)) % ((P : Nat) : Int))), (0, ((((pk + ((k : Nat) : Int)) % ((P : Nat) : Int)) + 1) % ((P : Nat) : Int))), w7, w8, w9]) (st' := [(0, (h 127 0)), (0, (((pk + ((k : Nat) : Int)) % ((P : Nat) : Int)) + 2))]) (g' := h) rfl ?_
        refine wp_eq (L' := [(2, 127), (0, ((w : Nat) : Int)), (0, y), (0, ((k : Nat) : Int)), (0, (c 4 (32 * w + 4 * st.toNat + k))), (0, ((pk + ((k : Nat) : Int)) % ((P : Nat) : Int))), (0, ((((pk + ((k : Nat) : Int)) % ((P : Nat) : Int)) + 1) % ((P : Nat) : Int))), w7, w8, w9]) (st' := [(0, ((P : Nat) : Int)), (0, (((pk + ((k : Nat) : Int)) % ((P : Nat) : Int)) + 2))]) (g' := h) ?_ (by rfl) (by rw [hF _ _ (by decide), hP]) (by rfl)
        refine wp_irem rfl (by omega) (by omega) (by omega) ?_
        refine wp_eq (L' := [(2, 127), (0, ((w : Nat) : Int)), (0, y), (0, ((k : Nat) : Int)), (0, (c 4 (32 * w + 4 * st.toNat + k))), (0, ((pk + ((k : Nat) : Int)) % ((P : Nat) : Int))), (0, ((((pk + ((k : Nat) : Int)) % ((P : Nat) : Int)) + 1) % ((P : Nat) : Int))), w7, w8, w9]) (st' := [(0, ((((pk + ((k : Nat) : Int)) % ((P : Nat) : Int)) + 2) % ((P : Nat) : Int)))]) (g' := h) ?_ (by rfl) (by rw [Int.tmod_eq_emod_of_nonneg (show 0 ≤ ((pk + (k : Int)) % (P : Int)) + 2 by omega)]) (by rfl)
        refine wp_n 10 (pc' := 80) (L' := [(2, 127), (0, ((w : Nat) : Int)), (0, y), (0, ((k : Nat) : Int)), (0, (c 4 (32 * w + 4 * st.toNat + k))), (0, ((pk + ((k : Nat) : Int)) % ((P : Nat) : Int))), (0, ((((pk + ((k : Nat) : Int)) % ((P : Nat) : Int)) + 1) % ((P : Nat) : Int))), (0, ((((pk + ((k : Nat) : Int)) % ((P : Nat) : Int)) + 2) % ((P : Nat) : Int))), w8, w9]) (st' := [(0, ((20 + (37 * ((w : Nat) : Int))) + ((pk + ((k : Nat) : Int)) % ((P : Nat) : Int)))), (2, 128)]) (g' := h) rfl ?_
        refine wp_iald (k := 128) ((20 + (37 * w + ((pk + (k : Int)) % (P : Int)).toNat))) rfl rfl (by omega) (by omega) (by decide) ?_
        refine wp_eq (L' := [(2, 127), (0, ((w : Nat) : Int)), (0, y), (0, ((k : Nat) : Int)), (0, (c 4 (32 * w + 4 * st.toNat + k))), (0, ((pk + ((k : Nat) : Int)) % ((P : Nat) : Int))), (0, ((((pk + ((k : Nat) : Int)) % ((P : Nat) : Int)) + 1) % ((P : Nat) : Int))), (0, ((((pk + ((k : Nat) : Int)) % ((P : Nat) : Int)) + 2) % ((P : Nat) : Int))), w8, w9]) (st' := [(0, (c 2 (37 * w + ((pk + (k : Int)) % (P : Int)).toNat)))]) (g' := h) ?_ (by rfl) (by rw [hMh.hold _ (by omega)]) (by rfl)
        refine wp_n 10 (pc' := 97) (L' := [(2, 127), (0, ((w : Nat) : Int)), (0, y), (0, ((k : Nat) : Int)), (0, (c 4 (32 * w + 4 * st.toNat + k))), (0, ((pk + ((k : Nat) : Int)) % ((P : Nat) : Int))), (0, ((((pk + ((k : Nat) : Int)) % ((P : Nat) : Int)) + 1) % ((P : Nat) : Int))), (0, ((((pk + ((k : Nat) : Int)) % ((P : Nat) : Int)) + 2) % ((P : Nat) : Int))), (0, (c 2 (37 * w + ((pk + (k : Int)) % (P : Int)).toNat))), w9]) (st' := [(0, ((20 + (37 * ((w : Nat) : Int))) + ((((pk + ((k : Nat) : Int)) % ((P : Nat) : Int)) + 1) % ((P : Nat) : Int)))), (2, 128)]) (g' := h) rfl ?_
        refine wp_iald (k := 128) ((20 + (37 * w + ((((pk + (k : Int)) % (P : Int)) + 1) % (P : Int)).toNat))) rfl rfl (by omega) (by omega) (by decide) ?_
        refine wp_eq (L' := [(2, 127), (0, ((w : Nat) : Int)), (0, y), (0, ((k : Nat) : Int)), (0, (c 4 (32 * w + 4 * st.toNat + k))), (0, ((pk + ((k : Nat) : Int)) % ((P : Nat) : Int))), (0, ((((pk + ((k : Nat) : Int)) % ((P : Nat) : Int)) + 1) % ((P : Nat) : Int))), (0, ((((pk + ((k : Nat) : Int)) % ((P : Nat) : Int)) + 2) % ((P : Nat) : Int))), (0, (c 2 (37 * w + ((pk + (k : Int)) % (P : Int)).toNat))), w9]) (st' := [(0, (c 2 (37 * w + ((((pk + (k : Int)) % (P : Int)) + 1) % (P : Int)).toNat)))]) (g' := h) ?_ (by rfl) (by rw [hMh.hold _ (by omega)]) (by rfl)
        refine wp_n 5 (pc' := 107) (L' := [(2, 127), (0, ((w : Nat) : Int)), (0, y), (0, ((k : Nat) : Int)), (0, (c 4 (32 * w + 4 * st.toNat + k))), (0, ((pk + ((k : Nat) : Int)) % ((P : Nat) : Int))), (0, ((((pk + ((k : Nat) : Int)) % ((P : Nat) : Int)) + 1) % ((P : Nat) : Int))), (0, ((((pk + ((k : Nat) : Int)) % ((P : Nat) : Int)) + 2) % ((P : Nat) : Int))), (0, (c 2 (37 * w + ((pk + (k : Int)) % (P : Int)).toNat))), (0, (c 2 (37 * w + ((((pk + (k : Int)) % (P : Int)) + 1) % (P : Int)).toNat)))]) (st' := [(0, ((pk + ((k : Nat) : Int)) % ((P : Nat) : Int))), (2, 135), (0, ((pk + ((k : Nat) : Int)) % ((P : Nat) : Int))), (2, 135)]) (g' := h) rfl ?_
        refine wp_iald (k := 135) (((pk + (k : Int)) % (P : Int)).toNat) rfl rfl (by omega) (by omega) (by decide) ?_
        refine wp_n 8 (pc' := 119) (L' := [(2, 127), (0, ((w : Nat) : Int)), (0, y), (0, ((k : Nat) : Int)), (0, (c 4 (32 * w + 4 * st.toNat + k))), (0, ((pk + ((k : Nat) : Int)) % ((P : Nat) : Int))), (0, ((((pk + ((k : Nat) : Int)) % ((P : Nat) : Int)) + 1) % ((P : Nat) : Int))), (0, ((((pk + ((k : Nat) : Int)) % ((P : Nat) : Int)) + 2) % ((P : Nat) : Int))), (0, (c 2 (37 * w + ((pk + (k : Int)) % (P : Int)).toNat))), (0, (c 2 (37 * w + ((((pk + (k : Int)) % (P : Int)) + 1) % (P : Int)).toNat)))]) (st' := [(0, ((h 135 ((pk + (k : Int)) % (P : Int)).toNat) + (((y * (c 4 (32 * w + 4 * st.toNat + k))) * (c 2 (37 * w + ((pk + (k : Int)) % (P : Int)).toNat))) * 10))), (0, ((pk + ((k : Nat) : Int)) % ((P : Nat) : Int))), (2, 135)]) (g' := h) rfl ?_
        refine wp_iast (k := 135) (((pk + (k : Int)) % (P : Int)).toNat) rfl rfl (by omega) (by omega) (by decide) ?_
        refine wp_n 4 (pc' := 127) (L' := [(2, 127), (0, ((w : Nat) : Int)), (0, y), (0, ((k : Nat) : Int)), (0, (c 4 (32 * w + 4 * st.toNat + k))), (0, ((pk + ((k : Nat) : Int)) % ((P : Nat) : Int))), (0, ((((pk + ((k : Nat) : Int)) % ((P : Nat) : Int)) + 1) % ((P : Nat) : Int))), (0, ((((pk + ((k : Nat) : Int)) % ((P : Nat) : Int)) + 2) % ((P : Nat) : Int))), (0, (c 2 (37 * w + ((pk + (k : Int)) % (P : Int)).toNat))), (0, (c 2 (37 * w + ((((pk + (k : Int)) % (P : Int)) + 1) % (P : Int)).toNat)))]) (st' := [(0, ((((pk + ((k : Nat) : Int)) % ((P : Nat) : Int)) + 1) % ((P : Nat) : Int))), (2, 135), (0, ((((pk + ((k : Nat) : Int)) % ((P : Nat) : Int)) + 1) % ((P : Nat) : Int))), (2, 135)]) (g' := (am_up h 135 (((pk + (k : Int)) % (P : Int)).toNat) ((h 135 ((pk + (k : Int)) % (P : Int)).toNat) + (((y * (c 4 (32 * w + 4 * st.toNat + k))) * (c 2 (37 * w + ((pk + (k : Int)) % (P : Int)).toNat))) * 10)))) rfl ?_
        refine wp_iald (k := 135) (((((pk + (k : Int)) % (P : Int)) + 1) % (P : Int)).toNat) rfl rfl (by omega) (by omega) (by decide) ?_
        refine wp_n 10 (pc' := 142) (L' := [(2, 127), (0, ((w : Nat) : Int)), (0, y), (0, ((k : Nat) : Int)), (0, (c 4 (32 * w + 4 * st.toNat + k))), (0, ((pk + ((k : Nat) : Int)) % ((P : Nat) : Int))), (0, ((((pk + ((k : Nat) : Int)) % ((P : Nat) : Int)) + 1) % ((P : Nat) : Int))), (0, ((((pk + ((k : Nat) : Int)) % ((P : Nat) : Int)) + 2) % ((P : Nat) : Int))), (0, (c 2 (37 * w + ((pk + (k : Int)) % (P : Int)).toNat))), (0, (c 2 (37 * w + ((((pk + (k : Int)) % (P : Int)) + 1) % (P : Int)).toNat)))]) (st' := [(0, (((am_up h 135 (((pk + (k : Int)) % (P : Int)).toNat) ((h 135 ((pk + (k : Int)) % (P : Int)).toNat) + (((y * (c 4 (32 * w + 4 * st.toNat + k))) * (c 2 (37 * w + ((pk + (k : Int)) % (P : Int)).toNat))) * 10))) 135 ((((pk + (k : Int)) % (P : Int)) + 1) % (P : Int)).toNat) + (((y * (c 4 (32 * w + 4 * st.toNat + k))) * (10 - (c 2 (37 * w + ((pk + (k : Int)) % (P : Int)).toNat)))) * (c 2 (37 * w + ((((pk + (k : Int)) % (P : Int)) + 1) % (P : Int)).toNat))))), (0, ((((pk + ((k : Nat) : Int)) % ((P : Nat) : Int)) + 1) % ((P : Nat) : Int))), (2, 135)]) (g' := (am_up h 135 (((pk + (k : Int)) % (P : Int)).toNat) ((h 135 ((pk + (k : Int)) % (P : Int)).toNat) + (((y * (c 4 (32 * w + 4 * st.toNat + k))) * (c 2 (37 * w + ((pk + (k : Int)) % (P : Int)).toNat))) * 10)))) rfl ?_
        refine wp_iast (k := 135) (((((pk + (k : Int)) % (P : Int)) + 1) % (P : Int)).toNat) rfl rfl (by omega) (by omega) (by decide) ?_
        refine wp_n 4 (pc' := 150) (L' := [(2, 127), (0, ((w : Nat) : Int)), (0, y), (0, ((k : Nat) : Int)), (0, (c 4 (32 * w + 4 * st.toNat + k))), (0, ((pk + ((k : Nat) : Int)) % ((P : Nat) : Int))), (0, ((((pk + ((k : Nat) : Int)) % ((P : Nat) : Int)) + 1) % ((P : Nat) : Int))), (0, ((((pk + ((k : Nat) : Int)) % ((P : Nat) : Int)) + 2) % ((P : Nat) : Int))), (0, (c 2 (37 * w + ((pk + (k : Int)) % (P : Int)).toNat))), (0, (c 2 (37 * w + ((((pk + (k : Int)) % (P : Int)) + 1) % (P : Int)).toNat)))]) (st' := [(0, ((((pk + ((k : Nat) : Int)) % ((P : Nat) : Int)) + 2) % ((P : Nat) : Int))), (2, 135), (0, ((((pk + ((k : Nat) : Int)) % ((P : Nat) : Int)) + 2) % ((P : Nat) : Int))), (2, 135)]) (g' := (am_up (am_up h 135 (((pk + (k : Int)) % (P : Int)).toNat) ((h 135 ((pk + (k : Int)) % (P : Int)).toNat) + (((y * (c 4 (32 * w + 4 * st.toNat + k))) * (c 2 (37 * w + ((pk + (k : Int)) % (P : Int)).toNat))) * 10))) 135 (((((pk + (k : Int)) % (P : Int)) + 1) % (P : Int)).toNat) (((am_up h 135 (((pk + (k : Int)) % (P : Int)).toNat) ((h 135 ((pk + (k : Int)) % (P : Int)).toNat) + (((y * (c 4 (32 * w + 4 * st.toNat + k))) * (c 2 (37 * w + ((pk + (k : Int)) % (P : Int)).toNat))) * 10))) 135 ((((pk + (k : Int)) % (P : Int)) + 1) % (P : Int)).toNat) + (((y * (c 4 (32 * w + 4 * st.toNat + k))) * (10 - (c 2 (37 * w + ((pk + (k : Int)) % (P : Int)).toNat)))) * (c 2 (37 * w + ((((pk + (k : Int)) % (P : Int)) + 1) % (P : Int)).toNat)))))) rfl ?_
        refine wp_iald (k := 135) (((((pk + (k : Int)) % (P : Int)) + 2) % (P : Int)).toNat) rfl rfl (by omega) (by omega) (by decide) ?_
        refine wp_n 12 (pc' := 168) (L' := [(2, 127), (0, ((w : Nat) : Int)), (0, y), (0, ((k : Nat) : Int)), (0, (c 4 (32 * w + 4 * st.toNat + k))), (0, ((pk + ((k : Nat) : Int)) % ((P : Nat) : Int))), (0, ((((pk + ((k : Nat) : Int)) % ((P : Nat) : Int)) + 1) % ((P : Nat) : Int))), (0, ((((pk + ((k : Nat) : Int)) % ((P : Nat) : Int)) + 2) % ((P : Nat) : Int))), (0, (c 2 (37 * w + ((pk + (k : Int)) % (P : Int)).toNat))), (0, (c 2 (37 * w + ((((pk + (k : Int)) % (P : Int)) + 1) % (P : Int)).toNat)))]) (st' := [(0, (((am_up (am_up h 135 (((pk + (k : Int)) % (P : Int)).toNat) ((h 135 ((pk + (k : Int)) % (P : Int)).toNat) + (((y * (c 4 (32 * w + 4 * st.toNat + k))) * (c 2 (37 * w + ((pk + (k : Int)) % (P : Int)).toNat))) * 10))) 135 (((((pk + (k : Int)) % (P : Int)) + 1) % (P : Int)).toNat) (((am_up h 135 (((pk + (k : Int)) % (P : Int)).toNat) ((h 135 ((pk + (k : Int)) % (P : Int)).toNat) + (((y * (c 4 (32 * w + 4 * st.toNat + k))) * (c 2 (37 * w + ((pk + (k : Int)) % (P : Int)).toNat))) * 10))) 135 ((((pk + (k : Int)) % (P : Int)) + 1) % (P : Int)).toNat) + (((y * (c 4 (32 * w + 4 * st.toNat + k))) * (10 - (c 2 (37 * w + ((pk + (k : Int)) % (P : Int)).toNat)))) * (c 2 (37 * w + ((((pk + (k : Int)) % (P : Int)) + 1) % (P : Int)).toNat))))) 135 ((((pk + (k : Int)) % (P : Int)) + 2) % (P : Int)).toNat) + (((y * (c 4 (32 * w + 4 * st.toNat + k))) * (10 - (c 2 (37 * w + ((pk + (k : Int)) % (P : Int)).toNat)))) * (10 - (c 2 (37 * w + ((((pk + (k : Int)) % (P : Int)) + 1) % (P : Int)).toNat)))))), (0, ((((pk + ((k : Nat) : Int)) % ((P : Nat) : Int)) + 2) % ((P : Nat) : Int))), (2, 135)]) (g' := (am_up (am_up h 135 (((pk + (k : Int)) % (P : Int)).toNat) ((h 135 ((pk + (k : Int)) % (P : Int)).toNat) + (((y * (c 4 (32 * w + 4 * st.toNat + k))) * (c 2 (37 * w + ((pk + (k : Int)) % (P : Int)).toNat))) * 10))) 135 (((((pk + (k : Int)) % (P : Int)) + 1) % (P : Int)).toNat) (((am_up h 135 (((pk + (k : Int)) % (P : Int)).toNat) ((h 135 ((pk + (k : Int)) % (P : Int)).toNat) + (((y * (c 4 (32 * w + 4 * st.toNat + k))) * (c 2 (37 * w + ((pk + (k : Int)) % (P : Int)).toNat))) * 10))) 135 ((((pk + (k : Int)) % (P : Int)) + 1) % (P : Int)).toNat) + (((y * (c 4 (32 * w + 4 * st.toNat + k))) * (10 - (c 2 (37 * w + ((pk + (k : Int)) % (P : Int)).toNat)))) * (c 2 (37 * w + ((((pk + (k : Int)) % (P : Int)) + 1) % (P : Int)).toNat)))))) rfl ?_
        refine wp_iast (k := 135) (((((pk + (k : Int)) % (P : Int)) + 2) % (P : Int)).toNat) rfl rfl (by omega) (by omega) (by decide) ?_
        refine wp_n 2 (pc' := 2) (L' := [(2, 127), (0, ((w : Nat) : Int)), (0, y), (0, (((k : Nat) : Int) + 1)), (0, (c 4 (32 * w + 4 * st.toNat + k))), (0, ((pk + ((k : Nat) : Int)) % ((P : Nat) : Int))), (0, ((((pk + ((k : Nat) : Int)) % ((P : Nat) : Int)) + 1) % ((P : Nat) : Int))), (0, ((((pk + ((k : Nat) : Int)) % ((P : Nat) : Int)) + 2) % ((P : Nat) : Int))), (0, (c 2 (37 * w + ((pk + (k : Int)) % (P : Int)).toNat))), (0, (c 2 (37 * w + ((((pk + (k : Int)) % (P : Int)) + 1) % (P : Int)).toNat)))]) (st' := []) (g' := (am_up (am_up (am_up h 135 (((pk + (k : Int)) % (P : Int)).toNat) ((h 135 ((pk + (k : Int)) % (P : Int)).toNat) + (((y * (c 4 (32 * w + 4 * st.toNat + k))) * (c 2 (37 * w + ((pk + (k : Int)) % (P : Int)).toNat))) * 10))) 135 (((((pk + (k : Int)) % (P : Int)) + 1) % (P : Int)).toNat) (((am_up h 135 (((pk + (k : Int)) % (P : Int)).toNat) ((h 135 ((pk + (k : Int)) % (P : Int)).toNat) + (((y * (c 4 (32 * w + 4 * st.toNat + k))) * (c 2 (37 * w + ((pk + (k : Int)) % (P : Int)).toNat))) * 10))) 135 ((((pk + (k : Int)) % (P : Int)) + 1) % (P : Int)).toNat) + (((y * (c 4 (32 * w + 4 * st.toNat + k))) * (10 - (c 2 (37 * w + ((pk + (k : Int)) % (P : Int)).toNat)))) * (c 2 (37 * w + ((((pk + (k : Int)) % (P : Int)) + 1) % (P : Int)).toNat))))) 135 (((((pk + (k : Int)) % (P : Int)) + 2) % (P : Int)).toNat) (((am_up (am_up h 135 (((pk + (k : Int)) % (P : Int)).toNat) ((h 135 ((pk + (k : Int)) % (P : Int)).toNat) + (((y * (c 4 (32 * w + 4 * st.toNat + k))) * (c 2 (37 * w + ((pk + (k : Int)) % (P : Int)).toNat))) * 10))) 135 (((((pk + (k : Int)) % (P : Int)) + 1) % (P : Int)).toNat) (((am_up h 135 (((pk + (k : Int)) % (P : Int)).toNat) ((h 135 ((pk + (k : Int)) % (P : Int)).toNat) + (((y * (c 4 (32 * w + 4 * st.toNat + k))) * (c 2 (37 * w + ((pk + (k : Int)) % (P : Int)).toNat))) * 10))) 135 ((((pk + (k : Int)) % (P : Int)) + 1) % (P : Int)).toNat) + (((y * (c 4 (32 * w + 4 * st.toNat + k))) * (10 - (c 2 (37 * w + ((pk + (k : Int)) % (P : Int)).toNat)))) * (c 2 (37 * w + ((((pk + (k : Int)) % (P : Int)) + 1) % (P : Int)).toNat))))) 135 ((((pk + (k : Int)) % (P : Int)) + 2) % (P : Int)).toNat) + (((y * (c 4 (32 * w + 4 * st.toNat + k))) * (10 - (c 2 (37 * w + ((pk + (k : Int)) % (P : Int)).toNat)))) * (10 - (c 2 (37 * w + ((((pk + (k : Int)) % (P : Int)) + 1) % (P : Int)).toNat))))))) rfl ?_
        refine wp_eq (ih2 (k + 1) ((am_up (am_up (am_up h 135 (((pk + (k : Int)) % (P : Int)).toNat) ((h 135 ((pk + (k : Int)) % (P : Int)).toNat) + (((y * (c 4 (32 * w + 4 * st.toNat + k))) * (c 2 (37 * w + ((pk + (k : Int)) % (P : Int)).toNat))) * 10))) 135 (((((pk + (k : Int)) % (P : Int)) + 1) % (P : Int)).toNat) (((am_up h 135 (((pk + (k : Int)) % (P : Int)).toNat) ((h 135 ((pk + (k : Int)) % (P : Int)).toNat) + (((y * (c 4 (32 * w + 4 * st.toNat + k))) * (c 2 (37 * w + ((pk + (k : Int)) % (P : Int)).toNat))) * 10))) 135 ((((pk + (k : Int)) % (P : Int)) + 1) % (P : Int)).toNat) + (((y * (c 4 (32 * w + 4 * st.toNat + k))) * (10 - (c 2 (37 * w + ((pk + (k : Int)) % (P : Int)).toNat)))) * (c 2 (37 * w + ((((pk + (k : Int)) % (P : Int)) + 1) % (P : Int)).toNat))))) 135 (((((pk + (k : Int)) % (P : Int)) + 2) % (P : Int)).toNat) (((am_up (am_up h 135 (((pk + (k : Int)) % (P : Int)).toNat) ((h 135 ((pk + (k : Int)) % (P : Int)).toNat) + (((y * (c 4 (32 * w + 4 * st.toNat + k))) * (c 2 (37 * w + ((pk + (k : Int)) % (P : Int)).toNat))) * 10))) 135 (((((pk + (k : Int)) % (P : Int)) + 1) % (P : Int)).toNat) (((am_up h 135 (((pk + (k : Int)) % (P : Int)).toNat) ((h 135 ((pk + (k : Int)) % (P : Int)).toNat) + (((y * (c 4 (32 * w + 4 * st.toNat + k))) * (c 2 (37 * w + ((pk + (k : Int)) % (P : Int)).toNat))) * 10))) 135 ((((pk + (k : Int)) % (P : Int)) + 1) % (P : Int)).toNat) + (((y * (c 4 (32 * w + 4 * st.toNat + k))) * (10 - (c 2 (37 * w + ((pk + (k : Int)) % (P : Int)).toNat)))) * (c 2 (37 * w + ((((pk + (k : Int)) % (P : Int)) + 1) % (P : Int)).toNat))))) 135 ((((pk + (k : Int)) % (P : Int)) + 2) % (P : Int)).toNat) + (((y * (c 4 (32 * w + 4 * st.toNat + k))) * (10 - (c 2 (37 * w + ((pk + (k : Int)) % (P : Int)).toNat)))) * (10 - (c 2 (37 * w + ((((pk + (k : Int)) % (P : Int)) + 1) % (P : Int)).toNat))))))) ((0, (c 4 (32 * w + 4 * st.toNat + k)))) ((0, ((pk + ((k : Nat) : Int)) % ((P : Nat) : Int)))) ((0, ((((pk + ((k : Nat) : Int)) % ((P : Nat) : Int)) + 1) % ((P : Nat) : Int)))) ((0, ((((pk + ((k : Nat) : Int)) % ((P : Nat) : Int)) + 2) % ((P : Nat) : Int)))) ((0, (c 2 (37 * w + ((pk + (k : Int)) % (P : Int)).toNat)))) ((0, (c 2 (37 * w + ((((pk + (k : Int)) % (P : Int)) + 1) % (P : Int)).toNat)))) ?_ ?_ ?_ ?_) (by first | rfl | (simp; done) | (simp; omega)) (by rfl) (by rfl)
        · omega
        · omega
        · intro j hj
          rw [add3, hH j hj, od, Int.mul_add, Int.mul_add, Int.mul_add, mul_ite0, mul_ite0, mul_ite0]
          have a1 : y * odA c P w st pk k = y * c 4 (32 * w + 4 * st.toNat + k) * c 2 (37 * w + ((pk + (k : Int)) % (P : Int)).toNat) * 10 := by unfold odA; rw [← Int.mul_assoc, ← Int.mul_assoc]
          have a2 : y * odB c P w st pk k = y * c 4 (32 * w + 4 * st.toNat + k) * (10 - c 2 (37 * w + ((pk + (k : Int)) % (P : Int)).toNat)) * c 2 (37 * w + (((pk + (k : Int)) % (P : Int) + 1) % (P : Int)).toNat) := by unfold odB; rw [← Int.mul_assoc, ← Int.mul_assoc]
          have a3 : y * odC c P w st pk k = y * c 4 (32 * w + 4 * st.toNat + k) * (10 - c 2 (37 * w + ((pk + (k : Int)) % (P : Int)).toNat)) * (10 - c 2 (37 * w + (((pk + (k : Int)) % (P : Int) + 1) % (P : Int)).toNat)) := by unfold odC; rw [← Int.mul_assoc, ← Int.mul_assoc]
          rw [a1, a2, a3]
          simp only [Int.add_assoc]
        · exact fun c j hc => by rw [up_ne hc, up_ne hc, up_ne hc]; exact hF c j hc
  refine wp_eq (L2 (_ + 1) (0) (g) ((9, 0)) ((9, 0)) ((9, 0)) ((9, 0)) ((9, 0)) ((9, 0)) (Nat.lt_succ_self _) ?_ ?_ ?_) (by first | rfl | (simp; done) | (simp; omega)) (by rfl) (by rfl)
  · exact Nat.zero_le _
  · intro j hj; show _ = _ + y * 0; rw [Int.mul_zero, Int.add_zero]
  · exact fun _ _ _ => rfl
