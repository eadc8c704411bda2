/-! A DROP: roll on both sides -/
theorem FrE.q {g h : am_G} (hE : FrE g h) : FrQ g h := fun c j hc => hE c j (by unfold Sq at hc; omega) (by unfold Sq at hc; omega)
def Sd (c j : Nat) : Prop := (49 ≤ c ∧ c ≤ 51) ∨ (c = 52 ∧ j ≠ 3) ∨ c = 53
/-- nothing but the ball's places has changed -/
def FrD (g h : am_G) : Prop := ∀ c j, ¬ Sd c j → h c j = g c j
theorem FrD.rfl {g : am_G} : FrD g g := fun _ _ _ => Eq.refl _
theorem FrD.trans {g h i : am_G} (h1 : FrD g h) (h2 : FrD h i) : FrD g i := fun c j a => (h2 c j a).trans (h1 c j a)
theorem FrD.up {g h : am_G} {k i : Nat} {x : Int} (h1 : FrD g h) (hs : Sd k i) : FrD g (am_up h k i x) := by
  intro c j hc
  by_cases e : c = k
  · subst e
    by_cases e2 : j = i
    · subst e2; exact absurd hs hc
    · rw [up_nj e2]; exact h1 c j hc
  · rw [up_ne e]; exact h1 c j hc
theorem FrD.q {g h : am_G} (hE : FrD g h) : FrQ g h := fun c j hc => hE c j (by unfold Sq at hc; unfold Sd; omega)
theorem FrE.d {g h : am_G} (hE : FrE g h) : FrD g h := fun c j hc => hE c j (by unfold Sd at hc; omega) (by unfold Sd at hc; omega)
theorem FrA.d {k : Nat} {g h : am_G} (hE : FrA k g h) (hk : k = 53 ∨ k = 50) : FrD g h := fun c j hc => hE c j (by unfold Sd at hc; omega)
theorem FrA.q {k : Nat} {g h : am_G} (hE : FrA k g h) (hk : k = 53 ∨ k = 126 ∨ k = 55 ∨ k = 50) : FrQ g h := fun c j hc => hE c j (by unfold Sq at hc; omega)
theorem FrA.n {k : Nat} {g h : am_G} (hE : FrA k g h) (hk : 132 ≤ k) : FrN g h := fun c j hc => hE c j (by unfold Sm at hc; omega)
theorem tv_go {c h : am_G} {P k : Nat} {tl v p t w : Int} {N : Nat → Int} (hT : TxW 0 c) (hk : k < 2) (hF : ∀ a j, 6 ≤ a → a ≤ 9 → h a j = c a j) (hN : N 0 = v ∧ N 1 = p ∧ N 2 = t ∧ N 3 = tl ∧ N 4 = p / (P : Int)) : tv h N (h 6 4) k w = tv c (NL P tl v p t) (c 6 4) k w := by
  have h7 : h 7 = c 7 := funext fun j => hF 7 j (by omega) (by omega)
  have h8 : h 8 = c 8 := funext fun j => hF 8 j (by omega) (by omega)
  have h9 : h 9 = c 9 := funext fun j => hF 9 j (by omega) (by omega)
  rw [tv_c h7 h8 h9, hF 6 4 (by omega) (by omega)]
  refine tv_nm hT hT.law (by omega) fun i hi => ?_
  obtain ⟨a0, a1, a2, a3, a4⟩ := hN
  rcases (show i = 0 ∨ i = 1 ∨ i = 2 ∨ i = 3 ∨ i = 4 by omega) with e | e | e | e | e <;> subst e <;> assumption
theorem nl_nb {P k : Nat} {tl v p t : Int} {N : Nat → Int} (hk : k < 2) (hN : N 0 = v ∧ N 1 = p ∧ N 2 = t ∧ N 3 = tl ∧ N 4 = p / (P : Int)) (h5 : 5 ≤ P ∧ P ≤ 37) (h0 : MB v) (h1 : 0 ≤ p ∧ p ≤ 1000) (h2 : MB t) (h3 : MB tl) : NB k N := by
  intro i hi
  obtain ⟨a0, a1, a2, a3, a4⟩ := hN
  have hq : 0 ≤ p / (P : Int) := Int.ediv_nonneg h1.1 (by omega)
  have hq2 : p / (P : Int) ≤ p := Int.ediv_le_self _ h1.1
  rcases (show i = 0 ∨ i = 1 ∨ i = 2 ∨ i = 3 ∨ i = 4 by omega) with e | e | e | e | e <;> subst e
  · rw [a0]; exact h0
  · rw [a1]; unfold MB; omega
  · rw [a2]; exact h2
  · rw [a3]; exact h3
  · rw [a4]; unfold MB; omega
theorem clL_eq (l : Int) : (if 1 < (if l < 999 then l else 999) then (if l < 999 then l else 999) else 1) = clL l := by
  unfold clL
  split <;> split <;> (try split) <;> (try split) <;> omega
theorem clL_in (l : Int) : 1 ≤ clL l ∧ clL l ≤ 999 := by
  unfold clL
  split <;> (try split) <;> omega
theorem od_c {c c' : am_G} {P w : Nat} {st pk : Int} {j : Nat} (h2 : c' 2 = c 2) (h4 : c' 4 = c 4) : ∀ k, od c' P w st pk j k = od c P w st pk j k := by
  intro k
  induction k with
  | zero => rfl
  | succ k ih =>
    rw [od, od, ih]
    unfold odA odB odC
    rw [h2, h4]
theorem rollF_go2 {c : am_G} {P : Nat} {tl p v t : Int} {n : Nat} (hn : 0 < n) (h1 : ¬ v < 1) (h : ¬ v ≤ tv c (NL P tl v p t) (c 6 4) 1 8) : rollF c P tl n p v t = rollF c P tl (n - 1) ((p + v) % (8 * (P : Int))) (v - clL (tv c (NL P tl v p t) (c 6 4) 0 1)) (t + 1) := by
  obtain ⟨m, rfl⟩ : ∃ m, n = m + 1 := ⟨n - 1, by omega⟩
  exact rollF_go h1 h
def RollC (c g' : am_G) (P w : Nat) (p s d u : Int) : Prop := g' 52 5 = rOff c P w p s ∧ g' 52 6 = rStud c P w p s ∧ g' 52 7 = rPkt c P w p s d u ∧ ∀ j, j < 37 → g' 53 j = od c P w (rStud c P w p s) (rPkt c P w p s d u) j 4
set_option maxHeartbeats 400000 in
set_option maxRecDepth 20000 in
theorem e_roll {sn : Nat} {sx : Nat → Int} {b : Nat} {g : am_G} {P w : Nat} {p s d u : Int} (hI : CInv P g) (hw : w < 4) (hp : 0 ≤ p ∧ p < 8 * (P : Int)) (hs : 0 ≤ s ∧ s ≤ 999) (hd : 0 ≤ d ∧ d < 8 * (P : Int)) (hu : 0 ≤ u ∧ u ≤ 99) : Ev sn sx 6 1 [(2, 52), (0, ((w : Nat) : Int)), (0, p), (0, s), (0, d), (0, u)] (SH b) g (fun r => ∃ g', r = (none, SH b, g') ∧ RollC g g' P w p s d u ∧ FrD g g') := by
  have h5 := hI.ck.1
  have h3 := hI.ck.2.2.2.2.1
  have htl := hI.rg.r5_3 w hw
  have hlaw := hI.tx.law
  have hn0 := hI.tx.n0
  refine ev_of (K := 5) T1 (by decide) rfl rfl (Nat.le_of_ble_eq_true rfl) ?_
  refine wp_eq (L' := [(2, 52), (0, ((w : Nat) : Int)), (0, p), (0, s), (0, d), (0, u), (9, 0), (9, 0), (9, 0), (9, 0), (9, 0)]) (st' := []) (g' := g) ?_
  refine wp_n 3 (pc' := 6) (L' := [(2, 52), (0, ((w : Nat) : Int)), (0, p), (0, s), (0, d), (0, u), (9, 0), (9, 0), (9, 0), (9, 0), (9, 0)]) (st' := [(0, (g 52 3)), (0, 8)]) (g' := g) rfl ?_
  refine wp_eq (L' := [(2, 52), (0, ((w : Nat) : Int)), (0, p), (0, s), (0, d), (0, u), (9, 0), (9, 0), (9, 0), (9, 0), (9, 0)]) (st' := [(0, ((P : Nat) : Int)), (0, 8)]) (g' := g) ?_ (by rfl) (by rw [h3]) (by rfl)
  refine wp_n 8 (pc' := 18) (L' := [(2, 52), (0, ((w : Nat) : Int)), (0, p), (0, s), (0, d), (0, u), (0, (8 * ((P : Nat) : Int))), (0, p), (0, s), (0, 0), (9, 0)]) (st' := []) (g' := g) rfl ?_
  have J144 : ∀ (q t : Int) (h : am_G) (w8 w10 : am_V), (rollF g P (g 5 w) 600 (p % (8 * (P : Int))) s 0 = (q, t)) → (0 ≤ q ∧ q < 8 * (P : Int)) → (0 ≤ t ∧ t ≤ 600) → (FrD g h) → Wp sn sx 5 T1 144 [(2, 52), (0, ((w : Nat) : Int)), (0, p), (0, s), (0, d), (0, u), (0, (8 * ((P : Nat) : Int))), (0, q), w8, (0, t), w10] [] (SH b) h (fun r => ∃ g', r = (none, SH b, g') ∧ RollC g g' P w p s d u ∧ FrD g g') := by
    intro q t h w8 w10 hres hq ht hF
    have hQ0 := Int.ediv_nonneg hq.1 (show (0 : Int) ≤ (P : Int) by omega)
    have hQ1 := Int.ediv_le_self (P : Int) hq.1
    have hut1 : 0 ≤ u * t := Int.mul_nonneg hu.1 ht.1
    have hut2 : u * t ≤ 99 * 600 := Int.mul_le_mul hu.2 ht.2 ht.1 (by decide)
    have hS0 := Int.emod_nonneg (q / (P : Int) + 1) (show (8 : Int) ≠ 0 by decide)
    have hS1 := Int.emod_lt_of_pos (q / (P : Int) + 1) (show (0 : Int) < 8 by decide)
    have hSP1 : 0 ≤ (q / (P : Int) + 1) % 8 * (P : Int) := Int.mul_nonneg hS0 (by omega)
    have hSP2 : (q / (P : Int) + 1) % 8 * (P : Int) ≤ 7 * 37 := Int.mul_le_mul (by omega) (by omega) (by omega) (by decide)
    have hX0 := Int.emod_nonneg (d - u * t) (show 8 * (P : Int) ≠ 0 by omega)
    have hX1 := Int.emod_lt_of_pos (d - u * t) (show (0 : Int) < 8 * (P : Int) by omega)
    have hY0 := Int.emod_nonneg ((q / (P : Int) + 1) % 8 * (P : Int) - (d - u * t) % (8 * (P : Int))) (show 8 * (P : Int) ≠ 0 by omega)
    have hY1 := Int.emod_lt_of_pos ((q / (P : Int) + 1) % 8 * (P : Int) - (d - u * t) % (8 * (P : Int))) (show (0 : Int) < 8 * (P : Int) by omega)
    have hO : rOff g P w p s = t := by unfold rOff; rw [hres]
    have hSt : rStud g P w p s = (q / (P : Int) + 1) % 8 := by unfold rStud; rw [hres]
    have hPk : rPkt g P w p s d u = ((q / (P : Int) + 1) % 8 * (P : Int) - (d - u * t) % (8 * (P : Int))) % (8 * (P : Int)) / 8 := by unfold rPkt; rw [hSt, hO]
    refine wp_n 7 (pc' := 157) (L' := [(2, 52), (0, ((w : Nat) : Int)), (0, p), (0, s), (0, d), (0, u), (0, (8 * ((P : Nat) : Int))), (0, q), w8, (0, t), w10]) (st' := [(0, (h 52 3)), (0, q), (2, 52)]) (g' := (am_up h 52 5 t)) rfl ?_
    refine wp_eq (L' := [(2, 52), (0, ((w : Nat) : Int)), (0, p), (0, s), (0, d), (0, u), (0, (8 * ((P : Nat) : Int))), (0, q), w8, (0, t), w10]) (st' := [(0, ((P : Nat) : Int)), (0, q), (2, 52)]) (g' := (am_up h 52 5 t)) ?_ (by rfl) (by rw [hF _ _ (by unfold Sd; omega), h3]) (by rfl)
    refine wp_idiv rfl (by omega) (by omega) (by omega) ?_
    refine wp_eq (L' := [(2, 52), (0, ((w : Nat) : Int)), (0, p), (0, s), (0, d), (0, u), (0, (8 * ((P : Nat) : Int))), (0, q), w8, (0, t), w10]) (st' := [(0, (q / ((P : Nat) : Int))), (2, 52)]) (g' := (am_up h 52 5 t)) ?_ (by rfl) (by rw [Int.tdiv_eq_ediv_of_nonneg hq.1]) (by rfl)
    refine wp_n 3 (pc' := 162) (L' := [(2, 52), (0, ((w : Nat) : Int)), (0, p), (0, s), (0, d), (0, u), (0, (8 * ((P : Nat) : Int))), (0, q), w8, (0, t), w10]) (st' := [(0, 8), (0, ((q / ((P : Nat) : Int)) + 1)), (2, 52)]) (g' := (am_up h 52 5 t)) rfl ?_
    refine wp_irem rfl (by omega) (by omega) (by omega) ?_
    refine wp_eq (L' := [(2, 52), (0, ((w : Nat) : Int)), (0, p), (0, s), (0, d), (0, u), (0, (8 * ((P : Nat) : Int))), (0, q), w8, (0, t), w10]) (st' := [(0, (((q / ((P : Nat) : Int)) + 1) % 8)), (2, 52)]) (g' := (am_up h 52 5 t)) ?_ (by rfl) (by rw [Int.tmod_eq_emod_of_nonneg (show 0 ≤ q / (P : Int) + 1 by have := Int.ediv_nonneg hq.1 (show (0 : Int) ≤ (P : Int) by omega); omega)]) (by rfl)
    refine wp_n 7 (pc' := 176) (L' := [(2, 52), (0, ((w : Nat) : Int)), (0, p), (0, s), (0, d), (0, u), (0, (8 * ((P : Nat) : Int))), (0, q), w8, (0, t), w10]) (st' := [(0, (8 * ((P : Nat) : Int))), (0, (d - (u * t)))]) (g' := (am_up (am_up h 52 5 t) 52 6 (((q / ((P : Nat) : Int)) + 1) % 8))) rfl ?_
    refine wp_cs (as := [(0, (d - (u * t))), (0, (8 * ((P : Nat) : Int)))]) (rest := []) rfl (by decide) rfl (Nat.le_of_ble_eq_true rfl) (e_floorMod (by omega) (by omega)) (by decide) (fun r1 h2 => ?_)
    obtain rfl := h2
    refine wp_eq (L' := [(2, 52), (0, ((w : Nat) : Int)), (0, p), (0, s), (0, d), (0, u), (0, (8 * ((P : Nat) : Int))), (0, q), w8, (0, t), w10]) (st' := [(0, ((d - (u * t)) % (8 * ((P : Nat) : Int))))]) (g' := (am_up (am_up h 52 5 t) 52 6 (((q / ((P : Nat) : Int)) + 1) % 8))) ?_
    refine wp_n 6 (pc' := 190) (L' := [(2, 52), (0, ((w : Nat) : Int)), (0, p), (0, s), (0, d), (0, u), (0, (8 * ((P : Nat) : Int))), (0, q), w8, (0, t), (0, ((d - (u * t)) % (8 * ((P : Nat) : Int))))]) (st' := [(0, (h 52 3)), (0, (((q / ((P : Nat) : Int)) + 1) % 8)), (2, 52)]) (g' := (am_up (am_up h 52 5 t) 52 6 (((q / ((P : Nat) : Int)) + 1) % 8))) rfl ?_
    refine wp_eq (L' := [(2, 52), (0, ((w : Nat) : Int)), (0, p), (0, s), (0, d), (0, u), (0, (8 * ((P : Nat) : Int))), (0, q), w8, (0, t), (0, ((d - (u * t)) % (8 * ((P : Nat) : Int))))]) (st' := [(0, ((P : Nat) : Int)), (0, (((q / ((P : Nat) : Int)) + 1) % 8)), (2, 52)]) (g' := (am_up (am_up h 52 5 t) 52 6 (((q / ((P : Nat) : Int)) + 1) % 8))) ?_ (by rfl) (by rw [hF _ _ (by unfold Sd; omega), h3]) (by rfl)
    refine wp_n 4 (pc' := 196) (L' := [(2, 52), (0, ((w : Nat) : Int)), (0, p), (0, s), (0, d), (0, u), (0, (8 * ((P : Nat) : Int))), (0, q), w8, (0, t), (0, ((d - (u * t)) % (8 * ((P : Nat) : Int))))]) (st' := [(0, (8 * ((P : Nat) : Int))), (0, (((((q / ((P : Nat) : Int)) + 1) % 8) * ((P : Nat) : Int)) - ((d - (u * t)) % (8 * ((P : Nat) : Int))))), (2, 52)]) (g' := (am_up (am_up h 52 5 t) 52 6 (((q / ((P : Nat) : Int)) + 1) % 8))) rfl ?_
    refine wp_cs (as := [(0, (((((q / ((P : Nat) : Int)) + 1) % 8) * ((P : Nat) : Int)) - ((d - (u * t)) % (8 * ((P : Nat) : Int))))), (0, (8 * ((P : Nat) : Int)))]) (rest := [(2, 52)]) rfl (by decide) rfl (Nat.le_of_ble_eq_true rfl) (e_floorMod (by omega) (by omega)) (by decide) (fun r3 h4 => ?_)
    obtain rfl := h4
    refine wp_eq (L' := [(2, 52), (0, ((w : Nat) : Int)), (0, p), (0, s), (0, d), (0, u), (0, (8 * ((P : Nat) : Int))), (0, q), w8, (0, t), (0, ((d - (u * t)) % (8 * ((P : Nat) : Int))))]) (st' := [(0, ((((((q / ((P : Nat) : Int)) + 1) % 8) * ((P : Nat) : Int)) - ((d - (u * t)) % (8 * ((P : Nat) : Int)))) % (8 * ((P : Nat) : Int)))), (2, 52)]) (g' := (am_up (am_up h 52 5 t) 52 6 (((q / ((P : Nat) : Int)) + 1) % 8))) ?_
    refine wp_n 1 (pc' := 201) (L' := [(2, 52), (0, ((w : Nat) : Int)), (0, p), (0, s), (0, d), (0, u), (0, (8 * ((P : Nat) : Int))), (0, q), w8, (0, t), (0, ((d - (u * t)) % (8 * ((P : Nat) : Int))))]) (st' := [(0, 8), (0, ((((((q / ((P : Nat) : Int)) + 1) % 8) * ((P : Nat) : Int)) - ((d - (u * t)) % (8 * ((P : Nat) : Int)))) % (8 * ((P : Nat) : Int)))), (2, 52)]) (g' := (am_up (am_up h 52 5 t) 52 6 (((q / ((P : Nat) : Int)) + 1) % 8))) rfl ?_
    refine wp_idiv rfl (by omega) (by omega) (by omega) ?_
    refine wp_eq (L' := [(2, 52), (0, ((w : Nat) : Int)), (0, p), (0, s), (0, d), (0, u), (0, (8 * ((P : Nat) : Int))), (0, q), w8, (0, t), (0, ((d - (u * t)) % (8 * ((P : Nat) : Int))))]) (st' := [(0, (((((((q / ((P : Nat) : Int)) + 1) % 8) * ((P : Nat) : Int)) - ((d - (u * t)) % (8 * ((P : Nat) : Int)))) % (8 * ((P : Nat) : Int))) / 8)), (2, 52)]) (g' := (am_up (am_up h 52 5 t) 52 6 (((q / ((P : Nat) : Int)) + 1) % 8))) ?_ (by rfl) (by rw [Int.tdiv_eq_ediv_of_nonneg (Int.emod_nonneg _ (by omega))]) (by rfl)
    refine wp_n 3 (pc' := 207) (L' := [(2, 52), (0, ((w : Nat) : Int)), (0, p), (0, s), (0, d), (0, u), (0, (8 * ((P : Nat) : Int))), (0, q), w8, (0, t), (0, ((d - (u * t)) % (8 * ((P : Nat) : Int))))]) (st' := [(0, ((w : Nat) : Int)), (2, 52)]) (g' := (am_up (am_up (am_up h 52 5 t) 52 6 (((q / ((P : Nat) : Int)) + 1) % 8)) 52 7 (((((((q / ((P : Nat) : Int)) + 1) % 8) * ((P : Nat) : Int)) - ((d - (u * t)) % (8 * ((P : Nat) : Int)))) % (8 * ((P : Nat) : Int))) / 8))) rfl ?_
    refine wp_cv (as := [(2, 52), (0, ((w : Nat) : Int))]) (rest := []) rfl rfl rfl (Nat.le_of_ble_eq_true rfl) rfl (e_skip (P := P) (w := w) (st := (((q / ((P : Nat) : Int)) + 1) % 8)) (pk := (((((((q / ((P : Nat) : Int)) + 1) % 8) * ((P : Nat) : Int)) - ((d - (u * t)) % (8 * ((P : Nat) : Int)))) % (8 * ((P : Nat) : Int))) / 8)) (by rw [up_no (by omega), up_no (by omega), up_no (by omega), hF 52 3 (by unfold Sd; omega)]; exact h3) h5 (hI.rg.same fun c j q1 q2 => by rw [up_no (by omega), up_no (by omega), up_no (by omega)]; exact hF c j (by unfold Sd; omega)) (by omega) (by rw [up_no (by omega), up_eq]) up_eq (by omega) (by omega)) (by decide) (fun r5 h6 => ?_)
    obtain ⟨g207, rfl, hO207, hF207⟩ := h6
    refine wp_eq (L' := [(2, 52), (0, ((w : Nat) : Int)), (0, p), (0, s), (0, d), (0, u), (0, (8 * ((P : Nat) : Int))), (0, q), w8, (0, t), (0, ((d - (u * t)) % (8 * ((P : Nat) : Int))))]) (st' := []) (g' := g207) ?_
    exact wp_ret rfl rfl rfl ⟨_, rfl, ⟨by rw [hO, hF207 _ _ (by decide), up_no (by omega), up_no (by omega), up_eq], by rw [hSt, hF207 _ _ (by decide), up_no (by omega), up_eq], by rw [hPk, hF207 _ _ (by decide), up_eq], fun j hj => by
      rw [hO207 j hj, hSt, hPk]
      exact od_c (funext fun i => by rw [up_no (by omega), up_no (by omega), up_no (by omega)]; exact hF 2 i (by unfold Sd; omega)) (funext fun i => by rw [up_no (by omega), up_no (by omega), up_no (by omega)]; exact hF 4 i (by unfold Sd; omega)) 4⟩, (((hF.up (by unfold Sd; omega)).up (by unfold Sd; omega)).up (by unfold Sd; omega)).trans (hF207.d (by omega))⟩
  refine wp_n 8 (pc' := 34) (L' := [(2, 52), (0, ((w : Nat) : Int)), (0, p), (0, s), (0, d), (0, u), (0, (8 * ((P : Nat) : Int))), (0, p), (0, s), (0, 0), (9, 0)]) (st' := [(0, ((w : Nat) : Int)), (2, 5), (0, 3), (2, 50)]) (g' := g) rfl ?_
  refine wp_iald (k := 5) (w) rfl rfl (by omega) (by omega) (by decide) ?_
  refine wp_iast (k := 50) (3) rfl rfl (by omega) (by omega) (by decide) ?_
  have L36 : ∀ (lf : Nat) (n : Nat) (q v : Int) (h : am_G) (w10 : am_V), n < lf → (n ≤ 600) → (0 ≤ q ∧ q < 8 * (P : Int)) → (-998 ≤ v ∧ v ≤ 999) → (rollF g P (g 5 w) n q v (600 - (n : Int)) = rollF g P (g 5 w) 600 (p % (8 * (P : Int))) s 0) → (h 50 3 = g 5 w) → (FrD g h) → Wp sn sx 5 T1 36 [(2, 52), (0, ((w : Nat) : Int)), (0, p), (0, s), (0, d), (0, u), (0, (8 * ((P : Nat) : Int))), (0, q), (0, v), (0, (600 - (n : Int))), w10] [] (SH b) h (fun r => ∃ g', r = (none, SH b, g') ∧ RollC g g' P w p s d u ∧ FrD g g') := by
    intro lf
    induction lf with
    | zero => intro n q v h w10 hlf; exact absurd hlf (Nat.not_lt_zero _)
    | succ lf ih36 =>
      intro n q v h w10 hlf hn hq hv hroll h503 hF
      refine wp_n 2 (pc' := 41) (L' := [(2, 52), (0, ((w : Nat) : Int)), (0, p), (0, s), (0, d), (0, u), (0, (8 * ((P : Nat) : Int))), (0, q), (0, v), (0, (600 - (n : Int))), w10]) (st' := [(0, 600), (0, (600 - (n : Int)))]) (g' := h) rfl ?_
      refine wp_ic_ge rfl (fun c7 => ?_) (fun c7 => ?_)
      · have hn00 : n = 0 := by omega
        refine wp_eq (J144 (q) ((600 - (n : Int))) (h) ((0, v)) (w10) ?_ ?_ ?_ ?_) (by first | rfl | (simp; done) | (simp; omega)) (by rfl) (by rfl)
        · rw [← hroll]; first | exact rollF_stop (Or.inl (by omega)) | exact rollF_stop (Or.inr (Or.inl (by omega))) | exact rollF_stop (Or.inr (Or.inr (by omega)))
        · first | assumption | omega
        · first | assumption | omega
        · first | exact hF | exact hF51 | exact hF51.trans hE80.d
      · obtain ⟨n1, hn1⟩ : ∃ n1, n = n1 + 1 := ⟨n - 1, by omega⟩
        have hn1c : (600 : Int) - ((n - 1 : Nat) : Int) = 600 - (n : Int) + 1 := by omega
        refine wp_n 4 (pc' := 51) (L' := [(2, 52), (0, ((w : Nat) : Int)), (0, p), (0, s), (0, d), (0, u), (0, (8 * ((P : Nat) : Int))), (0, q), (0, v), (0, (600 - (n : Int))), w10]) (st' := [(0, (600 - (n : Int))), (0, q), (0, v), (2, 52)]) (g' := h) rfl ?_
        refine wp_cv (as := [(2, 52), (0, v), (0, q), (0, (600 - (n : Int)))]) (rest := []) rfl rfl rfl (Nat.le_of_ble_eq_true rfl) rfl (e_see (P := P) (by rw [hF 52 3 (by unfold Sd; omega)]; exact h3) h5 (by omega)) (by decide) (fun r8 h9 => ?_)
        obtain ⟨g51, rfl, hv51, hp51, ht51, hs51, hF51⟩ := h9
        have hF5 : ∀ c j, (c ≠ 50 ∨ j = 3) → g51 c j = h c j := hF51
        have hF51 : FrD g g51 := fun c j hc => (hF5 c j (Or.inl (by unfold Sd at hc; omega))).trans (hF c j hc)
        have hN51 : g51 50 0 = v ∧ g51 50 1 = q ∧ g51 50 2 = 600 - (n : Int) ∧ g51 50 3 = g 5 w ∧ g51 50 4 = q / (P : Int) := ⟨hv51, hp51, ht51, by rw [hF5 50 3 (Or.inr rfl)]; exact h503, hs51⟩
        have hnb0 := nl_nb (k := 1) (by decide) hN51 h5 (by unfold MB; omega) (by omega) (by unfold MB; omega) (by unfold MB; omega)
        have hnb1 := nl_nb (k := 0) (by decide) hN51 h5 (by unfold MB; omega) (by omega) (by unfold MB; omega) (by unfold MB; omega)
        have hT51 : TxW 0 g51 := hI.tx.same fun c j q1 q2 => hF51 c j (by unfold Sd; omega)
        have hT3 : ∀ j, g51 6 j = g 6 j := fun j => hF51 6 j (by unfold Sd; omega)
        have hl51 : -1 ≤ g51 6 4 ∧ g51 6 4 < g51 6 3 := by rw [hT3, hT3]; exact hlaw
        refine wp_eq (L' := [(2, 52), (0, ((w : Nat) : Int)), (0, p), (0, s), (0, d), (0, u), (0, (8 * ((P : Nat) : Int))), (0, q), (0, v), (0, (600 - (n : Int))), w10]) (st' := []) (g' := g51) ?_
        refine wp_n 2 (pc' := 57) (L' := [(2, 52), (0, ((w : Nat) : Int)), (0, p), (0, s), (0, d), (0, u), (0, (8 * ((P : Nat) : Int))), (0, q), (0, v), (0, (600 - (n : Int))), w10]) (st' := [(0, 1), (0, v)]) (g' := g51) rfl ?_
        refine wp_ic_lt rfl (fun c10 => ?_) (fun c10 => ?_)
        · refine wp_eq (J144 (q) ((600 - (n : Int))) (g51) ((0, v)) (w10) ?_ ?_ ?_ ?_) (by first | rfl | (simp; done) | (simp; omega)) (by rfl) (by rfl)
          · rw [← hroll]; first | exact rollF_stop (Or.inl (by omega)) | exact rollF_stop (Or.inr (Or.inl (by omega))) | exact rollF_stop (Or.inr (Or.inr (by omega)))
          · first | assumption | omega
          · first | assumption | omega
          · first | exact hF | exact hF51 | exact hF51.trans hE80.d
        · refine wp_n 10 (pc' := 80) (L' := [(2, 52), (0, ((w : Nat) : Int)), (0, p), (0, s), (0, d), (0, u), (0, (8 * ((P : Nat) : Int))), (0, q), (0, v), (0, (600 - (n : Int))), w10]) (st' := [(0, 8), (0, 1), (0, (g51 6 4)), (2, 6), (2, 49), (0, v)]) (g' := g51) rfl ?_
          refine wp_cv (as := [(2, 49), (2, 6), (0, (g51 6 4)), (0, 1), (0, 8)]) (rest := [(0, v)]) rfl rfl rfl (Nat.le_of_ble_eq_true rfl) rfl (e_work (k := 1) hT51 hl51 (by decide) hnb0) (by decide) (fun r11 h12 => ?_)
          obtain ⟨g80, rfl, hE80⟩ := h12
          have hv80 := tv_go (P := P) (k := 1) (w := 8) hI.tx (by decide) (fun a j q1 q2 => hF51 a j (by unfold Sd; omega)) hN51
          have hb80 := tv_in (g := g51) (N := g51 50) (t := g51 6 4) (k := 1) (w := 8) hT51 hl51 (by decide) hnb0 (by decide)
          rw [hv80] at hb80
          unfold MB at hb80
          refine wp_eq (L' := [(2, 52), (0, ((w : Nat) : Int)), (0, p), (0, s), (0, d), (0, u), (0, (8 * ((P : Nat) : Int))), (0, q), (0, v), (0, (600 - (n : Int))), w10]) (st' := [(0, (tv g51 (g51 50) (g51 6 4) 1 8)), (0, v)]) (g' := g80) ?_
          refine wp_eq (L' := [(2, 52), (0, ((w : Nat) : Int)), (0, p), (0, s), (0, d), (0, u), (0, (8 * ((P : Nat) : Int))), (0, q), (0, v), (0, (600 - (n : Int))), w10]) (st' := [(0, (tv g (NL P (g 5 w) v q (600 - (n : Int))) (g 6 4) 1 8)), (0, v)]) (g' := g80) ?_ (by rfl) (by rw [hv80]) (by rfl)
          refine wp_ic_gt rfl (fun c13 => ?_) (fun c13 => ?_)
          · refine wp_n 9 (pc' := 106) (L' := [(2, 52), (0, ((w : Nat) : Int)), (0, p), (0, s), (0, d), (0, u), (0, (8 * ((P : Nat) : Int))), (0, q), (0, v), (0, (600 - (n : Int))), w10]) (st' := [(0, 1), (0, 0), (0, (g80 6 4)), (2, 6), (2, 49)]) (g' := g80) rfl ?_
            refine wp_cv (as := [(2, 49), (2, 6), (0, (g80 6 4)), (0, 0), (0, 1)]) (rest := []) rfl rfl rfl (Nat.le_of_ble_eq_true rfl) rfl (e_work (k := 0) (hT51.same fun c j q1 q2 => hE80 c j (by omega) (by omega)) (by rw [hE80 6 4 (by decide) (Or.inl (by decide)), hE80 6 3 (by decide) (Or.inl (by decide))]; exact hl51) (by decide) (by rw [show g80 50 = g51 50 from funext fun j => hE80 50 j (by decide) (Or.inl (by decide))]; exact hnb1)) (by decide) (fun r14 h15 => ?_)
            obtain ⟨g106, rfl, hE106⟩ := h15
            have hv106 := tv_go (P := P) (k := 0) (w := 1) (N := g80 50) (h := g80) hI.tx (by decide) (fun a j q1 q2 => (hE80 a j (by omega) (by omega)).trans (hF51 a j (by unfold Sd; omega))) (by rw [show g80 50 = g51 50 from funext fun j => hE80 50 j (by decide) (Or.inl (by decide))]; exact hN51)
            have hb106 := tv_in (g := g80) (N := g80 50) (t := g80 6 4) (k := 0) (w := 1) (hT51.same fun c j q1 q2 => hE80 c j (by omega) (by omega)) (by rw [hE80 6 4 (by decide) (Or.inl (by decide)), hE80 6 3 (by decide) (Or.inl (by decide))]; exact hl51) (by decide) (by rw [show g80 50 = g51 50 from funext fun j => hE80 50 j (by decide) (Or.inl (by decide))]; exact hnb1) (by decide)
            rw [hv106] at hb106
            unfold MB at hb106
            have hcl := clL_in (tv g (NL P (g 5 w) v q (600 - (n : Int))) (g 6 4) 0 1)
            refine wp_eq (L' := [(2, 52), (0, ((w : Nat) : Int)), (0, p), (0, s), (0, d), (0, u), (0, (8 * ((P : Nat) : Int))), (0, q), (0, v), (0, (600 - (n : Int))), w10]) (st' := [(0, (tv g80 (g80 50) (g80 6 4) 0 1))]) (g' := g106) ?_
            refine wp_eq (L' := [(2, 52), (0, ((w : Nat) : Int)), (0, p), (0, s), (0, d), (0, u), (0, (8 * ((P : Nat) : Int))), (0, q), (0, v), (0, (600 - (n : Int))), w10]) (st' := [(0, (tv g (NL P (g 5 w) v q (600 - (n : Int))) (g 6 4) 0 1))]) (g' := g106) ?_ (by rfl) (by rw [hv106]) (by rfl)
            refine wp_n 5 (pc' := 118) (L' := [(2, 52), (0, ((w : Nat) : Int)), (0, p), (0, s), (0, d), (0, u), (0, (8 * ((P : Nat) : Int))), (0, q), (0, v), (0, (600 - (n : Int))), (0, (tv g (NL P (g 5 w) v q (600 - (n : Int))) (g 6 4) 0 1))]) (st' := [(0, (8 * ((P : Nat) : Int))), (0, (q + v))]) (g' := g106) rfl ?_
            refine wp_irem rfl (by omega) (by omega) (by omega) ?_
            refine wp_eq (L' := [(2, 52), (0, ((w : Nat) : Int)), (0, p), (0, s), (0, d), (0, u), (0, (8 * ((P : Nat) : Int))), (0, q), (0, v), (0, (600 - (n : Int))), (0, (tv g (NL P (g 5 w) v q (600 - (n : Int))) (g 6 4) 0 1))]) (st' := [(0, ((q + v) % (8 * ((P : Nat) : Int))))]) (g' := g106) ?_ (by rfl) (by rw [Int.tmod_eq_emod_of_nonneg (show 0 ≤ q + v by omega)]) (by rfl)
            refine wp_n 5 (pc' := 129) (L' := [(2, 52), (0, ((w : Nat) : Int)), (0, p), (0, s), (0, d), (0, u), (0, (8 * ((P : Nat) : Int))), (0, ((q + v) % (8 * ((P : Nat) : Int)))), (0, v), (0, (600 - (n : Int))), (0, (tv g (NL P (g 5 w) v q (600 - (n : Int))) (g 6 4) 0 1))]) (st' := [(0, (tv g (NL P (g 5 w) v q (600 - (n : Int))) (g 6 4) 0 1)), (0, 999), (0, 1), (0, v)]) (g' := g106) rfl ?_
            refine wp_cs (as := [(0, 999), (0, (tv g (NL P (g 5 w) v q (600 - (n : Int))) (g 6 4) 0 1))]) (rest := [(0, 1), (0, v)]) rfl (by decide) rfl (Nat.le_of_ble_eq_true rfl) (e_min (by omega) (by omega)) (by decide) (fun r16 h17 => ?_)
            obtain rfl := h17
            refine wp_eq (L' := [(2, 52), (0, ((w : Nat) : Int)), (0, p), (0, s), (0, d), (0, u), (0, (8 * ((P : Nat) : Int))), (0, ((q + v) % (8 * ((P : Nat) : Int)))), (0, v), (0, (600 - (n : Int))), (0, (tv g (NL P (g 5 w) v q (600 - (n : Int))) (g 6 4) 0 1))]) (st' := [(0, (if (tv g (NL P (g 5 w) v q (600 - (n : Int))) (g 6 4) 0 1) < 999 then (tv g (NL P (g 5 w) v q (600 - (n : Int))) (g 6 4) 0 1) else 999)), (0, 1), (0, v)]) (g' := g106) ?_
            refine wp_cs (as := [(0, 1), (0, (if (tv g (NL P (g 5 w) v q (600 - (n : Int))) (g 6 4) 0 1) < 999 then (tv g (NL P (g 5 w) v q (600 - (n : Int))) (g 6 4) 0 1) else 999))]) (rest := [(0, v)]) rfl (by decide) rfl (Nat.le_of_ble_eq_true rfl) (e_max (by omega) (by split <;> omega)) (by decide) (fun r18 h19 => ?_)
            obtain rfl := h19
            refine wp_eq (L' := [(2, 52), (0, ((w : Nat) : Int)), (0, p), (0, s), (0, d), (0, u), (0, (8 * ((P : Nat) : Int))), (0, ((q + v) % (8 * ((P : Nat) : Int)))), (0, v), (0, (600 - (n : Int))), (0, (tv g (NL P (g 5 w) v q (600 - (n : Int))) (g 6 4) 0 1))]) (st' := [(0, (if 1 < (if (tv g (NL P (g 5 w) v q (600 - (n : Int))) (g 6 4) 0 1) < 999 then (tv g (NL P (g 5 w) v q (600 - (n : Int))) (g 6 4) 0 1) else 999) then (if (tv g (NL P (g 5 w) v q (600 - (n : Int))) (g 6 4) 0 1) < 999 then (tv g (NL P (g 5 w) v q (600 - (n : Int))) (g 6 4) 0 1) else 999) else 1)), (0, v)]) (g' := g106) ?_
            refine wp_eq (L' := [(2, 52), (0, ((w : Nat) : Int)), (0, p), (0, s), (0, d), (0, u), (0, (8 * ((P : Nat) : Int))), (0, ((q + v) % (8 * ((P : Nat) : Int)))), (0, v), (0, (600 - (n : Int))), (0, (tv g (NL P (g 5 w) v q (600 - (n : Int))) (g 6 4) 0 1))]) (st' := [(0, (clL (tv g (NL P (g 5 w) v q (600 - (n : Int))) (g 6 4) 0 1))), (0, v)]) (g' := g106) ?_ (by rfl) (by rw [clL_eq]) (by rfl)
            refine wp_n 4 (pc' := 36) (L' := [(2, 52), (0, ((w : Nat) : Int)), (0, p), (0, s), (0, d), (0, u), (0, (8 * ((P : Nat) : Int))), (0, ((q + v) % (8 * ((P : Nat) : Int)))), (0, (v - (clL (tv g (NL P (g 5 w) v q (600 - (n : Int))) (g 6 4) 0 1)))), (0, ((600 - (n : Int)) + 1)), (0, (tv g (NL P (g 5 w) v q (600 - (n : Int))) (g 6 4) 0 1))]) (st' := []) (g' := g106) rfl ?_
            refine wp_eq (ih36 (n - 1) (((q + v) % (8 * ((P : Nat) : Int)))) ((v - (clL (tv g (NL P (g 5 w) v q (600 - (n : Int))) (g 6 4) 0 1)))) (g106) ((0, (tv g (NL P (g 5 w) v q (600 - (n : Int))) (g 6 4) 0 1))) ?_ ?_ ?_ ?_ ?_ ?_ ?_) (by rw [hn1c]) (by rfl) (by rfl)
            · omega
            · omega
            · exact ⟨Int.emod_nonneg _ (by omega), Int.emod_lt_of_pos _ (by omega)⟩
            · omega
            · rw [hn1c]; exact (rollF_go2 (n := n) (p := q) (v := v) (t := 600 - (n : Int)) (by omega) (by omega) (by omega)).symm.trans hroll
            · rw [hE106 50 3 (by decide) (Or.inl (by decide)), hE80 50 3 (by decide) (Or.inl (by decide)), hF5 50 3 (Or.inr rfl)]; exact h503
            · exact (hF51.trans hE80.d).trans hE106.d
          · refine wp_n 1 (pc' := 144) (L' := [(2, 52), (0, ((w : Nat) : Int)), (0, p), (0, s), (0, d), (0, u), (0, (8 * ((P : Nat) : Int))), (0, q), (0, v), (0, (600 - (n : Int))), w10]) (st' := []) (g' := g80) rfl ?_
            refine wp_eq (J144 (q) ((600 - (n : Int))) (g80) ((0, v)) (w10) ?_ ?_ ?_ ?_) (by first | rfl | (simp; done) | (simp; omega)) (by rfl) (by rfl)
            · rw [← hroll]; first | exact rollF_stop (Or.inl (by omega)) | exact rollF_stop (Or.inr (Or.inl (by omega))) | exact rollF_stop (Or.inr (Or.inr (by omega)))
            · first | assumption | omega
            · first | assumption | omega
            · first | exact hF | exact hF51 | exact hF51.trans hE80.d
  refine wp_eq (L36 (_ + 1) (600) (p) (s) ((am_up g 50 3 (g 5 w))) ((9, 0)) (Nat.lt_succ_self _) ?_ ?_ ?_ ?_ ?_ ?_) (by rfl) (by rfl) (by rfl)
  · decide
  · exact hp
  · omega
  · rw [Int.emod_eq_of_lt hp.1 hp.2]; rfl
  · exact up_eq
  · exact FrD.rfl.up (by unfold Sd; omega)
