/-! GOAL: the class's weighing -/
def gw (y : Int) (a s : Nat) : Nat := if (a : Int) + y * (s : Int) < 40 then ((a : Int) + y * (s : Int)).toNat else 40
theorem gw_le (y : Int) (a s : Nat) : gw y a s ≤ 40 := by unfold gw; split <;> omega
def hv (g : am_G) (a : Nat) : Int := g 123 a * 1000000000000000 + g 124 a
def hw (g : am_G) (p y : Int) (a s : Nat) : Int := (p * hv g (gw y a s) + (1000 - p) * hv g (a - s)) / 1000
def ob (g : am_G) : Int := g 120 4 * 1000000000000000 + g 120 5
def obv (g : am_G) : Prop := 0 ≤ g 120 4 ∧ g 120 4 ≤ 1000000000000000 ∧ 0 ≤ g 120 5 ∧ g 120 5 < 1000000000000000
def Hv (g : am_G) : Prop := ∀ a, a < 41 → 0 ≤ g 123 a ∧ g 123 a ≤ 1000000000000000 ∧ 0 ≤ g 124 a ∧ g 124 a < 1000000000000000
def FrW (g h : am_G) : Prop := ∀ c j, ¬ (c = 120 ∧ 4 ≤ j ∧ j ≤ 6) → h c j = g c j
theorem hv_x (p A B C D : Int) : p * (A * 1000000000000000 + B) + (1000 - p) * (C * 1000000000000000 + D) = (p * A + (1000 - p) * C) * 1000000000000000 + (p * B + (1000 - p) * D) := by grind
theorem gmx_sc {f f' : Nat → Int} {K : Int} (hK : 0 < K) {n : Nat} (h : ∀ j, j ≤ n → f' j = f j * K) : gmx f' n = gmx f n := by
  induction n with
  | zero => rfl
  | succ n ih =>
    rw [gmx, gmx, ih fun j hj => h j (by omega), h (n + 1) (Nat.le_refl _), h (gmx f n) (Nat.le_trans (gmx_le f n) (by omega))]
    by_cases e : f (gmx f n) < f (n + 1)
    · rw [if_pos e, if_pos (Int.mul_lt_mul_of_pos_right e hK)]
    · rw [if_neg e, if_neg fun e2 => e (Int.lt_of_mul_lt_mul_right e2 (by omega))]
set_option maxHeartbeats 2000000 in
set_option maxRecDepth 20000 in
theorem e_weigh {sn : Nat} {sx : Nat → Int} {b : Nat} {g : am_G} {l w s : Nat} {p : Int} (hl : l ≤ 40) (hw : w ≤ 40) (hp : 0 ≤ p ∧ p ≤ 1000) (hH : Hv g) (hb : (g 120 4 = -1 ∧ g 120 5 = -1) ∨ obv g) : Ev sn sx 1 46 [(2, 120), (0, ((l : Nat) : Int)), (0, ((w : Nat) : Int)), (0, p), (0, ((s : Nat) : Int))] (SH b) g (fun r => ∃ g', r = (none, SH b, g') ∧ FrW g g' ∧ ((ob g < ((p * hv g w + (1000 - p) * hv g l) / 1000) ∧ ob g' = ((p * hv g w + (1000 - p) * hv g l) / 1000) ∧ obv g' ∧ g' 120 6 = (s : Int)) ∨ (((p * hv g w + (1000 - p) * hv g l) / 1000) ≤ ob g ∧ g' = g))) := by
  have a1 := hH w (by omega)
  have a2 := hH l (by omega)
  have hX : ((p * hv g w + (1000 - p) * hv g l) / 1000) = ((p * g 123 w + (1000 - p) * g 123 l) * 1000000000000000 + (p * g 124 w + (1000 - p) * g 124 l)) / 1000 := by unfold hv; rw [hv_x]
  have b1 := Int.mul_nonneg hp.1 a1.1
  have b2 := Int.mul_nonneg (show 0 ≤ 1000 - p by omega) a2.1
  have b3 := Int.mul_nonneg hp.1 a1.2.2.1
  have b4 := Int.mul_nonneg (show 0 ≤ 1000 - p by omega) a2.2.2.1
  have c1 := Int.mul_le_mul_of_nonneg_left a1.2.1 hp.1
  have c2 := Int.mul_le_mul_of_nonneg_left a2.2.1 (show 0 ≤ 1000 - p by omega)
  have c3 := Int.mul_le_mul_of_nonneg_left (show g 124 w ≤ 999999999999999 by omega) hp.1
  have c4 := Int.mul_le_mul_of_nonneg_left (show g 124 l ≤ 999999999999999 by omega) (show 0 ≤ 1000 - p by omega)
  have d5 : 0 ≤ (p * g 123 w + (1000 - p) * g 123 l) ∧ (p * g 123 w + (1000 - p) * g 123 l) ≤ 1000000000000000000 := by omega
  have d7 : 0 ≤ (p * g 124 w + (1000 - p) * g 124 l) ∧ (p * g 124 w + (1000 - p) * g 124 l) ≤ 999999999999999000 := by omega
  unfold obv at hb
  refine ev_of (K := 0) T46 (by decide) rfl rfl (Nat.le_of_ble_eq_true rfl) ?_
  refine wp_eq (L' := [(2, 120), (0, ((l : Nat) : Int)), (0, ((w : Nat) : Int)), (0, p), (0, ((s : Nat) : Int)), (9, 0), (9, 0), (9, 0), (9, 0), (9, 0), (9, 0), (9, 0), (9, 0)]) (st' := []) (g' := g) ?_
  refine wp_n 1 (pc' := 1) (L' := [(2, 120), (0, ((l : Nat) : Int)), (0, ((w : Nat) : Int)), (0, p), (0, ((s : Nat) : Int)), (9, 0), (9, 0), (9, 0), (9, 0), (9, 0), (9, 0), (9, 0), (9, 0)]) (st' := [(0, p)]) (g' := g) rfl ?_
  refine wp_i2l rfl (by omega) ?_
  refine wp_n 3 (pc' := 7) (L' := [(2, 120), (0, ((l : Nat) : Int)), (0, ((w : Nat) : Int)), (0, p), (0, ((s : Nat) : Int)), (9, 0), (9, 0), (9, 0), (9, 0), (9, 0), (9, 0), (9, 0), (9, 0)]) (st' := [(0, ((w : Nat) : Int)), (2, 123), (1, p)]) (g' := g) rfl ?_
  refine wp_lald (k := 123) (w) rfl rfl (by omega) (by omega) (by decide) ?_
  refine wp_n 4 (pc' := 14) (L' := [(2, 120), (0, ((l : Nat) : Int)), (0, ((w : Nat) : Int)), (0, p), (0, ((s : Nat) : Int)), (9, 0), (9, 0), (9, 0), (9, 0), (9, 0), (9, 0), (9, 0), (9, 0)]) (st' := [(0, (1000 - p)), (1, (p * (g 123 w)))]) (g' := g) rfl ?_
  refine wp_i2l rfl (by omega) ?_
  refine wp_n 3 (pc' := 20) (L' := [(2, 120), (0, ((l : Nat) : Int)), (0, ((w : Nat) : Int)), (0, p), (0, ((s : Nat) : Int)), (9, 0), (9, 0), (9, 0), (9, 0), (9, 0), (9, 0), (9, 0), (9, 0)]) (st' := [(0, ((l : Nat) : Int)), (2, 123), (1, (1000 - p)), (1, (p * (g 123 w)))]) (g' := g) rfl ?_
  refine wp_lald (k := 123) (l) rfl rfl (by omega) (by omega) (by decide) ?_
  refine wp_n 4 (pc' := 26) (L' := [(2, 120), (0, ((l : Nat) : Int)), (0, ((w : Nat) : Int)), (0, p), (0, ((s : Nat) : Int)), (1, ((p * (g 123 w)) + ((1000 - p) * (g 123 l)))), (9, 0), (9, 0), (9, 0), (9, 0), (9, 0), (9, 0), (9, 0)]) (st' := [(0, p)]) (g' := g) rfl ?_
  refine wp_i2l rfl (by omega) ?_
  refine wp_n 3 (pc' := 32) (L' := [(2, 120), (0, ((l : Nat) : Int)), (0, ((w : Nat) : Int)), (0, p), (0, ((s : Nat) : Int)), (1, ((p * (g 123 w)) + ((1000 - p) * (g 123 l)))), (9, 0), (9, 0), (9, 0), (9, 0), (9, 0), (9, 0), (9, 0)]) (st' := [(0, ((w : Nat) : Int)), (2, 124), (1, p)]) (g' := g) rfl ?_
  refine wp_lald (k := 124) (w) rfl rfl (by omega) (by omega) (by decide) ?_
  refine wp_n 4 (pc' := 39) (L' := [(2, 120), (0, ((l : Nat) : Int)), (0, ((w : Nat) : Int)), (0, p), (0, ((s : Nat) : Int)), (1, ((p * (g 123 w)) + ((1000 - p) * (g 123 l)))), (9, 0), (9, 0), (9, 0), (9, 0), (9, 0), (9, 0), (9, 0)]) (st' := [(0, (1000 - p)), (1, (p * (g 124 w)))]) (g' := g) rfl ?_
  refine wp_i2l rfl (by omega) ?_
  refine wp_n 3 (pc' := 45) (L' := [(2, 120), (0, ((l : Nat) : Int)), (0, ((w : Nat) : Int)), (0, p), (0, ((s : Nat) : Int)), (1, ((p * (g 123 w)) + ((1000 - p) * (g 123 l)))), (9, 0), (9, 0), (9, 0), (9, 0), (9, 0), (9, 0), (9, 0)]) (st' := [(0, ((l : Nat) : Int)), (2, 124), (1, (1000 - p)), (1, (p * (g 124 w)))]) (g' := g) rfl ?_
  refine wp_lald (k := 124) (l) rfl rfl (by omega) (by omega) (by decide) ?_
  refine wp_n 5 (pc' := 55) (L' := [(2, 120), (0, ((l : Nat) : Int)), (0, ((w : Nat) : Int)), (0, p), (0, ((s : Nat) : Int)), (1, ((p * (g 123 w)) + ((1000 - p) * (g 123 l)))), (9, 0), (1, ((p * (g 124 w)) + ((1000 - p) * (g 124 l)))), (9, 0), (9, 0), (9, 0), (9, 0), (9, 0)]) (st' := [(1, 1000), (1, ((p * (g 123 w)) + ((1000 - p) * (g 123 l))))]) (g' := g) rfl ?_
  refine wp_ldiv rfl (by omega) (by omega) (by omega) ?_
  refine wp_eq (L' := [(2, 120), (0, ((l : Nat) : Int)), (0, ((w : Nat) : Int)), (0, p), (0, ((s : Nat) : Int)), (1, ((p * (g 123 w)) + ((1000 - p) * (g 123 l)))), (9, 0), (1, ((p * (g 124 w)) + ((1000 - p) * (g 124 l)))), (9, 0), (9, 0), (9, 0), (9, 0), (9, 0)]) (st' := [(1, (((p * (g 123 w)) + ((1000 - p) * (g 123 l))) / 1000))]) (g' := g) ?_ (by rfl) (by rw [Int.tdiv_eq_ediv_of_nonneg d5.1]) (by rfl)
  refine wp_n 3 (pc' := 63) (L' := [(2, 120), (0, ((l : Nat) : Int)), (0, ((w : Nat) : Int)), (0, p), (0, ((s : Nat) : Int)), (1, ((p * (g 123 w)) + ((1000 - p) * (g 123 l)))), (9, 0), (1, ((p * (g 124 w)) + ((1000 - p) * (g 124 l)))), (9, 0), (1, (((p * (g 123 w)) + ((1000 - p) * (g 123 l))) / 1000)), (9, 0), (9, 0), (9, 0)]) (st' := [(1, 1000), (1, ((p * (g 123 w)) + ((1000 - p) * (g 123 l))))]) (g' := g) rfl ?_
  refine wp_lrem rfl (by omega) (by omega) (by omega) ?_
  refine wp_eq (L' := [(2, 120), (0, ((l : Nat) : Int)), (0, ((w : Nat) : Int)), (0, p), (0, ((s : Nat) : Int)), (1, ((p * (g 123 w)) + ((1000 - p) * (g 123 l)))), (9, 0), (1, ((p * (g 124 w)) + ((1000 - p) * (g 124 l)))), (9, 0), (1, (((p * (g 123 w)) + ((1000 - p) * (g 123 l))) / 1000)), (9, 0), (9, 0), (9, 0)]) (st' := [(1, (((p * (g 123 w)) + ((1000 - p) * (g 123 l))) % 1000))]) (g' := g) ?_ (by rfl) (by rw [Int.tmod_eq_emod_of_nonneg d5.1]) (by rfl)
  refine wp_n 4 (pc' := 73) (L' := [(2, 120), (0, ((l : Nat) : Int)), (0, ((w : Nat) : Int)), (0, p), (0, ((s : Nat) : Int)), (1, ((p * (g 123 w)) + ((1000 - p) * (g 123 l)))), (9, 0), (1, ((p * (g 124 w)) + ((1000 - p) * (g 124 l)))), (9, 0), (1, (((p * (g 123 w)) + ((1000 - p) * (g 123 l))) / 1000)), (9, 0), (9, 0), (9, 0)]) (st' := [(1, 1000), (1, ((p * (g 124 w)) + ((1000 - p) * (g 124 l)))), (1, ((((p * (g 123 w)) + ((1000 - p) * (g 123 l))) % 1000) * 1000000000000))]) (g' := g) rfl ?_
  refine wp_ldiv rfl (by omega) (by omega) (by omega) ?_
  refine wp_eq (L' := [(2, 120), (0, ((l : Nat) : Int)), (0, ((w : Nat) : Int)), (0, p), (0, ((s : Nat) : Int)), (1, ((p * (g 123 w)) + ((1000 - p) * (g 123 l)))), (9, 0), (1, ((p * (g 124 w)) + ((1000 - p) * (g 124 l)))), (9, 0), (1, (((p * (g 123 w)) + ((1000 - p) * (g 123 l))) / 1000)), (9, 0), (9, 0), (9, 0)]) (st' := [(1, (((p * (g 124 w)) + ((1000 - p) * (g 124 l))) / 1000)), (1, ((((p * (g 123 w)) + ((1000 - p) * (g 123 l))) % 1000) * 1000000000000))]) (g' := g) ?_ (by rfl) (by rw [Int.tdiv_eq_ediv_of_nonneg d7.1]) (by rfl)
  refine wp_n 4 (pc' := 82) (L' := [(2, 120), (0, ((l : Nat) : Int)), (0, ((w : Nat) : Int)), (0, p), (0, ((s : Nat) : Int)), (1, ((p * (g 123 w)) + ((1000 - p) * (g 123 l)))), (9, 0), (1, ((p * (g 124 w)) + ((1000 - p) * (g 124 l)))), (9, 0), (1, (((p * (g 123 w)) + ((1000 - p) * (g 123 l))) / 1000)), (9, 0), (1, (((((p * (g 123 w)) + ((1000 - p) * (g 123 l))) % 1000) * 1000000000000) + (((p * (g 124 w)) + ((1000 - p) * (g 124 l))) / 1000))), (9, 0)]) (st' := [(1, 1000000000000000), (1, (((((p * (g 123 w)) + ((1000 - p) * (g 123 l))) % 1000) * 1000000000000) + (((p * (g 124 w)) + ((1000 - p) * (g 124 l))) / 1000)))]) (g' := g) rfl ?_
  refine wp_lc_lt rfl rfl (by omega) (by omega) (fun c1 => ?_) (fun c1 => ?_)
  · refine wp_n 3 (pc' := 106) (L' := [(2, 120), (0, ((l : Nat) : Int)), (0, ((w : Nat) : Int)), (0, p), (0, ((s : Nat) : Int)), (1, ((p * (g 123 w)) + ((1000 - p) * (g 123 l)))), (9, 0), (1, ((p * (g 124 w)) + ((1000 - p) * (g 124 l)))), (9, 0), (1, (((p * (g 123 w)) + ((1000 - p) * (g 123 l))) / 1000)), (9, 0), (1, (((((p * (g 123 w)) + ((1000 - p) * (g 123 l))) % 1000) * 1000000000000) + (((p * (g 124 w)) + ((1000 - p) * (g 124 l))) / 1000))), (9, 0)]) (st' := [(1, (g 120 4)), (1, (((p * (g 123 w)) + ((1000 - p) * (g 123 l))) / 1000))]) (g' := g) rfl ?_
    refine wp_lc_gt rfl rfl (by omega) (by omega) (fun c2 => ?_) (fun c2 => ?_)
    · refine wp_n 9 (pc' := 148) (L' := [(2, 120), (0, ((l : Nat) : Int)), (0, ((w : Nat) : Int)), (0, p), (0, ((s : Nat) : Int)), (1, ((p * (g 123 w)) + ((1000 - p) * (g 123 l)))), (9, 0), (1, ((p * (g 124 w)) + ((1000 - p) * (g 124 l)))), (9, 0), (1, (((p * (g 123 w)) + ((1000 - p) * (g 123 l))) / 1000)), (9, 0), (1, (((((p * (g 123 w)) + ((1000 - p) * (g 123 l))) % 1000) * 1000000000000) + (((p * (g 124 w)) + ((1000 - p) * (g 124 l))) / 1000))), (9, 0)]) (st' := []) (g' := (am_up (am_up (am_up g 120 4 (((p * (g 123 w)) + ((1000 - p) * (g 123 l))) / 1000)) 120 5 (((((p * (g 123 w)) + ((1000 - p) * (g 123 l))) % 1000) * 1000000000000) + (((p * (g 124 w)) + ((1000 - p) * (g 124 l))) / 1000))) 120 6 ((s : Nat) : Int))) rfl ?_
      first
      | (exfalso; omega)
      | exact wp_ret rfl rfl rfl ⟨_, rfl, fun _ _ _ => rfl, Or.inr ⟨by rw [hX]; unfold ob; omega, rfl⟩⟩
      | exact wp_ret rfl rfl rfl ⟨_, rfl, fun c j q => by rw [up_no (by omega), up_no (by omega), up_no (by omega)], Or.inl ⟨by rw [hX]; unfold ob; omega, by rw [hX]; unfold ob; rw [up_nj (by decide), up_nj (by decide), up_eq, up_nj (by decide), up_eq]; omega, by unfold obv; rw [up_nj (by decide), up_nj (by decide), up_eq, up_nj (by decide), up_eq]; omega, by rw [up_eq]⟩⟩
    · refine wp_n 3 (pc' := 116) (L' := [(2, 120), (0, ((l : Nat) : Int)), (0, ((w : Nat) : Int)), (0, p), (0, ((s : Nat) : Int)), (1, ((p * (g 123 w)) + ((1000 - p) * (g 123 l)))), (9, 0), (1, ((p * (g 124 w)) + ((1000 - p) * (g 124 l)))), (9, 0), (1, (((p * (g 123 w)) + ((1000 - p) * (g 123 l))) / 1000)), (9, 0), (1, (((((p * (g 123 w)) + ((1000 - p) * (g 123 l))) % 1000) * 1000000000000) + (((p * (g 124 w)) + ((1000 - p) * (g 124 l))) / 1000))), (9, 0)]) (st' := [(1, (g 120 4)), (1, (((p * (g 123 w)) + ((1000 - p) * (g 123 l))) / 1000))]) (g' := g) rfl ?_
      refine wp_lc_ne rfl rfl (by omega) (by omega) (fun c3 => ?_) (fun c3 => ?_)
      · first
        | (exfalso; omega)
        | exact wp_ret rfl rfl rfl ⟨_, rfl, fun _ _ _ => rfl, Or.inr ⟨by rw [hX]; unfold ob; omega, rfl⟩⟩
        | exact wp_ret rfl rfl rfl ⟨_, rfl, fun c j q => by rw [up_no (by omega), up_no (by omega), up_no (by omega)], Or.inl ⟨by rw [hX]; unfold ob; omega, by rw [hX]; unfold ob; rw [up_nj (by decide), up_nj (by decide), up_eq, up_nj (by decide), up_eq]; omega, by unfold obv; rw [up_nj (by decide), up_nj (by decide), up_eq, up_nj (by decide), up_eq]; omega, by rw [up_eq]⟩⟩
      · refine wp_n 3 (pc' := 126) (L' := [(2, 120), (0, ((l : Nat) : Int)), (0, ((w : Nat) : Int)), (0, p), (0, ((s : Nat) : Int)), (1, ((p * (g 123 w)) + ((1000 - p) * (g 123 l)))), (9, 0), (1, ((p * (g 124 w)) + ((1000 - p) * (g 124 l)))), (9, 0), (1, (((p * (g 123 w)) + ((1000 - p) * (g 123 l))) / 1000)), (9, 0), (1, (((((p * (g 123 w)) + ((1000 - p) * (g 123 l))) % 1000) * 1000000000000) + (((p * (g 124 w)) + ((1000 - p) * (g 124 l))) / 1000))), (9, 0)]) (st' := [(1, (g 120 5)), (1, (((((p * (g 123 w)) + ((1000 - p) * (g 123 l))) % 1000) * 1000000000000) + (((p * (g 124 w)) + ((1000 - p) * (g 124 l))) / 1000)))]) (g' := g) rfl ?_
        refine wp_lc_le rfl rfl (by omega) (by omega) (fun c4 => ?_) (fun c4 => ?_)
        · first
          | (exfalso; omega)
          | exact wp_ret rfl rfl rfl ⟨_, rfl, fun _ _ _ => rfl, Or.inr ⟨by rw [hX]; unfold ob; omega, rfl⟩⟩
          | exact wp_ret rfl rfl rfl ⟨_, rfl, fun c j q => by rw [up_no (by omega), up_no (by omega), up_no (by omega)], Or.inl ⟨by rw [hX]; unfold ob; omega, by rw [hX]; unfold ob; rw [up_nj (by decide), up_nj (by decide), up_eq, up_nj (by decide), up_eq]; omega, by unfold obv; rw [up_nj (by decide), up_nj (by decide), up_eq, up_nj (by decide), up_eq]; omega, by rw [up_eq]⟩⟩
        · refine wp_n 9 (pc' := 148) (L' := [(2, 120), (0, ((l : Nat) : Int)), (0, ((w : Nat) : Int)), (0, p), (0, ((s : Nat) : Int)), (1, ((p * (g 123 w)) + ((1000 - p) * (g 123 l)))), (9, 0), (1, ((p * (g 124 w)) + ((1000 - p) * (g 124 l)))), (9, 0), (1, (((p * (g 123 w)) + ((1000 - p) * (g 123 l))) / 1000)), (9, 0), (1, (((((p * (g 123 w)) + ((1000 - p) * (g 123 l))) % 1000) * 1000000000000) + (((p * (g 124 w)) + ((1000 - p) * (g 124 l))) / 1000))), (9, 0)]) (st' := []) (g' := (am_up (am_up (am_up g 120 4 (((p * (g 123 w)) + ((1000 - p) * (g 123 l))) / 1000)) 120 5 (((((p * (g 123 w)) + ((1000 - p) * (g 123 l))) % 1000) * 1000000000000) + (((p * (g 124 w)) + ((1000 - p) * (g 124 l))) / 1000))) 120 6 ((s : Nat) : Int))) rfl ?_
          first
          | (exfalso; omega)
          | exact wp_ret rfl rfl rfl ⟨_, rfl, fun _ _ _ => rfl, Or.inr ⟨by rw [hX]; unfold ob; omega, rfl⟩⟩
          | exact wp_ret rfl rfl rfl ⟨_, rfl, fun c j q => by rw [up_no (by omega), up_no (by omega), up_no (by omega)], Or.inl ⟨by rw [hX]; unfold ob; omega, by rw [hX]; unfold ob; rw [up_nj (by decide), up_nj (by decide), up_eq, up_nj (by decide), up_eq]; omega, by unfold obv; rw [up_nj (by decide), up_nj (by decide), up_eq, up_nj (by decide), up_eq]; omega, by rw [up_eq]⟩⟩
  · refine wp_n 11 (pc' := 106) (L' := [(2, 120), (0, ((l : Nat) : Int)), (0, ((w : Nat) : Int)), (0, p), (0, ((s : Nat) : Int)), (1, ((p * (g 123 w)) + ((1000 - p) * (g 123 l)))), (9, 0), (1, ((p * (g 124 w)) + ((1000 - p) * (g 124 l)))), (9, 0), (1, ((((p * (g 123 w)) + ((1000 - p) * (g 123 l))) / 1000) + 1)), (9, 0), (1, ((((((p * (g 123 w)) + ((1000 - p) * (g 123 l))) % 1000) * 1000000000000) + (((p * (g 124 w)) + ((1000 - p) * (g 124 l))) / 1000)) - 1000000000000000)), (9, 0)]) (st' := [(1, (g 120 4)), (1, ((((p * (g 123 w)) + ((1000 - p) * (g 123 l))) / 1000) + 1))]) (g' := g) rfl ?_
    refine wp_lc_gt rfl rfl (by omega) (by omega) (fun c5 => ?_) (fun c5 => ?_)
    · refine wp_n 9 (pc' := 148) (L' := [(2, 120), (0, ((l : Nat) : Int)), (0, ((w : Nat) : Int)), (0, p), (0, ((s : Nat) : Int)), (1, ((p * (g 123 w)) + ((1000 - p) * (g 123 l)))), (9, 0), (1, ((p * (g 124 w)) + ((1000 - p) * (g 124 l)))), (9, 0), (1, ((((p * (g 123 w)) + ((1000 - p) * (g 123 l))) / 1000) + 1)), (9, 0), (1, ((((((p * (g 123 w)) + ((1000 - p) * (g 123 l))) % 1000) * 1000000000000) + (((p * (g 124 w)) + ((1000 - p) * (g 124 l))) / 1000)) - 1000000000000000)), (9, 0)]) (st' := []) (g' := (am_up (am_up (am_up g 120 4 ((((p * (g 123 w)) + ((1000 - p) * (g 123 l))) / 1000) + 1)) 120 5 ((((((p * (g 123 w)) + ((1000 - p) * (g 123 l))) % 1000) * 1000000000000) + (((p * (g 124 w)) + ((1000 - p) * (g 124 l))) / 1000)) - 1000000000000000)) 120 6 ((s : Nat) : Int))) rfl ?_
      first
      | (exfalso; omega)
      | exact wp_ret rfl rfl rfl ⟨_, rfl, fun _ _ _ => rfl, Or.inr ⟨by rw [hX]; unfold ob; omega, rfl⟩⟩
      | exact wp_ret rfl rfl rfl ⟨_, rfl, fun c j q => by rw [up_no (by omega), up_no (by omega), up_no (by omega)], Or.inl ⟨by rw [hX]; unfold ob; omega, by rw [hX]; unfold ob; rw [up_nj (by decide), up_nj (by decide), up_eq, up_nj (by decide), up_eq]; omega, by unfold obv; rw [up_nj (by decide), up_nj (by decide), up_eq, up_nj (by decide), up_eq]; omega, by rw [up_eq]⟩⟩
    · refine wp_n 3 (pc' := 116) (L' := [(2, 120), (0, ((l : Nat) : Int)), (0, ((w : Nat) : Int)), (0, p), (0, ((s : Nat) : Int)), (1, ((p * (g 123 w)) + ((1000 - p) * (g 123 l)))), (9, 0), (1, ((p * (g 124 w)) + ((1000 - p) * (g 124 l)))), (9, 0), (1, ((((p * (g 123 w)) + ((1000 - p) * (g 123 l))) / 1000) + 1)), (9, 0), (1, ((((((p * (g 123 w)) + ((1000 - p) * (g 123 l))) % 1000) * 1000000000000) + (((p * (g 124 w)) + ((1000 - p) * (g 124 l))) / 1000)) - 1000000000000000)), (9, 0)]) (st' := [(1, (g 120 4)), (1, ((((p * (g 123 w)) + ((1000 - p) * (g 123 l))) / 1000) + 1))]) (g' := g) rfl ?_
      refine wp_lc_ne rfl rfl (by omega) (by omega) (fun c6 => ?_) (fun c6 => ?_)
      · first
        | (exfalso; omega)
        | exact wp_ret rfl rfl rfl ⟨_, rfl, fun _ _ _ => rfl, Or.inr ⟨by rw [hX]; unfold ob; omega, rfl⟩⟩
        | exact wp_ret rfl rfl rfl ⟨_, rfl, fun c j q => by rw [up_no (by omega), up_no (by omega), up_no (by omega)], Or.inl ⟨by rw [hX]; unfold ob; omega, by rw [hX]; unfold ob; rw [up_nj (by decide), up_nj (by decide), up_eq, up_nj (by decide), up_eq]; omega, by unfold obv; rw [up_nj (by decide), up_nj (by decide), up_eq, up_nj (by decide), up_eq]; omega, by rw [up_eq]⟩⟩
      · refine wp_n 3 (pc' := 126) (L' := [(2, 120), (0, ((l : Nat) : Int)), (0, ((w : Nat) : Int)), (0, p), (0, ((s : Nat) : Int)), (1, ((p * (g 123 w)) + ((1000 - p) * (g 123 l)))), (9, 0), (1, ((p * (g 124 w)) + ((1000 - p) * (g 124 l)))), (9, 0), (1, ((((p * (g 123 w)) + ((1000 - p) * (g 123 l))) / 1000) + 1)), (9, 0), (1, ((((((p * (g 123 w)) + ((1000 - p) * (g 123 l))) % 1000) * 1000000000000) + (((p * (g 124 w)) + ((1000 - p) * (g 124 l))) / 1000)) - 1000000000000000)), (9, 0)]) (st' := [(1, (g 120 5)), (1, ((((((p * (g 123 w)) + ((1000 - p) * (g 123 l))) % 1000) * 1000000000000) + (((p * (g 124 w)) + ((1000 - p) * (g 124 l))) / 1000)) - 1000000000000000))]) (g' := g) rfl ?_
        refine wp_lc_le rfl rfl (by omega) (by omega) (fun c7 => ?_) (fun c7 => ?_)
        · first
          | (exfalso; omega)
          | exact wp_ret rfl rfl rfl ⟨_, rfl, fun _ _ _ => rfl, Or.inr ⟨by rw [hX]; unfold ob; omega, rfl⟩⟩
          | exact wp_ret rfl rfl rfl ⟨_, rfl, fun c j q => by rw [up_no (by omega), up_no (by omega), up_no (by omega)], Or.inl ⟨by rw [hX]; unfold ob; omega, by rw [hX]; unfold ob; rw [up_nj (by decide), up_nj (by decide), up_eq, up_nj (by decide), up_eq]; omega, by unfold obv; rw [up_nj (by decide), up_nj (by decide), up_eq, up_nj (by decide), up_eq]; omega, by rw [up_eq]⟩⟩
        · refine wp_n 9 (pc' := 148) (L' := [(2, 120), (0, ((l : Nat) : Int)), (0, ((w : Nat) : Int)), (0, p), (0, ((s : Nat) : Int)), (1, ((p * (g 123 w)) + ((1000 - p) * (g 123 l)))), (9, 0), (1, ((p * (g 124 w)) + ((1000 - p) * (g 124 l)))), (9, 0), (1, ((((p * (g 123 w)) + ((1000 - p) * (g 123 l))) / 1000) + 1)), (9, 0), (1, ((((((p * (g 123 w)) + ((1000 - p) * (g 123 l))) % 1000) * 1000000000000) + (((p * (g 124 w)) + ((1000 - p) * (g 124 l))) / 1000)) - 1000000000000000)), (9, 0)]) (st' := []) (g' := (am_up (am_up (am_up g 120 4 ((((p * (g 123 w)) + ((1000 - p) * (g 123 l))) / 1000) + 1)) 120 5 ((((((p * (g 123 w)) + ((1000 - p) * (g 123 l))) % 1000) * 1000000000000) + (((p * (g 124 w)) + ((1000 - p) * (g 124 l))) / 1000)) - 1000000000000000)) 120 6 ((s : Nat) : Int))) rfl ?_
          first
          | (exfalso; omega)
          | exact wp_ret rfl rfl rfl ⟨_, rfl, fun _ _ _ => rfl, Or.inr ⟨by rw [hX]; unfold ob; omega, rfl⟩⟩
          | exact wp_ret rfl rfl rfl ⟨_, rfl, fun c j q => by rw [up_no (by omega), up_no (by omega), up_no (by omega)], Or.inl ⟨by rw [hX]; unfold ob; omega, by rw [hX]; unfold ob; rw [up_nj (by decide), up_nj (by decide), up_eq, up_nj (by decide), up_eq]; omega, by unfold obv; rw [up_nj (by decide), up_nj (by decide), up_eq, up_nj (by decide), up_eq]; omega, by rw [up_eq]⟩⟩
set_option maxHeartbeats 400000 in
set_option maxRecDepth 20000 in
theorem e_stakeBest {sn : Nat} {sx : Nat → Int} {b : Nat} {g : am_G} {a : Nat} {p y : Int} (ha : a ≤ 40) (hp : 0 ≤ p ∧ p ≤ 1000) (hy : 1 ≤ y ∧ y ≤ 99) (hH : Hv g) : Ev sn sx 2 45 [(2, 120), (0, ((a : Nat) : Int)), (0, p), (0, y)] (SH b) g (fun r => ∃ g', r = (none, SH b, g') ∧ FrW g g' ∧ ob g' = hw g p y a (gmx (hw g p y a) a) ∧ obv g' ∧ g' 120 6 = ((gmx (hw g p y a) a : Nat) : Int)) := by
  refine ev_of (K := 1) T45 (by decide) rfl rfl (Nat.le_of_ble_eq_true rfl) ?_
  refine wp_eq (L' := [(2, 120), (0, ((a : Nat) : Int)), (0, p), (0, y), (9, 0)]) (st' := []) (g' := g) ?_
  refine wp_n 8 (pc' := 17) (L' := [(2, 120), (0, ((a : Nat) : Int)), (0, p), (0, y), (0, 0)]) (st' := []) (g' := (am_up (am_up g 120 4 (-1)) 120 5 (-1))) rfl ?_
  have L17 : ∀ (lf : Nat) (s : Nat) (h : am_G), a + 1 - s < lf → (s ≤ a + 1) → (FrW g h) → ((s = 0 ∧ h 120 4 = -1 ∧ h 120 5 = -1) ∨ (1 ≤ s ∧ ob h = hw g p y a (gmx (hw g p y a) (s - 1)) ∧ obv h ∧ h 120 6 = ((gmx (hw g p y a) (s - 1) : Nat) : Int))) → Wp sn sx 1 T45 17 [(2, 120), (0, ((a : Nat) : Int)), (0, p), (0, y), (0, ((s : Nat) : Int))] [] (SH b) h (fun r => ∃ g', r = (none, SH b, g') ∧ FrW g g' ∧ ob g' = hw g p y a (gmx (hw g p y a) a) ∧ obv g' ∧ g' 120 6 = ((gmx (hw g p y a) a : Nat) : Int)) := by
    intro lf
    induction lf with
    | zero => intro s h hlf; exact absurd hlf (Nat.not_lt_zero _)
    | succ lf ih17 =>
      intro s h hlf hs hF hO
      refine wp_n 2 (pc' := 20) (L' := [(2, 120), (0, ((a : Nat) : Int)), (0, p), (0, y), (0, ((s : Nat) : Int))]) (st' := [(0, ((a : Nat) : Int)), (0, ((s : Nat) : Int))]) (g' := h) rfl ?_
      refine wp_ic_gt rfl (fun c1 => ?_) (fun c1 => ?_)
      · have hsa : s = a + 1 := by omega
        have hfin : ob h = hw g p y a (gmx (hw g p y a) a) ∧ obv h ∧ h 120 6 = ((gmx (hw g p y a) a : Nat) : Int) := by
          rcases hO with ⟨e, _⟩ | ⟨_, e1, e2, e3⟩
          · exfalso; omega
          · have ea : s - 1 = a := by omega
            rw [ea] at e1 e3
            exact ⟨e1, e2, e3⟩
        exact wp_ret rfl rfl rfl ⟨_, rfl, hF, hfin⟩
      · have hmu := Int.mul_le_mul hy.2 (show (s : Int) ≤ 40 by omega) (by omega) (by decide)
        have hmn := Int.mul_nonneg (show 0 ≤ y by omega) (show 0 ≤ (s : Int) by omega)
        have hHh : Hv h := fun j hj => by rw [hF 123 j (by omega), hF 124 j (by omega)]; exact hH j hj
        have ev : ∀ j, hv h j = hv g j := fun j => by unfold hv; rw [hF 123 j (by omega), hF 124 j (by omega)]
        refine wp_n 4 (pc' := 28) (L' := [(2, 120), (0, ((a : Nat) : Int)), (0, p), (0, y), (0, ((s : Nat) : Int))]) (st' := [(0, (((a : Nat) : Int) - ((s : Nat) : Int))), (2, 120)]) (g' := h) rfl ?_
        refine wp_eq (L' := [(2, 120), (0, ((a : Nat) : Int)), (0, p), (0, y), (0, ((s : Nat) : Int))]) (st' := [(0, (((a - s) : Nat) : Int)), (2, 120)]) (g' := h) ?_ (by rfl) (by rw [show (a : Int) - (s : Int) = ((a - s : Nat) : Int) by omega]) (by rfl)
        refine wp_n 6 (pc' := 36) (L' := [(2, 120), (0, ((a : Nat) : Int)), (0, p), (0, y), (0, ((s : Nat) : Int))]) (st' := [(0, (((a : Nat) : Int) + (y * ((s : Nat) : Int)))), (0, 40), (0, (((a - s) : Nat) : Int)), (2, 120)]) (g' := h) rfl ?_
        refine wp_cs (as := [(0, 40), (0, (((a : Nat) : Int) + (y * ((s : Nat) : Int))))]) (rest := [(0, (((a - s) : Nat) : Int)), (2, 120)]) rfl (by decide) rfl (Nat.le_of_ble_eq_true rfl) (e_min (by omega) (by omega)) (by decide) (fun r2 h3 => ?_)
        obtain rfl := h3
        refine wp_eq (L' := [(2, 120), (0, ((a : Nat) : Int)), (0, p), (0, y), (0, ((s : Nat) : Int))]) (st' := [(0, (if (((a : Nat) : Int) + (y * ((s : Nat) : Int))) < 40 then (((a : Nat) : Int) + (y * ((s : Nat) : Int))) else 40)), (0, (((a - s) : Nat) : Int)), (2, 120)]) (g' := h) ?_
        refine wp_eq (L' := [(2, 120), (0, ((a : Nat) : Int)), (0, p), (0, y), (0, ((s : Nat) : Int))]) (st' := [(0, (((gw y a s) : Nat) : Int)), (0, (((a - s) : Nat) : Int)), (2, 120)]) (g' := h) ?_ (by rfl) (by first | rfl | (unfold gw; split <;> first | rfl | (rw [show ((((a : Int) + y * (s : Int)).toNat : Nat) : Int) = (a : Int) + y * (s : Int) by omega]) | omega)) (by rfl)
        refine wp_n 2 (pc' := 42) (L' := [(2, 120), (0, ((a : Nat) : Int)), (0, p), (0, y), (0, ((s : Nat) : Int))]) (st' := [(0, ((s : Nat) : Int)), (0, p), (0, (((gw y a s) : Nat) : Int)), (0, (((a - s) : Nat) : Int)), (2, 120)]) (g' := h) rfl ?_
        refine wp_cv (as := [(2, 120), (0, (((a - s) : Nat) : Int)), (0, (((gw y a s) : Nat) : Int)), (0, p), (0, ((s : Nat) : Int))]) (rest := []) rfl rfl rfl (Nat.le_of_ble_eq_true rfl) rfl (e_weigh (l := ((a - s))) (w := ((gw y a s))) (p := p) (s := s) (by omega) (gw_le _ _ _) hp hHh (by rcases hO with ⟨_, e1, e2⟩ | ⟨_, _, e2, _⟩; exact Or.inl ⟨e1, e2⟩; exact Or.inr e2)) (by decide) (fun r4 h5 => ?_)
        obtain ⟨g42, rfl, hF42, hW42⟩ := h5
        have eX : (p * hv h (gw y a s) + (1000 - p) * hv h (a - s)) / 1000 = hw g p y a s := by unfold hw; rw [ev, ev]
        rw [eX] at hW42
        have hwn : 0 ≤ hw g p y a s := by
          unfold hw hv
          have k1 := hH (gw y a s) (by have := gw_le y a s; omega)
          have k2 := hH (a - s) (by omega)
          have k3 := Int.mul_nonneg hp.1 (show 0 ≤ g 123 (gw y a s) * 1000000000000000 + g 124 (gw y a s) by omega)
          have k4 := Int.mul_nonneg (show 0 ≤ 1000 - p by omega) (show 0 ≤ g 123 (a - s) * 1000000000000000 + g 124 (a - s) by omega)
          omega
        have hN : (s + 1 = 0 ∧ g42 120 4 = -1 ∧ g42 120 5 = -1) ∨ (1 ≤ s + 1 ∧ ob g42 = hw g p y a (gmx (hw g p y a) (s + 1 - 1)) ∧ obv g42 ∧ g42 120 6 = ((gmx (hw g p y a) (s + 1 - 1) : Nat) : Int)) := by
          right
          rw [Nat.add_sub_cancel]
          refine ⟨by omega, ?_⟩
          rcases hO with ⟨e, e1, e2⟩ | ⟨e, e1, e2, e3⟩
          · subst e
            rcases hW42 with ⟨_, w2, w3, w4⟩ | ⟨w1, _⟩
            · exact ⟨w2, w3, w4⟩
            · exfalso; unfold ob at w1; omega
          · obtain ⟨s1, rfl⟩ : ∃ s1, s = s1 + 1 := ⟨s - 1, by omega⟩
            rw [Nat.add_sub_cancel] at e1 e3
            rw [e1] at hW42
            rw [gmx_s]
            rcases hW42 with ⟨w1, w2, w3, w4⟩ | ⟨w1, w2⟩
            · rw [if_pos w1]; exact ⟨w2, w3, w4⟩
            · rw [if_neg (by omega)]; subst w2; exact ⟨e1, e2, e3⟩
        refine wp_eq (L' := [(2, 120), (0, ((a : Nat) : Int)), (0, p), (0, y), (0, ((s : Nat) : Int))]) (st' := []) (g' := g42) ?_
        refine wp_n 2 (pc' := 17) (L' := [(2, 120), (0, ((a : Nat) : Int)), (0, p), (0, y), (0, (((s : Nat) : Int) + 1))]) (st' := []) (g' := g42) rfl ?_
        refine wp_eq (ih17 (s + 1) (g42) ?_ ?_ ?_ ?_) (by first | rfl | (simp; done) | (simp; omega)) (by rfl) (by rfl)
        · omega
        · omega
        · exact fun c j q => (hF42 c j q).trans (hF c j q)
        · exact hN
  refine wp_eq (L17 (_ + 1) (0) ((am_up (am_up g 120 4 (-1)) 120 5 (-1))) (Nat.lt_succ_self _) ?_ ?_ ?_) (by first | rfl | (simp; done) | (simp; omega)) (by rfl) (by rfl)
  · exact Nat.zero_le _
  · exact fun c j q => by rw [up_no (by omega), up_no (by omega)]
  · exact Or.inl ⟨rfl, by rw [up_nj (by decide), up_eq], by rw [up_eq]⟩
