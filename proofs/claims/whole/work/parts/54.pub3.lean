/-! PUBLIC METHODS: write, bet, watched -/
theorem ofE_s (g : am_G) (e : Int) (n : Nat) : ofE g 0 e (n + 1) = ofE g 0 e n + (if g 11 n = e then 1 else 0) := rfl
theorem ofE_up {g : am_G} {d k i n : Nat} {x e : Int} (h : k ≠ 11 + d ∨ n ≤ i) : ofE (am_up g k i x) d e n = ofE g d e n := ofE_same fun j hj => up_no (by omega)
/-- bets of a bettor on a spin; bets of a bettor; those won -/
def nhb (g : am_G) (r s : Int) : Nat → Nat
  | 0 => 0
  | n + 1 => nhb g r s n + (if g 18 n = r ∧ g 19 n = s then 1 else 0)
theorem nhb_s (g : am_G) (r s : Int) (n : Nat) : nhb g r s (n + 1) = nhb g r s n + (if g 18 n = r ∧ g 19 n = s then 1 else 0) := rfl
theorem nhb_mono {g : am_G} {r s : Int} {m n : Nat} (h : m ≤ n) : nhb g r s m ≤ nhb g r s n := by
  induction h with
  | refl => exact Nat.le_refl _
  | step _ ih => rw [nhb_s]; omega
def nbt (g : am_G) (r : Int) : Nat → Nat
  | 0 => 0
  | n + 1 => nbt g r n + (if g 18 n = r then 1 else 0)
theorem nbt_s (g : am_G) (r : Int) (n : Nat) : nbt g r (n + 1) = nbt g r n + (if g 18 n = r then 1 else 0) := rfl
def nbw (g : am_G) (r : Int) : Nat → Nat
  | 0 => 0
  | n + 1 => nbw g r n + (if g 18 n = r ∧ g 14 (g 19 n).toNat = g 20 n then 1 else 0)
theorem nbw_s (g : am_G) (r : Int) (n : Nat) : nbw g r (n + 1) = nbw g r n + (if g 18 n = r ∧ g 14 (g 19 n).toNat = g 20 n then 1 else 0) := rfl
theorem nbw_le (g : am_G) (r : Int) (n : Nat) : nbw g r n ≤ nbt g r n ∧ nbt g r n ≤ n := by
  induction n with
  | zero => exact ⟨Nat.le_refl _, Nat.le_refl _⟩
  | succ n ih =>
    rw [nbw_s, nbt_s]
    split
    · rename_i h; rw [if_pos h.1]; omega
    · split <;> omega
set_option maxHeartbeats 400000 in
set_option maxRecDepth 20000 in
theorem e_writtenIn {sn : Nat} {sx : Nat → Int} {b : Nat} {g : am_G} {P : Nat} {e : Int} (he : R32 e) (hR : Rng P 0 g) : Ev sn sx 1 20 [(2, 10), (0, e)] (SH b) g (fun r => r = (some (0, ((ofE g 0 e (g 10 4).toNat : Nat) : Int)), SH b, g)) := by
  have hn := hR.r10_6 4 rfl
  refine ev_of (K := 0) T20 (by decide) rfl rfl (Nat.le_of_ble_eq_true rfl) ?_
  refine wp_eq (L' := [(2, 10), (0, e), (9, 0), (9, 0)]) (st' := []) (g' := g) ?_
  refine wp_n 4 (pc' := 4) (L' := [(2, 10), (0, e), (0, 0), (0, 0)]) (st' := []) (g' := g) rfl ?_
  have L4 : ∀ (lf : Nat) (i : Nat), (g 10 4).toNat - i < lf → (i ≤ (g 10 4).toNat) → Wp sn sx 0 T20 4 [(2, 10), (0, e), (0, (((ofE g 0 e i) : Nat) : Int)), (0, ((i : Nat) : Int))] [] (SH b) g (fun r => r = (some (0, ((ofE g 0 e (g 10 4).toNat : Nat) : Int)), SH b, g)) := by
    intro lf
    induction lf with
    | zero => intro i hlf; exact absurd hlf (Nat.not_lt_zero _)
    | succ lf ih4 =>
      intro i hlf hi
      refine wp_n 3 (pc' := 9) (L' := [(2, 10), (0, e), (0, (((ofE g 0 e i) : Nat) : Int)), (0, ((i : Nat) : Int))]) (st' := [(0, (g 10 4)), (0, ((i : Nat) : Int))]) (g' := g) rfl ?_
      refine wp_ic_ge rfl (fun c1 => ?_) (fun c1 => ?_)
      · have hk2 : i = (g 10 4).toNat := by omega
        refine wp_n 1 (pc' := 32) (L' := [(2, 10), (0, e), (0, (((ofE g 0 e i) : Nat) : Int)), (0, ((i : Nat) : Int))]) (st' := [(0, (((ofE g 0 e i) : Nat) : Int))]) (g' := g) rfl ?_
        exact wp_ret rfl rfl rfl (by rw [hk2])
      · have hr := hR.r11_10 i (by omega)
        refine wp_n 3 (pc' := 17) (L' := [(2, 10), (0, e), (0, (((ofE g 0 e i) : Nat) : Int)), (0, ((i : Nat) : Int))]) (st' := [(0, ((i : Nat) : Int)), (2, 11)]) (g' := g) rfl ?_
        refine wp_iald (k := 11) (i) rfl rfl (by omega) (by omega) (by decide) ?_
        refine wp_n 1 (pc' := 19) (L' := [(2, 10), (0, e), (0, (((ofE g 0 e i) : Nat) : Int)), (0, ((i : Nat) : Int))]) (st' := [(0, e), (0, (g 11 i))]) (g' := g) rfl ?_
        refine wp_ic_ne rfl (fun c2 => ?_) (fun c2 => ?_)
        · have hq : ¬ g 11 i = e := by omega
          refine wp_n 2 (pc' := 4) (L' := [(2, 10), (0, e), (0, (((ofE g 0 e i) : Nat) : Int)), (0, (((i : Nat) : Int) + 1))]) (st' := []) (g' := g) rfl ?_
          refine wp_eq (ih4 (i + 1) ?_ ?_) (by first | (rw [ofE_s, if_pos hq]; rfl) | (rw [ofE_s, if_neg hq]; rfl)) (by rfl) (by rfl)
          · omega
          · omega
        · have hq : g 11 i = e := by omega
          refine wp_n 3 (pc' := 4) (L' := [(2, 10), (0, e), (0, ((((ofE g 0 e i) : Nat) : Int) + 1)), (0, (((i : Nat) : Int) + 1))]) (st' := []) (g' := g) rfl ?_
          refine wp_eq (ih4 (i + 1) ?_ ?_) (by first | (rw [ofE_s, if_pos hq]; rfl) | (rw [ofE_s, if_neg hq]; rfl)) (by rfl) (by rfl)
          · omega
          · omega
  refine wp_eq (L4 (_ + 1) (0) (Nat.lt_succ_self _) ?_) (by first | rfl | (simp; done) | (simp; omega)) (by rfl) (by rfl)
  · exact Nat.zero_le _
set_option maxHeartbeats 400000 in
set_option maxRecDepth 20000 in
theorem e_write {sn : Nat} {sx : Nat → Int} {b : Nat} {g : am_G} {P : Nat} {e t h p : Int} (h_e : R32 e) (h_t : R32 t) (h_h : R32 h) (h_p : R32 p) (hI : CInv P g) : Ev sn sx 3 110 [(2, 0), (0, e), (0, t), (0, h), (0, p)] (SH b) g (fun yy => Two b yy (0 ≤ e ∧ e ≤ 3 ∧ 0 ≤ t ∧ t ≤ 2 ∧ 0 ≤ h ∧ h ≤ 3 ∧ -1 ≤ p ∧ p < (P : Int) ∧ g 10 4 < 200 ∧ ofE g 0 e (g 10 4).toNat < 24) (g 10 4 + 1) (am_up (am_up (am_up (am_up (am_up (am_up g 11 (g 10 4).toNat e) 12 (g 10 4).toNat t) 13 (g 10 4).toNat h) 14 (g 10 4).toNat p) 10 4 (g 10 4 + 1)) 56 2 0) (-1) g) := by
  have hP := hI.ck.2.1
  have h5 := hI.ck.1
  have hn := hI.rg.r10_6 4 rfl
  refine ev_of (K := 2) T110 (by decide) rfl rfl (Nat.le_of_ble_eq_true rfl) ?_
  refine wp_eq (L' := [(2, 0), (0, e), (0, t), (0, h), (0, p), (9, 0)]) (st' := []) (g' := g) ?_
  refine wp_n 2 (pc' := 2) (L' := [(2, 0), (0, e), (0, t), (0, h), (0, p), (9, 0)]) (st' := [(0, t), (0, e)]) (g' := g) rfl ?_
  refine wp_cs (as := [(0, e), (0, t)]) (rest := []) rfl (by decide) rfl (Nat.le_of_ble_eq_true rfl) (e_isTable (by omega) (by omega)) (by decide) (fun r2 h3 => ?_)
  rcases h3 with ⟨rfl, p1⟩ | ⟨rfl, p1⟩
  · refine wp_eq (L' := [(2, 0), (0, e), (0, t), (0, h), (0, p), (9, 0)]) (st' := [(0, 1)]) (g' := g) ?_
    refine wp_n 2 (pc' := 9) (L' := [(2, 0), (0, e), (0, t), (0, h), (0, p), (9, 0)]) (st' := [(0, h)]) (g' := g) rfl ?_
    refine wp_cs (as := [(0, h)]) (rest := []) rfl (by decide) rfl (Nat.le_of_ble_eq_true rfl) (e_isHand (by omega)) (by decide) (fun r5 h6 => ?_)
    rcases h6 with ⟨rfl, p4⟩ | ⟨rfl, p4⟩
    · refine wp_eq (L' := [(2, 0), (0, e), (0, t), (0, h), (0, p), (9, 0)]) (st' := [(0, 1)]) (g' := g) ?_
      refine wp_n 3 (pc' := 18) (L' := [(2, 0), (0, e), (0, t), (0, h), (0, p), (9, 0)]) (st' := [(0, p), (2, 0)]) (g' := g) rfl ?_
      refine wp_cv (as := [(2, 0), (0, p)]) (rest := []) rfl rfl rfl (Nat.le_of_ble_eq_true rfl) rfl (e_isPocketOrNone (by omega) (by assumption) (by omega)) (by decide) (fun r7 h8 => ?_)
      rcases h8 with ⟨rfl, p18⟩ | ⟨rfl, p18⟩
      · refine wp_eq (L' := [(2, 0), (0, e), (0, t), (0, h), (0, p), (9, 0)]) (st' := [(0, 1)]) (g' := g) ?_
        refine wp_n 5 (pc' := 36) (L' := [(2, 0), (0, e), (0, t), (0, h), (0, p), (9, 0)]) (st' := [(0, 200), (0, (g 10 4))]) (g' := g) rfl ?_
        refine wp_ic_ge rfl (fun c9 => ?_) (fun c9 => ?_)
        · refine wp_n 1 (pc' := 53) (L' := [(2, 0), (0, e), (0, t), (0, h), (0, p), (9, 0)]) (st' := [(0, (-1))]) (g' := g) rfl ?_
          exact wp_ret rfl rfl rfl (Or.inr ⟨by omega, rfl⟩)
        · refine wp_n 3 (pc' := 44) (L' := [(2, 0), (0, e), (0, t), (0, h), (0, p), (9, 0)]) (st' := [(0, e), (2, 10)]) (g' := g) rfl ?_
          refine wp_cv (as := [(2, 10), (0, e)]) (rest := []) rfl rfl rfl (Nat.le_of_ble_eq_true rfl) rfl (e_writtenIn (P := P) (by omega) hI.rg) (by decide) (fun r10 h11 => ?_)
          obtain rfl := h11
          refine wp_eq (L' := [(2, 0), (0, e), (0, t), (0, h), (0, p), (9, 0)]) (st' := [(0, (((ofE g 0 e (g 10 4).toNat) : Nat) : Int))]) (g' := g) ?_
          refine wp_n 1 (pc' := 49) (L' := [(2, 0), (0, e), (0, t), (0, h), (0, p), (9, 0)]) (st' := [(0, 24), (0, (((ofE g 0 e (g 10 4).toNat) : Nat) : Int))]) (g' := g) rfl ?_
          refine wp_ic_lt rfl (fun c12 => ?_) (fun c12 => ?_)
          · have hle := ofE_le (g := g) (d := 0) (e := e) (g 10 4).toNat
            refine wp_n 9 (pc' := 73) (L' := [(2, 0), (0, e), (0, t), (0, h), (0, p), (0, (g 10 4))]) (st' := [(0, e), (0, (g 10 4)), (2, 11)]) (g' := g) rfl ?_
            refine wp_iast (k := 11) ((g 10 4).toNat) rfl rfl (by omega) (by omega) (by decide) ?_
            refine wp_n 5 (pc' := 84) (L' := [(2, 0), (0, e), (0, t), (0, h), (0, p), (0, (g 10 4))]) (st' := [(0, t), (0, (g 10 4)), (2, 12)]) (g' := (am_up g 11 ((g 10 4).toNat) e)) rfl ?_
            refine wp_iast (k := 12) ((g 10 4).toNat) rfl rfl (by omega) (by omega) (by decide) ?_
            refine wp_n 5 (pc' := 95) (L' := [(2, 0), (0, e), (0, t), (0, h), (0, p), (0, (g 10 4))]) (st' := [(0, h), (0, (g 10 4)), (2, 13)]) (g' := (am_up (am_up g 11 ((g 10 4).toNat) e) 12 ((g 10 4).toNat) t)) rfl ?_
            refine wp_iast (k := 13) ((g 10 4).toNat) rfl rfl (by omega) (by omega) (by decide) ?_
            refine wp_n 5 (pc' := 107) (L' := [(2, 0), (0, e), (0, t), (0, h), (0, p), (0, (g 10 4))]) (st' := [(0, p), (0, (g 10 4)), (2, 14)]) (g' := (am_up (am_up (am_up g 11 ((g 10 4).toNat) e) 12 ((g 10 4).toNat) t) 13 ((g 10 4).toNat) h)) rfl ?_
            refine wp_iast (k := 14) ((g 10 4).toNat) rfl rfl (by omega) (by omega) (by decide) ?_
            refine wp_n 8 (pc' := 123) (L' := [(2, 0), (0, e), (0, t), (0, h), (0, p), (0, (g 10 4))]) (st' := [(2, 56)]) (g' := (am_up (am_up (am_up (am_up (am_up g 11 ((g 10 4).toNat) e) 12 ((g 10 4).toNat) t) 13 ((g 10 4).toNat) h) 14 ((g 10 4).toNat) p) 10 4 ((g 10 4) + 1))) rfl ?_
            refine wp_cv (as := [(2, 56)]) (rest := []) rfl rfl rfl (Nat.le_of_ble_eq_true rfl) rfl (e_forget) (by decide) (fun r13 h14 => ?_)
            obtain rfl := h14
            refine wp_eq (L' := [(2, 0), (0, e), (0, t), (0, h), (0, p), (0, (g 10 4))]) (st' := []) (g' := (am_up (am_up (am_up (am_up (am_up (am_up g 11 ((g 10 4).toNat) e) 12 ((g 10 4).toNat) t) 13 ((g 10 4).toNat) h) 14 ((g 10 4).toNat) p) 10 4 ((g 10 4) + 1)) 56 2 0)) ?_
            refine wp_n 3 (pc' := 130) (L' := [(2, 0), (0, e), (0, t), (0, h), (0, p), (0, (g 10 4))]) (st' := [(0, ((g 10 4) + 1))]) (g' := (am_up (am_up (am_up (am_up (am_up (am_up g 11 ((g 10 4).toNat) e) 12 ((g 10 4).toNat) t) 13 ((g 10 4).toNat) h) 14 ((g 10 4).toNat) p) 10 4 ((g 10 4) + 1)) 56 2 0)) rfl ?_
            exact wp_ret rfl rfl rfl (Or.inl ⟨by omega, rfl⟩)
          · have hle := ofE_le (g := g) (d := 0) (e := e) (g 10 4).toNat
            refine wp_n 1 (pc' := 53) (L' := [(2, 0), (0, e), (0, t), (0, h), (0, p), (9, 0)]) (st' := [(0, (-1))]) (g' := g) rfl ?_
            exact wp_ret rfl rfl rfl (Or.inr ⟨by omega, rfl⟩)
      · refine wp_eq (L' := [(2, 0), (0, e), (0, t), (0, h), (0, p), (9, 0)]) (st' := [(0, 0)]) (g' := g) ?_
        refine wp_n 2 (pc' := 25) (L' := [(2, 0), (0, e), (0, t), (0, h), (0, p), (9, 0)]) (st' := [(0, (-1))]) (g' := g) rfl ?_
        exact wp_ret rfl rfl rfl (Or.inr ⟨by omega, rfl⟩)
    · refine wp_eq (L' := [(2, 0), (0, e), (0, t), (0, h), (0, p), (9, 0)]) (st' := [(0, 0)]) (g' := g) ?_
      refine wp_n 2 (pc' := 25) (L' := [(2, 0), (0, e), (0, t), (0, h), (0, p), (9, 0)]) (st' := [(0, (-1))]) (g' := g) rfl ?_
      exact wp_ret rfl rfl rfl (Or.inr ⟨by omega, rfl⟩)
  · refine wp_eq (L' := [(2, 0), (0, e), (0, t), (0, h), (0, p), (9, 0)]) (st' := [(0, 0)]) (g' := g) ?_
    refine wp_n 2 (pc' := 25) (L' := [(2, 0), (0, e), (0, t), (0, h), (0, p), (9, 0)]) (st' := [(0, (-1))]) (g' := g) rfl ?_
    exact wp_ret rfl rfl rfl (Or.inr ⟨by omega, rfl⟩)
set_option maxHeartbeats 400000 in
set_option maxRecDepth 20000 in
theorem m_write {sn : Nat} {sx : Nat → Int} {b : Nat} {g : am_G} {c : am_G} {P : Nat} {e t h p : Int} (h_e : R32 e) (h_t : R32 t) (h_h : R32 h) (h_p : R32 p) (hI : CInv P c) (hM : MRel c g) : Ev sn sx 3 225 [(2, 127), (0, e), (0, t), (0, h), (0, p)] (SH b) g (fun yy => Two b yy (0 ≤ e ∧ e ≤ 3 ∧ 0 ≤ t ∧ t ≤ 2 ∧ 0 ≤ h ∧ h ≤ 3 ∧ -1 ≤ p ∧ p < (P : Int) ∧ c 10 4 < 200 ∧ ofE c 0 e (c 10 4).toNat < 24) (c 10 4 + 1) (am_up (am_up (am_up (am_up (am_up g 128 (580 + 4 * (c 10 4).toNat) e) 128 (580 + 4 * (c 10 4).toNat + 1) t) 128 (580 + 4 * (c 10 4).toNat + 2) h) 128 (580 + 4 * (c 10 4).toNat + 3) p) 128 2 (c 10 4 + 1)) (-1) g) := by
  have h5 := hI.ck.1
  have hP : g 127 0 = (P : Int) := hM.n.trans hI.ck.2.1
  have hn := hI.rg.r10_6 4 rfl
  refine ev_of (K := 2) T225 (by decide) rfl rfl (Nat.le_of_ble_eq_true rfl) ?_
  refine wp_eq (L' := [(2, 127), (0, e), (0, t), (0, h), (0, p), (9, 0), (9, 0)]) (st' := []) (g' := g) ?_
  refine wp_n 3 (pc' := 3) (L' := [(2, 127), (0, e), (0, t), (0, h), (0, p), (9, 0), (9, 0)]) (st' := [(0, 3), (0, 0), (0, e)]) (g' := g) rfl ?_
  refine wp_cs (as := [(0, e), (0, 0), (0, 3)]) (rest := []) rfl (by decide) rfl (Nat.le_of_ble_eq_true rfl) (e_isIn (by omega) (by omega) (by omega)) (by decide) (fun r2 h3 => ?_)
  rcases h3 with ⟨rfl, p1⟩ | ⟨rfl, p1⟩
  · refine wp_eq (L' := [(2, 127), (0, e), (0, t), (0, h), (0, p), (9, 0), (9, 0)]) (st' := [(0, 1)]) (g' := g) ?_
    refine wp_n 4 (pc' := 12) (L' := [(2, 127), (0, e), (0, t), (0, h), (0, p), (9, 0), (9, 0)]) (st' := [(0, 2), (0, 0), (0, t)]) (g' := g) rfl ?_
    refine wp_cs (as := [(0, t), (0, 0), (0, 2)]) (rest := []) rfl (by decide) rfl (Nat.le_of_ble_eq_true rfl) (e_isIn (by omega) (by omega) (by omega)) (by decide) (fun r5 h6 => ?_)
    rcases h6 with ⟨rfl, p4⟩ | ⟨rfl, p4⟩
    · refine wp_eq (L' := [(2, 127), (0, e), (0, t), (0, h), (0, p), (9, 0), (9, 0)]) (st' := [(0, 1)]) (g' := g) ?_
      refine wp_n 2 (pc' := 19) (L' := [(2, 127), (0, e), (0, t), (0, h), (0, p), (9, 0), (9, 0)]) (st' := [(0, h)]) (g' := g) rfl ?_
      refine wp_cs (as := [(0, h)]) (rest := []) rfl (by decide) rfl (Nat.le_of_ble_eq_true rfl) (e_MisHand (by omega)) (by decide) (fun r8 h9 => ?_)
      rcases h9 with ⟨rfl, p7⟩ | ⟨rfl, p7⟩
      · refine wp_eq (L' := [(2, 127), (0, e), (0, t), (0, h), (0, p), (9, 0), (9, 0)]) (st' := [(0, 1)]) (g' := g) ?_
        refine wp_n 3 (pc' := 28) (L' := [(2, 127), (0, e), (0, t), (0, h), (0, p), (9, 0), (9, 0)]) (st' := [(0, (-1)), (0, p)]) (g' := g) rfl ?_
        refine wp_ic_eq rfl (fun c10 => ?_) (fun c10 => ?_)
        · refine wp_n 3 (pc' := 45) (L' := [(2, 127), (0, e), (0, t), (0, h), (0, p), (9, 0), (9, 0)]) (st' := [(0, 2), (2, 128)]) (g' := g) rfl ?_
          refine wp_iald (k := 128) (2) rfl rfl (by omega) (by omega) (by decide) ?_
          refine wp_eq (L' := [(2, 127), (0, e), (0, t), (0, h), (0, p), (9, 0), (9, 0)]) (st' := [(0, (c 10 4))]) (g' := g) ?_ (by rfl) (by rw [hM.written]) (by rfl)
          refine wp_n 1 (pc' := 49) (L' := [(2, 127), (0, e), (0, t), (0, h), (0, p), (9, 0), (9, 0)]) (st' := [(0, 200), (0, (c 10 4))]) (g' := g) rfl ?_
          refine wp_ic_ne rfl (fun c11 => ?_) (fun c11 => ?_)
          · refine wp_n 4 (pc' := 60) (L' := [(2, 127), (0, e), (0, t), (0, h), (0, p), (0, 0), (0, 0)]) (st' := []) (g' := g) rfl ?_
            have L60 : ∀ (lf : Nat) (i : Nat), (c 10 4).toNat - i < lf → (i ≤ (c 10 4).toNat) → Wp sn sx 2 T225 60 [(2, 127), (0, e), (0, t), (0, h), (0, p), (0, (((ofE c 0 e i) : Nat) : Int)), (0, ((i : Nat) : Int))] [] (SH b) g (fun yy => Two b yy (0 ≤ e ∧ e ≤ 3 ∧ 0 ≤ t ∧ t ≤ 2 ∧ 0 ≤ h ∧ h ≤ 3 ∧ -1 ≤ p ∧ p < (P : Int) ∧ c 10 4 < 200 ∧ ofE c 0 e (c 10 4).toNat < 24) (c 10 4 + 1) (am_up (am_up (am_up (am_up (am_up g 128 (580 + 4 * (c 10 4).toNat) e) 128 (580 + 4 * (c 10 4).toNat + 1) t) 128 (580 + 4 * (c 10 4).toNat + 2) h) 128 (580 + 4 * (c 10 4).toNat + 3) p) 128 2 (c 10 4 + 1)) (-1) g) := by
              intro lf
              induction lf with
              | zero => intro i hlf; exact absurd hlf (Nat.not_lt_zero _)
              | succ lf ih60 =>
                intro i hlf hi
                refine wp_n 4 (pc' := 67) (L' := [(2, 127), (0, e), (0, t), (0, h), (0, p), (0, (((ofE c 0 e i) : Nat) : Int)), (0, ((i : Nat) : Int))]) (st' := [(0, 2), (2, 128), (0, ((i : Nat) : Int))]) (g' := g) rfl ?_
                refine wp_iald (k := 128) (2) rfl rfl (by omega) (by omega) (by decide) ?_
                refine wp_eq (L' := [(2, 127), (0, e), (0, t), (0, h), (0, p), (0, (((ofE c 0 e i) : Nat) : Int)), (0, ((i : Nat) : Int))]) (st' := [(0, (c 10 4)), (0, ((i : Nat) : Int))]) (g' := g) ?_ (by rfl) (by rw [hM.written]) (by rfl)
                refine wp_ic_ge rfl (fun c12 => ?_) (fun c12 => ?_)
                · have hk2 : i = (c 10 4).toNat := by omega
                  have hle := hI.e24 e (by omega) (by omega)
                  have hle1 : ofE c 0 e (c 10 4).toNat ≤ 24 := hle
                  have hof : ofE c 0 e i = ofE c 0 e (c 10 4).toNat := by rw [hk2]
                  refine wp_n 2 (pc' := 108) (L' := [(2, 127), (0, e), (0, t), (0, h), (0, p), (0, (((ofE c 0 e i) : Nat) : Int)), (0, ((i : Nat) : Int))]) (st' := [(0, 24), (0, (((ofE c 0 e i) : Nat) : Int))]) (g' := g) rfl ?_
                  refine wp_ic_ne rfl (fun c13 => ?_) (fun c13 => ?_)
                  · refine wp_n 5 (pc' := 122) (L' := [(2, 127), (0, e), (0, t), (0, h), (0, p), (0, (((ofE c 0 e i) : Nat) : Int)), (0, ((i : Nat) : Int))]) (st' := [(0, 2), (2, 128), (0, 4), (0, 580)]) (g' := g) rfl ?_
                    refine wp_iald (k := 128) (2) rfl rfl (by omega) (by omega) (by decide) ?_
                    refine wp_eq (L' := [(2, 127), (0, e), (0, t), (0, h), (0, p), (0, (((ofE c 0 e i) : Nat) : Int)), (0, ((i : Nat) : Int))]) (st' := [(0, (c 10 4)), (0, 4), (0, 580)]) (g' := g) ?_ (by rfl) (by rw [hM.written]) (by rfl)
                    refine wp_n 7 (pc' := 134) (L' := [(2, 127), (0, e), (0, t), (0, h), (0, p), (0, (((ofE c 0 e i) : Nat) : Int)), (0, (580 + (4 * (c 10 4))))]) (st' := [(0, e), (0, (580 + (4 * (c 10 4)))), (2, 128)]) (g' := g) rfl ?_
                    refine wp_iast (k := 128) ((580 + 4 * (c 10 4).toNat)) rfl rfl (by omega) (by omega) (by decide) ?_
                    refine wp_n 6 (pc' := 144) (L' := [(2, 127), (0, e), (0, t), (0, h), (0, p), (0, (((ofE c 0 e i) : Nat) : Int)), (0, (580 + (4 * (c 10 4))))]) (st' := [(0, t), (0, ((580 + (4 * (c 10 4))) + 1)), (2, 128)]) (g' := (am_up g 128 ((580 + 4 * (c 10 4).toNat)) e)) rfl ?_
                    refine wp_iast (k := 128) ((580 + 4 * (c 10 4).toNat + 1)) rfl rfl (by omega) (by omega) (by decide) ?_
                    refine wp_n 6 (pc' := 154) (L' := [(2, 127), (0, e), (0, t), (0, h), (0, p), (0, (((ofE c 0 e i) : Nat) : Int)), (0, (580 + (4 * (c 10 4))))]) (st' := [(0, h), (0, ((580 + (4 * (c 10 4))) + 2)), (2, 128)]) (g' := (am_up (am_up g 128 ((580 + 4 * (c 10 4).toNat)) e) 128 ((580 + 4 * (c 10 4).toNat + 1)) t)) rfl ?_
                    refine wp_iast (k := 128) ((580 + 4 * (c 10 4).toNat + 2)) rfl rfl (by omega) (by omega) (by decide) ?_
                    refine wp_n 6 (pc' := 165) (L' := [(2, 127), (0, e), (0, t), (0, h), (0, p), (0, (((ofE c 0 e i) : Nat) : Int)), (0, (580 + (4 * (c 10 4))))]) (st' := [(0, p), (0, ((580 + (4 * (c 10 4))) + 3)), (2, 128)]) (g' := (am_up (am_up (am_up g 128 ((580 + 4 * (c 10 4).toNat)) e) 128 ((580 + 4 * (c 10 4).toNat + 1)) t) 128 ((580 + 4 * (c 10 4).toNat + 2)) h)) rfl ?_
                    refine wp_iast (k := 128) ((580 + 4 * (c 10 4).toNat + 3)) rfl rfl (by omega) (by omega) (by decide) ?_
                    refine wp_n 4 (pc' := 172) (L' := [(2, 127), (0, e), (0, t), (0, h), (0, p), (0, (((ofE c 0 e i) : Nat) : Int)), (0, (580 + (4 * (c 10 4))))]) (st' := [(0, 2), (2, 128), (0, 2), (2, 128)]) (g' := (am_up (am_up (am_up (am_up g 128 ((580 + 4 * (c 10 4).toNat)) e) 128 ((580 + 4 * (c 10 4).toNat + 1)) t) 128 ((580 + 4 * (c 10 4).toNat + 2)) h) 128 ((580 + 4 * (c 10 4).toNat + 3)) p)) rfl ?_
                    refine wp_iald (k := 128) (2) rfl rfl (by omega) (by omega) (by decide) ?_
                    refine wp_eq (L' := [(2, 127), (0, e), (0, t), (0, h), (0, p), (0, (((ofE c 0 e i) : Nat) : Int)), (0, (580 + (4 * (c 10 4))))]) (st' := [(0, (c 10 4)), (0, 2), (2, 128)]) (g' := (am_up (am_up (am_up (am_up g 128 ((580 + 4 * (c 10 4).toNat)) e) 128 ((580 + 4 * (c 10 4).toNat + 1)) t) 128 ((580 + 4 * (c 10 4).toNat + 2)) h) 128 ((580 + 4 * (c 10 4).toNat + 3)) p)) ?_ (by rfl) (by (repeat rw [up_no (by omega)]); rw [hM.written]) (by rfl)
                    refine wp_n 2 (pc' := 175) (L' := [(2, 127), (0, e), (0, t), (0, h), (0, p), (0, (((ofE c 0 e i) : Nat) : Int)), (0, (580 + (4 * (c 10 4))))]) (st' := [(0, ((c 10 4) + 1)), (0, 2), (2, 128)]) (g' := (am_up (am_up (am_up (am_up g 128 ((580 + 4 * (c 10 4).toNat)) e) 128 ((580 + 4 * (c 10 4).toNat + 1)) t) 128 ((580 + 4 * (c 10 4).toNat + 2)) h) 128 ((580 + 4 * (c 10 4).toNat + 3)) p)) rfl ?_
                    refine wp_iast (k := 128) (2) rfl rfl (by omega) (by omega) (by decide) ?_
                    refine wp_n 3 (pc' := 181) (L' := [(2, 127), (0, e), (0, t), (0, h), (0, p), (0, (((ofE c 0 e i) : Nat) : Int)), (0, (580 + (4 * (c 10 4))))]) (st' := [(0, 2), (2, 128)]) (g' := (am_up (am_up (am_up (am_up (am_up g 128 ((580 + 4 * (c 10 4).toNat)) e) 128 ((580 + 4 * (c 10 4).toNat + 1)) t) 128 ((580 + 4 * (c 10 4).toNat + 2)) h) 128 ((580 + 4 * (c 10 4).toNat + 3)) p) 128 2 ((c 10 4) + 1))) rfl ?_
                    refine wp_iald (k := 128) (2) rfl rfl (by omega) (by omega) (by decide) ?_
                    refine wp_eq (L' := [(2, 127), (0, e), (0, t), (0, h), (0, p), (0, (((ofE c 0 e i) : Nat) : Int)), (0, (580 + (4 * (c 10 4))))]) (st' := [(0, (c 10 4 + 1))]) (g' := (am_up (am_up (am_up (am_up (am_up g 128 ((580 + 4 * (c 10 4).toNat)) e) 128 ((580 + 4 * (c 10 4).toNat + 1)) t) 128 ((580 + 4 * (c 10 4).toNat + 2)) h) 128 ((580 + 4 * (c 10 4).toNat + 3)) p) 128 2 ((c 10 4) + 1))) ?_ (by rfl) (by rw [up_eq]) (by rfl)
                    exact wp_ret rfl rfl rfl (Or.inl ⟨by omega, rfl⟩)
                  · refine wp_n 1 (pc' := 112) (L' := [(2, 127), (0, e), (0, t), (0, h), (0, p), (0, (((ofE c 0 e i) : Nat) : Int)), (0, ((i : Nat) : Int))]) (st' := [(0, (-1))]) (g' := g) rfl ?_
                    exact wp_ret rfl rfl rfl (Or.inr ⟨by omega, rfl⟩)
                · have hr := hI.rg.r11_10 i (by omega)
                  refine wp_n 8 (pc' := 85) (L' := [(2, 127), (0, e), (0, t), (0, h), (0, p), (0, (((ofE c 0 e i) : Nat) : Int)), (0, ((i : Nat) : Int))]) (st' := [(0, (580 + (4 * ((i : Nat) : Int)))), (2, 128), (0, (((ofE c 0 e i) : Nat) : Int))]) (g' := g) rfl ?_
                  refine wp_iald (k := 128) ((580 + 4 * i)) rfl rfl (by omega) (by omega) (by decide) ?_
                  refine wp_eq (L' := [(2, 127), (0, e), (0, t), (0, h), (0, p), (0, (((ofE c 0 e i) : Nat) : Int)), (0, ((i : Nat) : Int))]) (st' := [(0, (c 11 i)), (0, (((ofE c 0 e i) : Nat) : Int))]) (g' := g) ?_ (by rfl) (by rw [hM.ev _ (by omega)]) (by rfl)
                  refine wp_n 1 (pc' := 87) (L' := [(2, 127), (0, e), (0, t), (0, h), (0, p), (0, (((ofE c 0 e i) : Nat) : Int)), (0, ((i : Nat) : Int))]) (st' := [(0, e), (0, (c 11 i)), (0, (((ofE c 0 e i) : Nat) : Int))]) (g' := g) rfl ?_
                  refine wp_ic_ne rfl (fun c14 => ?_) (fun c14 => ?_)
                  · have hq : ¬ c 11 i = e := by omega
                    refine wp_n 5 (pc' := 60) (L' := [(2, 127), (0, e), (0, t), (0, h), (0, p), (0, ((((ofE c 0 e i) : Nat) : Int) + 0)), (0, (((i : Nat) : Int) + 1))]) (st' := []) (g' := g) rfl ?_
                    refine wp_eq (ih60 (i + 1) ?_ ?_) (by first | (rw [ofE_s, if_pos hq]; rfl) | (rw [ofE_s, if_neg hq]; rfl)) (by rfl) (by rfl)
                    · omega
                    · omega
                  · have hq : c 11 i = e := by omega
                    refine wp_n 6 (pc' := 60) (L' := [(2, 127), (0, e), (0, t), (0, h), (0, p), (0, ((((ofE c 0 e i) : Nat) : Int) + 1)), (0, (((i : Nat) : Int) + 1))]) (st' := []) (g' := g) rfl ?_
                    refine wp_eq (ih60 (i + 1) ?_ ?_) (by first | (rw [ofE_s, if_pos hq]; rfl) | (rw [ofE_s, if_neg hq]; rfl)) (by rfl) (by rfl)
                    · omega
                    · omega
            refine wp_eq (L60 (_ + 1) (0) (Nat.lt_succ_self _) ?_) (by first | rfl | (simp; done) | (simp; omega)) (by rfl) (by rfl)
            · exact Nat.zero_le _
          · refine wp_n 1 (pc' := 53) (L' := [(2, 127), (0, e), (0, t), (0, h), (0, p), (9, 0), (9, 0)]) (st' := [(0, (-1))]) (g' := g) rfl ?_
            exact wp_ret rfl rfl rfl (Or.inr ⟨by omega, rfl⟩)
        · refine wp_n 2 (pc' := 34) (L' := [(2, 127), (0, e), (0, t), (0, h), (0, p), (9, 0), (9, 0)]) (st' := [(0, p), (2, 127)]) (g' := g) rfl ?_
          refine wp_cv (as := [(2, 127), (0, p)]) (rest := []) rfl rfl rfl (Nat.le_of_ble_eq_true rfl) rfl (m_isPocket (by omega) (by assumption) (by omega)) (by decide) (fun r15 h16 => ?_)
          rcases h16 with ⟨rfl, p34⟩ | ⟨rfl, p34⟩
          · refine wp_eq (L' := [(2, 127), (0, e), (0, t), (0, h), (0, p), (9, 0), (9, 0)]) (st' := [(0, 1)]) (g' := g) ?_
            refine wp_n 4 (pc' := 45) (L' := [(2, 127), (0, e), (0, t), (0, h), (0, p), (9, 0), (9, 0)]) (st' := [(0, 2), (2, 128)]) (g' := g) rfl ?_
            refine wp_iald (k := 128) (2) rfl rfl (by omega) (by omega) (by decide) ?_
            refine wp_eq (L' := [(2, 127), (0, e), (0, t), (0, h), (0, p), (9, 0), (9, 0)]) (st' := [(0, (c 10 4))]) (g' := g) ?_ (by rfl) (by rw [hM.written]) (by rfl)
            refine wp_n 1 (pc' := 49) (L' := [(2, 127), (0, e), (0, t), (0, h), (0, p), (9, 0), (9, 0)]) (st' := [(0, 200), (0, (c 10 4))]) (g' := g) rfl ?_
            refine wp_ic_ne rfl (fun c17 => ?_) (fun c17 => ?_)
            · refine wp_n 4 (pc' := 60) (L' := [(2, 127), (0, e), (0, t), (0, h), (0, p), (0, 0), (0, 0)]) (st' := []) (g' := g) rfl ?_
              have L60 : ∀ (lf : Nat) (i : Nat), (c 10 4).toNat - i < lf → (i ≤ (c 10 4).toNat) → Wp sn sx 2 T225 60 [(2, 127), (0, e), (0, t), (0, h), (0, p), (0, (((ofE c 0 e i) : Nat) : Int)), (0, ((i : Nat) : Int))] [] (SH b) g (fun yy => Two b yy (0 ≤ e ∧ e ≤ 3 ∧ 0 ≤ t ∧ t ≤ 2 ∧ 0 ≤ h ∧ h ≤ 3 ∧ -1 ≤ p ∧ p < (P : Int) ∧ c 10 4 < 200 ∧ ofE c 0 e (c 10 4).toNat < 24) (c 10 4 + 1) (am_up (am_up (am_up (am_up (am_up g 128 (580 + 4 * (c 10 4).toNat) e) 128 (580 + 4 * (c 10 4).toNat + 1) t) 128 (580 + 4 * (c 10 4).toNat + 2) h) 128 (580 + 4 * (c 10 4).toNat + 3) p) 128 2 (c 10 4 + 1)) (-1) g) := by
                intro lf
                induction lf with
                | zero => intro i hlf; exact absurd hlf (Nat.not_lt_zero _)
                | succ lf ih60 =>
                  intro i hlf hi
                  refine wp_n 4 (pc' := 67) (L' := [(2, 127), (0, e), (0, t), (0, h), (0, p), (0, (((ofE c 0 e i) : Nat) : Int)), (0, ((i : Nat) : Int))]) (st' := [(0, 2), (2, 128), (0, ((i : Nat) : Int))]) (g' := g) rfl ?_
                  refine wp_iald (k := 128) (2) rfl rfl (by omega) (by omega) (by decide) ?_
                  refine wp_eq (L' := [(2, 127), (0, e), (0, t), (0, h), (0, p), (0, (((ofE c 0 e i) : Nat) : Int)), (0, ((i : Nat) : Int))]) (st' := [(0, (c 10 4)), (0, ((i : Nat) : Int))]) (g' := g) ?_ (by rfl) (by rw [hM.written]) (by rfl)
                  refine wp_ic_ge rfl (fun c18 => ?_) (fun c18 => ?_)
                  · have hk2 : i = (c 10 4).toNat := by omega
                    have hle := hI.e24 e (by omega) (by omega)
                    have hle1 : ofE c 0 e (c 10 4).toNat ≤ 24 := hle
                    have hof : ofE c 0 e i = ofE c 0 e (c 10 4).toNat := by rw [hk2]
                    refine wp_n 2 (pc' := 108) (L' := [(2, 127), (0, e), (0, t), (0, h), (0, p), (0, (((ofE c 0 e i) : Nat) : Int)), (0, ((i : Nat) : Int))]) (st' := [(0, 24), (0, (((ofE c 0 e i) : Nat) : Int))]) (g' := g) rfl ?_
                    refine wp_ic_ne rfl (fun c19 => ?_) (fun c19 => ?_)
                    · refine wp_n 5 (pc' := 122) (L' := [(2, 127), (0, e), (0, t), (0, h), (0, p), (0, (((ofE c 0 e i) : Nat) : Int)), (0, ((i : Nat) : Int))]) (st' := [(0, 2), (2, 128), (0, 4), (0, 580)]) (g' := g) rfl ?_
                      refine wp_iald (k := 128) (2) rfl rfl (by omega) (by omega) (by decide) ?_
                      refine wp_eq (L' := [(2, 127), (0, e), (0, t), (0, h), (0, p), (0, (((ofE c 0 e i) : Nat) : Int)), (0, ((i : Nat) : Int))]) (st' := [(0, (c 10 4)), (0, 4), (0, 580)]) (g' := g) ?_ (by rfl) (by rw [hM.written]) (by rfl)
                      refine wp_n 7 (pc' := 134) (L' := [(2, 127), (0, e), (0, t), (0, h), (0, p), (0, (((ofE c 0 e i) : Nat) : Int)), (0, (580 + (4 * (c 10 4))))]) (st' := [(0, e), (0, (580 + (4 * (c 10 4)))), (2, 128)]) (g' := g) rfl ?_
                      refine wp_iast (k := 128) ((580 + 4 * (c 10 4).toNat)) rfl rfl (by omega) (by omega) (by decide) ?_
                      refine wp_n 6 (pc' := 144) (L' := [(2, 127), (0, e), (0, t), (0, h), (0, p), (0, (((ofE c 0 e i) : Nat) : Int)), (0, (580 + (4 * (c 10 4))))]) (st' := [(0, t), (0, ((580 + (4 * (c 10 4))) + 1)), (2, 128)]) (g' := (am_up g 128 ((580 + 4 * (c 10 4).toNat)) e)) rfl ?_
                      refine wp_iast (k := 128) ((580 + 4 * (c 10 4).toNat + 1)) rfl rfl (by omega) (by omega) (by decide) ?_
                      refine wp_n 6 (pc' := 154) (L' := [(2, 127), (0, e), (0, t), (0, h), (0, p), (0, (((ofE c 0 e i) : Nat) : Int)), (0, (580 + (4 * (c 10 4))))]) (st' := [(0, h), (0, ((580 + (4 * (c 10 4))) + 2)), (2, 128)]) (g' := (am_up (am_up g 128 ((580 + 4 * (c 10 4).toNat)) e) 128 ((580 + 4 * (c 10 4).toNat + 1)) t)) rfl ?_
                      refine wp_iast (k := 128) ((580 + 4 * (c 10 4).toNat + 2)) rfl rfl (by omega) (by omega) (by decide) ?_
                      refine wp_n 6 (pc' := 165) (L' := [(2, 127), (0, e), (0, t), (0, h), (0, p), (0, (((ofE c 0 e i) : Nat) : Int)), (0, (580 + (4 * (c 10 4))))]) (st' := [(0, p), (0, ((580 + (4 * (c 10 4))) + 3)), (2, 128)]) (g' := (am_up (am_up (am_up g 128 ((580 + 4 * (c 10 4).toNat)) e) 128 ((580 + 4 * (c 10 4).toNat + 1)) t) 128 ((580 + 4 * (c 10 4).toNat + 2)) h)) rfl ?_
                      refine wp_iast (k := 128) ((580 + 4 * (c 10 4).toNat + 3)) rfl rfl (by omega) (by omega) (by decide) ?_
                      refine wp_n 4 (pc' := 172) (L' := [(2, 127), (0, e), (0, t), (0, h), (0, p), (0, (((ofE c 0 e i) : Nat) : Int)), (0, (580 + (4 * (c 10 4))))]) (st' := [(0, 2), (2, 128), (0, 2), (2, 128)]) (g' := (am_up (am_up (am_up (am_up g 128 ((580 + 4 * (c 10 4).toNat)) e) 128 ((580 + 4 * (c 10 4).toNat + 1)) t) 128 ((580 + 4 * (c 10 4).toNat + 2)) h) 128 ((580 + 4 * (c 10 4).toNat + 3)) p)) rfl ?_
                      refine wp_iald (k := 128) (2) rfl rfl (by omega) (by omega) (by decide) ?_
                      refine wp_eq (L' := [(2, 127), (0, e), (0, t), (0, h), (0, p), (0, (((ofE c 0 e i) : Nat) : Int)), (0, (580 + (4 * (c 10 4))))]) (st' := [(0, (c 10 4)), (0, 2), (2, 128)]) (g' := (am_up (am_up (am_up (am_up g 128 ((580 + 4 * (c 10 4).toNat)) e) 128 ((580 + 4 * (c 10 4).toNat + 1)) t) 128 ((580 + 4 * (c 10 4).toNat + 2)) h) 128 ((580 + 4 * (c 10 4).toNat + 3)) p)) ?_ (by rfl) (by (repeat rw [up_no (by omega)]); rw [hM.written]) (by rfl)
                      refine wp_n 2 (pc' := 175) (L' := [(2, 127), (0, e), (0, t), (0, h), (0, p), (0, (((ofE c 0 e i) : Nat) : Int)), (0, (580 + (4 * (c 10 4))))]) (st' := [(0, ((c 10 4) + 1)), (0, 2), (2, 128)]) (g' := (am_up (am_up (am_up (am_up g 128 ((580 + 4 * (c 10 4).toNat)) e) 128 ((580 + 4 * (c 10 4).toNat + 1)) t) 128 ((580 + 4 * (c 10 4).toNat + 2)) h) 128 ((580 + 4 * (c 10 4).toNat + 3)) p)) rfl ?_
                      refine wp_iast (k := 128) (2) rfl rfl (by omega) (by omega) (by decide) ?_
                      refine wp_n 3 (pc' := 181) (L' := [(2, 127), (0, e), (0, t), (0, h), (0, p), (0, (((ofE c 0 e i) : Nat) : Int)), (0, (580 + (4 * (c 10 4))))]) (st' := [(0, 2), (2, 128)]) (g' := (am_up (am_up (am_up (am_up (am_up g 128 ((580 + 4 * (c 10 4).toNat)) e) 128 ((580 + 4 * (c 10 4).toNat + 1)) t) 128 ((580 + 4 * (c 10 4).toNat + 2)) h) 128 ((580 + 4 * (c 10 4).toNat + 3)) p) 128 2 ((c 10 4) + 1))) rfl ?_
                      refine wp_iald (k := 128) (2) rfl rfl (by omega) (by omega) (by decide) ?_
                      refine wp_eq (L' := [(2, 127), (0, e), (0, t), (0, h), (0, p), (0, (((ofE c 0 e i) : Nat) : Int)), (0, (580 + (4 * (c 10 4))))]) (st' := [(0, (c 10 4 + 1))]) (g' := (am_up (am_up (am_up (am_up (am_up g 128 ((580 + 4 * (c 10 4).toNat)) e) 128 ((580 + 4 * (c 10 4).toNat + 1)) t) 128 ((580 + 4 * (c 10 4).toNat + 2)) h) 128 ((580 + 4 * (c 10 4).toNat + 3)) p) 128 2 ((c 10 4) + 1))) ?_ (by rfl) (by rw [up_eq]) (by rfl)
                      exact wp_ret rfl rfl rfl (Or.inl ⟨by omega, rfl⟩)
                    · refine wp_n 1 (pc' := 112) (L' := [(2, 127), (0, e), (0, t), (0, h), (0, p), (0, (((ofE c 0 e i) : Nat) : Int)), (0, ((i : Nat) : Int))]) (st' := [(0, (-1))]) (g' := g) rfl ?_
                      exact wp_ret rfl rfl rfl (Or.inr ⟨by omega, rfl⟩)
                  · have hr := hI.rg.r11_10 i (by omega)
                    refine wp_n 8 (pc' := 85) (L' := [(2, 127), (0, e), (0, t), (0, h), (0, p), (0, (((ofE c 0 e i) : Nat) : Int)), (0, ((i : Nat) : Int))]) (st' := [(0, (580 + (4 * ((i : Nat) : Int)))), (2, 128), (0, (((ofE c 0 e i) : Nat) : Int))]) (g' := g) rfl ?_
                    refine wp_iald (k := 128) ((580 + 4 * i)) rfl rfl (by omega) (by omega) (by decide) ?_
                    refine wp_eq (L' := [(2, 127), (0, e), (0, t), (0, h), (0, p), (0, (((ofE c 0 e i) : Nat) : Int)), (0, ((i : Nat) : Int))]) (st' := [(0, (c 11 i)), (0, (((ofE c 0 e i) : Nat) : Int))]) (g' := g) ?_ (by rfl) (by rw [hM.ev _ (by omega)]) (by rfl)
                    refine wp_n 1 (pc' := 87) (L' := [(2, 127), (0, e), (0, t), (0, h), (0, p), (0, (((ofE c 0 e i) : Nat) : Int)), (0, ((i : Nat) : Int))]) (st' := [(0, e), (0, (c 11 i)), (0, (((ofE c 0 e i) : Nat) : Int))]) (g' := g) rfl ?_
                    refine wp_ic_ne rfl (fun c20 => ?_) (fun c20 => ?_)
                    · have hq : ¬ c 11 i = e := by omega
                      refine wp_n 5 (pc' := 60) (L' := [(2, 127), (0, e), (0, t), (0, h), (0, p), (0, ((((ofE c 0 e i) : Nat) : Int) + 0)), (0, (((i : Nat) : Int) + 1))]) (st' := []) (g' := g) rfl ?_
                      refine wp_eq (ih60 (i + 1) ?_ ?_) (by first | (rw [ofE_s, if_pos hq]; rfl) | (rw [ofE_s, if_neg hq]; rfl)) (by rfl) (by rfl)
                      · omega
                      · omega
                    · have hq : c 11 i = e := by omega
                      refine wp_n 6 (pc' := 60) (L' := [(2, 127), (0, e), (0, t), (0, h), (0, p), (0, ((((ofE c 0 e i) : Nat) : Int) + 1)), (0, (((i : Nat) : Int) + 1))]) (st' := []) (g' := g) rfl ?_
                      refine wp_eq (ih60 (i + 1) ?_ ?_) (by first | (rw [ofE_s, if_pos hq]; rfl) | (rw [ofE_s, if_neg hq]; rfl)) (by rfl) (by rfl)
                      · omega
                      · omega
              refine wp_eq (L60 (_ + 1) (0) (Nat.lt_succ_self _) ?_) (by first | rfl | (simp; done) | (simp; omega)) (by rfl) (by rfl)
              · exact Nat.zero_le _
            · refine wp_n 1 (pc' := 53) (L' := [(2, 127), (0, e), (0, t), (0, h), (0, p), (9, 0), (9, 0)]) (st' := [(0, (-1))]) (g' := g) rfl ?_
              exact wp_ret rfl rfl rfl (Or.inr ⟨by omega, rfl⟩)
          · refine wp_eq (L' := [(2, 127), (0, e), (0, t), (0, h), (0, p), (9, 0), (9, 0)]) (st' := [(0, 0)]) (g' := g) ?_
            refine wp_n 2 (pc' := 53) (L' := [(2, 127), (0, e), (0, t), (0, h), (0, p), (9, 0), (9, 0)]) (st' := [(0, (-1))]) (g' := g) rfl ?_
            exact wp_ret rfl rfl rfl (Or.inr ⟨by omega, rfl⟩)
      · refine wp_eq (L' := [(2, 127), (0, e), (0, t), (0, h), (0, p), (9, 0), (9, 0)]) (st' := [(0, 0)]) (g' := g) ?_
        refine wp_n 2 (pc' := 53) (L' := [(2, 127), (0, e), (0, t), (0, h), (0, p), (9, 0), (9, 0)]) (st' := [(0, (-1))]) (g' := g) rfl ?_
        exact wp_ret rfl rfl rfl (Or.inr ⟨by omega, rfl⟩)
    · refine wp_eq (L' := [(2, 127), (0, e), (0, t), (0, h), (0, p), (9, 0), (9, 0)]) (st' := [(0, 0)]) (g' := g) ?_
      refine wp_n 2 (pc' := 53) (L' := [(2, 127), (0, e), (0, t), (0, h), (0, p), (9, 0), (9, 0)]) (st' := [(0, (-1))]) (g' := g) rfl ?_
      exact wp_ret rfl rfl rfl (Or.inr ⟨by omega, rfl⟩)
  · refine wp_eq (L' := [(2, 127), (0, e), (0, t), (0, h), (0, p), (9, 0), (9, 0)]) (st' := [(0, 0)]) (g' := g) ?_
    refine wp_n 2 (pc' := 53) (L' := [(2, 127), (0, e), (0, t), (0, h), (0, p), (9, 0), (9, 0)]) (st' := [(0, (-1))]) (g' := g) rfl ?_
    exact wp_ret rfl rfl rfl (Or.inr ⟨by omega, rfl⟩)
def F_write (P : Nat) (e t h p : Int) (c c1 : am_G) (v1 : Int) : Prop := ((0 ≤ e ∧ e ≤ 3 ∧ 0 ≤ t ∧ t ≤ 2 ∧ 0 ≤ h ∧ h ≤ 3 ∧ -1 ≤ p ∧ p < (P : Int) ∧ c 10 4 < 200 ∧ ofE c 0 e (c 10 4).toNat < 24) ∧ v1 = (c 10 4 + 1) ∧ c1 = (am_up (am_up (am_up (am_up (am_up (am_up c 11 (c 10 4).toNat e) 12 (c 10 4).toNat t) 13 (c 10 4).toNat h) 14 (c 10 4).toNat p) 10 4 (c 10 4 + 1)) 56 2 0)) ∨ (¬ (0 ≤ e ∧ e ≤ 3 ∧ 0 ≤ t ∧ t ≤ 2 ∧ 0 ≤ h ∧ h ≤ 3 ∧ -1 ≤ p ∧ p < (P : Int) ∧ c 10 4 < 200 ∧ ofE c 0 e (c 10 4).toNat < 24) ∧ v1 = -1 ∧ c1 = c)
set_option maxRecDepth 20000 in
theorem C_write {sn : Nat} {sx : Nat → Int} {b : Nat} {g : am_G} {P : Nat} {e t h p : Int} (h_e : R32 e) (h_t : R32 t) (h_h : R32 h) (h_p : R32 p) (hI : CInv P g) : Ev sn sx 3 110 [(2, 0), (0, e), (0, t), (0, h), (0, p)] (SH b) g (CPost P g (F_write P e t h p g)) := (e_write h_e h_t h_h h_p hI).mono fun r h => by
  rcases h with ⟨hD, rfl⟩ | ⟨hD, rfl⟩
  · have h5 := hI.ck.1
    have hn := hI.rg.r10_6 4 rfl
    refine ⟨_, _, b, rfl, ⟨hI.ck.same fun c j q => by (repeat rw [up_no (by omega)]), ((((((hI.rg.up (by unfold Rg; omega) (by omega)).up (by unfold Rg; omega) (by omega)).up (by unfold Rg; omega) (by omega)).up (by unfold Rg; omega) (by omega)).up (by unfold Rg; omega) (by omega)).up (by unfold Rg; omega) (by omega)), hI.rgi.same fun c j q1 q2 => by (repeat rw [up_no (by omega)]), fun q q0 q1 => by
    show ofE _ 0 q (am_up (am_up _ 10 4 (g 10 4 + 1)) 56 2 0 10 4).toNat ≤ 24
    rw [up_no (by omega), up_eq, show (g 10 4 + 1).toNat = (g 10 4).toNat + 1 by omega, ofE_s]
    have hb : ∀ m, m ≤ (g 10 4).toNat → ofE (am_up (am_up (am_up (am_up (am_up (am_up g 11 (g 10 4).toNat e) 12 (g 10 4).toNat t) 13 (g 10 4).toNat h) 14 (g 10 4).toNat p) 10 4 (g 10 4 + 1)) 56 2 0) 0 q m = ofE g 0 q m := fun m hm => ofE_same fun j hj => by (repeat rw [up_no (by omega)])
    rw [hb _ (Nat.le_refl _)]
    have h24 : ofE g 0 q (g 10 4).toNat ≤ 24 := hI.e24 q q0 q1
    rw [up_no (by omega), up_no (by omega), up_no (by omega), up_no (by omega), up_no (by omega), up_eq]
    split
    · rename_i e1; subst e1; omega
    · omega, hI.e24i.same fun c j q => by (repeat rw [up_no (by omega)]), hI.tx.same fun c j q1 q2 => by (repeat rw [up_no (by omega)]), hI.txi.same fun c j q1 q2 => by (repeat rw [up_no (by omega)]), hI.ti.same fun c j q => by (repeat rw [up_no (by omega)]), hI.tap.same fun c j q => by (repeat rw [up_no (by omega)]), hI.cls.same fun c j q1 q2 => by (repeat rw [up_no (by omega)]), hI.wls.same fun c j q1 q2 => by (repeat rw [up_no (by omega)]), CaW.none up_eq, hI.cal.same fun c j q => by (repeat rw [up_no (by omega)])⟩, fun c j q => by (repeat rw [up_no (by omega)]), Or.inl ⟨hD, rfl, rfl⟩⟩
  · exact ⟨_, _, b, rfl, hI, fun _ _ _ => rfl, Or.inr ⟨hD, rfl, rfl⟩⟩
set_option maxRecDepth 20000 in
theorem M_write {sn : Nat} {sx : Nat → Int} {b : Nat} {g c : am_G} {P : Nat} {e t h p : Int} (h_e : R32 e) (h_t : R32 t) (h_h : R32 h) (h_p : R32 p) (hI : CInv P c) (hM : MRel c g) : Ev sn sx 3 225 [(2, 127), (0, e), (0, t), (0, h), (0, p)] (SH b) g (MPost b g (F_write P e t h p c)) := (m_write h_e h_t h_h h_p hI hM).mono fun r h => by
  rcases h with ⟨hD, rfl⟩ | ⟨hD, rfl⟩
  · refine ⟨_, _, rfl, fun k j q => by (repeat rw [up_no (by omega)]), fun c1 v1 hE => ?_⟩
    rcases hE with ⟨-, rfl, rfl⟩ | ⟨hn, -, -⟩
    · have h5 := hI.ck.1
      have hn := hI.rg.r10_6 4 rfl
      exact ⟨rfl, ((((((hM.up (i := 580 + 4 * (c 10 4).toNat) (k := 11) (j := (c 10 4).toNat) ((cp_wr _ (by omega) (by omega)).trans (by omega)) ((cj_wr _ (by omega) (by omega)).trans (by omega)) (by omega) (by omega) (by omega)).up (i := 580 + 4 * (c 10 4).toNat + 1) (k := 12) (j := (c 10 4).toNat) ((cp_wr _ (by omega) (by omega)).trans (by omega)) ((cj_wr _ (by omega) (by omega)).trans (by omega)) (by omega) (by omega) (by omega)).up (i := 580 + 4 * (c 10 4).toNat + 2) (k := 13) (j := (c 10 4).toNat) ((cp_wr _ (by omega) (by omega)).trans (by omega)) ((cj_wr _ (by omega) (by omega)).trans (by omega)) (by omega) (by omega) (by omega)).up (i := 580 + 4 * (c 10 4).toNat + 3) (k := 14) (j := (c 10 4).toNat) ((cp_wr _ (by omega) (by omega)).trans (by omega)) ((cj_wr _ (by omega) (by omega)).trans (by omega)) (by omega) (by omega) (by omega)).up (i := 2) (k := 10) (j := 4) ((cp_i2 _ (by omega) (by omega)).trans (by omega)) ((cj_i2 _ (by omega) (by omega)).trans (by omega)) (by omega) (by omega) (by omega)).c_up (by unfold Co; omega))⟩
    · exact absurd hD hn
  · refine ⟨_, _, rfl, fun k j q => rfl, fun c1 v1 hE => ?_⟩
    rcases hE with ⟨hn, -, -⟩ | ⟨-, rfl, rfl⟩
    · exact absurd hn hD
    · exact ⟨rfl, hM⟩
set_option maxHeartbeats 400000 in
set_option maxRecDepth 20000 in
theorem e_hasBet {sn : Nat} {sx : Nat → Int} {b : Nat} {g : am_G} {P : Nat} {r s : Int} (hr0 : R32 r) (hs0 : R32 s) (hR : Rng P 0 g) : Ev sn sx 1 22 [(2, 10), (0, r), (0, s)] (SH b) g (fun y => Is1 y (SH b) g (nhb g r s (g 10 11).toNat ≠ 0)) := by
  have hn := hR.r10_7 11 rfl
  refine ev_of (K := 0) T22 (by decide) rfl rfl (Nat.le_of_ble_eq_true rfl) ?_
  refine wp_eq (L' := [(2, 10), (0, r), (0, s), (9, 0)]) (st' := []) (g' := g) ?_
  refine wp_n 2 (pc' := 2) (L' := [(2, 10), (0, r), (0, s), (0, 0)]) (st' := []) (g' := g) rfl ?_
  have L2 : ∀ (lf : Nat) (i : Nat), (g 10 11).toNat - i < lf → (i ≤ (g 10 11).toNat) → (nhb g r s i = 0) → Wp sn sx 0 T22 2 [(2, 10), (0, r), (0, s), (0, ((i : Nat) : Int))] [] (SH b) g (fun y => Is1 y (SH b) g (nhb g r s (g 10 11).toNat ≠ 0)) := by
    intro lf
    induction lf with
    | zero => intro i hlf; exact absurd hlf (Nat.not_lt_zero _)
    | succ lf ih2 =>
      intro i hlf hi hz
      refine wp_n 3 (pc' := 7) (L' := [(2, 10), (0, r), (0, s), (0, ((i : Nat) : Int))]) (st' := [(0, (g 10 11)), (0, ((i : Nat) : Int))]) (g' := g) rfl ?_
      refine wp_ic_ge rfl (fun c1 => ?_) (fun c1 => ?_)
      · have hk2 : i = (g 10 11).toNat := by omega
        refine wp_n 1 (pc' := 39) (L' := [(2, 10), (0, r), (0, s), (0, ((i : Nat) : Int))]) (st' := [(0, 0)]) (g' := g) rfl ?_
        exact wp_ret rfl rfl rfl (Or.inr ⟨rfl, by rw [← hk2]; omega⟩)
      · have hr := hR.r18_21 i (by omega)
        have hrr := hR.r19_22 i (by omega)
        refine wp_n 3 (pc' := 15) (L' := [(2, 10), (0, r), (0, s), (0, ((i : Nat) : Int))]) (st' := [(0, ((i : Nat) : Int)), (2, 18)]) (g' := g) rfl ?_
        refine wp_iald (k := 18) (i) rfl rfl (by omega) (by omega) (by decide) ?_
        refine wp_n 1 (pc' := 17) (L' := [(2, 10), (0, r), (0, s), (0, ((i : Nat) : Int))]) (st' := [(0, r), (0, (g 18 i))]) (g' := g) rfl ?_
        refine wp_ic_ne rfl (fun c2 => ?_) (fun c2 => ?_)
        · refine wp_n 2 (pc' := 2) (L' := [(2, 10), (0, r), (0, s), (0, (((i : Nat) : Int) + 1))]) (st' := []) (g' := g) rfl ?_
          refine wp_eq (ih2 (i + 1) ?_ ?_ ?_) (by first | rfl | (simp; done) | (simp; omega)) (by rfl) (by rfl)
          · omega
          · omega
          · rw [nhb_s, hz, if_neg (by omega)]
        · refine wp_n 3 (pc' := 25) (L' := [(2, 10), (0, r), (0, s), (0, ((i : Nat) : Int))]) (st' := [(0, ((i : Nat) : Int)), (2, 19)]) (g' := g) rfl ?_
          refine wp_iald (k := 19) (i) rfl rfl (by omega) (by omega) (by decide) ?_
          refine wp_n 1 (pc' := 27) (L' := [(2, 10), (0, r), (0, s), (0, ((i : Nat) : Int))]) (st' := [(0, s), (0, (g 19 i))]) (g' := g) rfl ?_
          refine wp_ic_ne rfl (fun c3 => ?_) (fun c3 => ?_)
          · refine wp_n 2 (pc' := 2) (L' := [(2, 10), (0, r), (0, s), (0, (((i : Nat) : Int) + 1))]) (st' := []) (g' := g) rfl ?_
            refine wp_eq (ih2 (i + 1) ?_ ?_ ?_) (by first | rfl | (simp; done) | (simp; omega)) (by rfl) (by rfl)
            · omega
            · omega
            · rw [nhb_s, hz, if_neg (by omega)]
          · refine wp_n 1 (pc' := 31) (L' := [(2, 10), (0, r), (0, s), (0, ((i : Nat) : Int))]) (st' := [(0, 1)]) (g' := g) rfl ?_
            exact wp_ret rfl rfl rfl (Or.inl ⟨rfl, by have := nhb_mono (g := g) (r := r) (s := s) (show i + 1 ≤ (g 10 11).toNat by omega); rw [nhb_s, if_pos ⟨by omega, by omega⟩] at this; omega⟩)
  refine wp_eq (L2 (_ + 1) (0) (Nat.lt_succ_self _) ?_ ?_) (by first | rfl | (simp; done) | (simp; omega)) (by rfl) (by rfl)
  · exact Nat.zero_le _
  · rfl
set_option maxHeartbeats 400000 in
set_option maxRecDepth 20000 in
theorem e_bet {sn : Nat} {sx : Nat → Int} {b : Nat} {g : am_G} {P : Nat} {r s p : Int} (h_r : R32 r) (h_s : R32 s) (h_p : R32 p) (hI : CInv P g) : Ev sn sx 3 123 [(2, 0), (0, r), (0, s), (0, p)] (SH b) g (fun yy => Two b yy (0 ≤ r ∧ r ≤ 3 ∧ 0 ≤ s ∧ s < g 10 4 ∧ 0 ≤ p ∧ p < (P : Int) ∧ g 14 s.toNat ≠ -1 ∧ g 10 11 < 60 ∧ nhb g r s (g 10 11).toNat = 0) (g 10 11 + 1) (am_up (am_up (am_up (am_up g 18 (g 10 11).toNat r) 19 (g 10 11).toNat s) 20 (g 10 11).toNat p) 10 11 (g 10 11 + 1)) (-1) g) := by
  have hP := hI.ck.2.1
  have h5 := hI.ck.1
  have hn := hI.rg.r10_6 4 rfl
  have hn2 := hI.rg.r10_7 11 rfl
  refine ev_of (K := 2) T123 (by decide) rfl rfl (Nat.le_of_ble_eq_true rfl) ?_
  refine wp_eq (L' := [(2, 0), (0, r), (0, s), (0, p), (9, 0)]) (st' := []) (g' := g) ?_
  refine wp_n 3 (pc' := 3) (L' := [(2, 0), (0, r), (0, s), (0, p), (9, 0)]) (st' := [(0, 3), (0, 0), (0, r)]) (g' := g) rfl ?_
  refine wp_cs (as := [(0, r), (0, 0), (0, 3)]) (rest := []) rfl (by decide) rfl (Nat.le_of_ble_eq_true rfl) (e_within (by omega) (by omega) (by omega)) (by decide) (fun r2 h3 => ?_)
  rcases h3 with ⟨rfl, p1⟩ | ⟨rfl, p1⟩
  · refine wp_eq (L' := [(2, 0), (0, r), (0, s), (0, p), (9, 0)]) (st' := [(0, 1)]) (g' := g) ?_
    refine wp_n 8 (pc' := 20) (L' := [(2, 0), (0, r), (0, s), (0, p), (9, 0)]) (st' := [(0, ((g 10 4) - 1)), (0, 0), (0, s)]) (g' := g) rfl ?_
    refine wp_cs (as := [(0, s), (0, 0), (0, ((g 10 4) - 1))]) (rest := []) rfl (by decide) rfl (Nat.le_of_ble_eq_true rfl) (e_within (by omega) (by omega) (by omega)) (by decide) (fun r5 h6 => ?_)
    rcases h6 with ⟨rfl, p4⟩ | ⟨rfl, p4⟩
    · have hfl := hI.rg.r14_13 s.toNat (by omega)
      refine wp_eq (L' := [(2, 0), (0, r), (0, s), (0, p), (9, 0)]) (st' := [(0, 1)]) (g' := g) ?_
      refine wp_n 3 (pc' := 28) (L' := [(2, 0), (0, r), (0, s), (0, p), (9, 0)]) (st' := [(0, p), (2, 0)]) (g' := g) rfl ?_
      refine wp_cv (as := [(2, 0), (0, p)]) (rest := []) rfl rfl rfl (Nat.le_of_ble_eq_true rfl) rfl (e_isPocket (by omega) (by assumption) (by omega)) (by decide) (fun r7 h8 => ?_)
      rcases h8 with ⟨rfl, p28⟩ | ⟨rfl, p28⟩
      · refine wp_eq (L' := [(2, 0), (0, r), (0, s), (0, p), (9, 0)]) (st' := [(0, 1)]) (g' := g) ?_
        refine wp_n 5 (pc' := 44) (L' := [(2, 0), (0, r), (0, s), (0, p), (9, 0)]) (st' := [(0, s), (2, 14)]) (g' := g) rfl ?_
        refine wp_iald (k := 14) (s.toNat) rfl rfl (by omega) (by omega) (by decide) ?_
        refine wp_n 1 (pc' := 46) (L' := [(2, 0), (0, r), (0, s), (0, p), (9, 0)]) (st' := [(0, (-1)), (0, (g 14 s.toNat))]) (g' := g) rfl ?_
        refine wp_ic_eq rfl (fun c9 => ?_) (fun c9 => ?_)
        · refine wp_n 1 (pc' := 74) (L' := [(2, 0), (0, r), (0, s), (0, p), (9, 0)]) (st' := [(0, (-1))]) (g' := g) rfl ?_
          exact wp_ret rfl rfl rfl (Or.inr ⟨by omega, rfl⟩)
        · refine wp_n 4 (pc' := 58) (L' := [(2, 0), (0, r), (0, s), (0, p), (9, 0)]) (st' := [(0, 60), (0, (g 10 11))]) (g' := g) rfl ?_
          refine wp_ic_ge rfl (fun c10 => ?_) (fun c10 => ?_)
          · refine wp_n 1 (pc' := 74) (L' := [(2, 0), (0, r), (0, s), (0, p), (9, 0)]) (st' := [(0, (-1))]) (g' := g) rfl ?_
            exact wp_ret rfl rfl rfl (Or.inr ⟨by omega, rfl⟩)
          · refine wp_n 4 (pc' := 67) (L' := [(2, 0), (0, r), (0, s), (0, p), (9, 0)]) (st' := [(0, s), (0, r), (2, 10)]) (g' := g) rfl ?_
            refine wp_cv (as := [(2, 10), (0, r), (0, s)]) (rest := []) rfl rfl rfl (Nat.le_of_ble_eq_true rfl) rfl (e_hasBet (P := P) (by omega) (by omega) hI.rg) (by decide) (fun r11 h12 => ?_)
            rcases h12 with ⟨rfl, p67⟩ | ⟨rfl, p67⟩
            · refine wp_eq (L' := [(2, 0), (0, r), (0, s), (0, p), (9, 0)]) (st' := [(0, 1)]) (g' := g) ?_
              refine wp_n 2 (pc' := 74) (L' := [(2, 0), (0, r), (0, s), (0, p), (9, 0)]) (st' := [(0, (-1))]) (g' := g) rfl ?_
              exact wp_ret rfl rfl rfl (Or.inr ⟨by omega, rfl⟩)
            · refine wp_eq (L' := [(2, 0), (0, r), (0, s), (0, p), (9, 0)]) (st' := [(0, 0)]) (g' := g) ?_
              refine wp_n 10 (pc' := 94) (L' := [(2, 0), (0, r), (0, s), (0, p), (0, (g 10 11))]) (st' := [(0, r), (0, (g 10 11)), (2, 18)]) (g' := g) rfl ?_
              refine wp_iast (k := 18) ((g 10 11).toNat) rfl rfl (by omega) (by omega) (by decide) ?_
              refine wp_n 5 (pc' := 105) (L' := [(2, 0), (0, r), (0, s), (0, p), (0, (g 10 11))]) (st' := [(0, s), (0, (g 10 11)), (2, 19)]) (g' := (am_up g 18 ((g 10 11).toNat) r)) rfl ?_
              refine wp_iast (k := 19) ((g 10 11).toNat) rfl rfl (by omega) (by omega) (by decide) ?_
              refine wp_n 5 (pc' := 116) (L' := [(2, 0), (0, r), (0, s), (0, p), (0, (g 10 11))]) (st' := [(0, p), (0, (g 10 11)), (2, 20)]) (g' := (am_up (am_up g 18 ((g 10 11).toNat) r) 19 ((g 10 11).toNat) s)) rfl ?_
              refine wp_iast (k := 20) ((g 10 11).toNat) rfl rfl (by omega) (by omega) (by decide) ?_
              refine wp_n 9 (pc' := 132) (L' := [(2, 0), (0, r), (0, s), (0, p), (0, (g 10 11))]) (st' := [(0, ((g 10 11) + 1))]) (g' := (am_up (am_up (am_up (am_up g 18 ((g 10 11).toNat) r) 19 ((g 10 11).toNat) s) 20 ((g 10 11).toNat) p) 10 11 ((g 10 11) + 1))) rfl ?_
              exact wp_ret rfl rfl rfl (Or.inl ⟨by omega, rfl⟩)
      · refine wp_eq (L' := [(2, 0), (0, r), (0, s), (0, p), (9, 0)]) (st' := [(0, 0)]) (g' := g) ?_
        refine wp_n 2 (pc' := 35) (L' := [(2, 0), (0, r), (0, s), (0, p), (9, 0)]) (st' := [(0, (-1))]) (g' := g) rfl ?_
        exact wp_ret rfl rfl rfl (Or.inr ⟨by omega, rfl⟩)
    · refine wp_eq (L' := [(2, 0), (0, r), (0, s), (0, p), (9, 0)]) (st' := [(0, 0)]) (g' := g) ?_
      refine wp_n 2 (pc' := 35) (L' := [(2, 0), (0, r), (0, s), (0, p), (9, 0)]) (st' := [(0, (-1))]) (g' := g) rfl ?_
      exact wp_ret rfl rfl rfl (Or.inr ⟨by omega, rfl⟩)
  · refine wp_eq (L' := [(2, 0), (0, r), (0, s), (0, p), (9, 0)]) (st' := [(0, 0)]) (g' := g) ?_
    refine wp_n 2 (pc' := 35) (L' := [(2, 0), (0, r), (0, s), (0, p), (9, 0)]) (st' := [(0, (-1))]) (g' := g) rfl ?_
    exact wp_ret rfl rfl rfl (Or.inr ⟨by omega, rfl⟩)
set_option maxHeartbeats 400000 in
set_option maxRecDepth 20000 in
theorem m_bet {sn : Nat} {sx : Nat → Int} {b : Nat} {g : am_G} {c : am_G} {P : Nat} {r s p : Int} (h_r : R32 r) (h_s : R32 s) (h_p : R32 p) (hI : CInv P c) (hM : MRel c g) : Ev sn sx 3 244 [(2, 127), (0, r), (0, s), (0, p)] (SH b) g (fun yy => Two b yy (0 ≤ r ∧ r ≤ 3 ∧ 0 ≤ s ∧ s < c 10 4 ∧ 0 ≤ p ∧ p < (P : Int) ∧ c 14 s.toNat ≠ -1 ∧ c 10 11 < 60 ∧ nhb c r s (c 10 11).toNat = 0) (c 10 11 + 1) (am_up (am_up (am_up (am_up g 128 (1400 + 3 * (c 10 11).toNat) r) 128 (1400 + 3 * (c 10 11).toNat + 1) s) 128 (1400 + 3 * (c 10 11).toNat + 2) p) 128 3 (c 10 11 + 1)) (-1) g) := by
  have h5 := hI.ck.1
  have hP : g 127 0 = (P : Int) := hM.n.trans hI.ck.2.1
  have hn := hI.rg.r10_6 4 rfl
  have hn2 := hI.rg.r10_7 11 rfl
  refine ev_of (K := 2) T244 (by decide) rfl rfl (Nat.le_of_ble_eq_true rfl) ?_
  refine wp_eq (L' := [(2, 127), (0, r), (0, s), (0, p), (9, 0)]) (st' := []) (g' := g) ?_
  refine wp_n 3 (pc' := 3) (L' := [(2, 127), (0, r), (0, s), (0, p), (9, 0)]) (st' := [(0, 3), (0, 0), (0, r)]) (g' := g) rfl ?_
  refine wp_cs (as := [(0, r), (0, 0), (0, 3)]) (rest := []) rfl (by decide) rfl (Nat.le_of_ble_eq_true rfl) (e_isIn (by omega) (by omega) (by omega)) (by decide) (fun r2 h3 => ?_)
  rcases h3 with ⟨rfl, p1⟩ | ⟨rfl, p1⟩
  · refine wp_eq (L' := [(2, 127), (0, r), (0, s), (0, p), (9, 0)]) (st' := [(0, 1)]) (g' := g) ?_
    refine wp_n 6 (pc' := 16) (L' := [(2, 127), (0, r), (0, s), (0, p), (9, 0)]) (st' := [(0, 2), (2, 128), (0, 0), (0, s)]) (g' := g) rfl ?_
    refine wp_iald (k := 128) (2) rfl rfl (by omega) (by omega) (by decide) ?_
    refine wp_eq (L' := [(2, 127), (0, r), (0, s), (0, p), (9, 0)]) (st' := [(0, (c 10 4)), (0, 0), (0, s)]) (g' := g) ?_ (by rfl) (by rw [hM.written]) (by rfl)
    refine wp_n 2 (pc' := 19) (L' := [(2, 127), (0, r), (0, s), (0, p), (9, 0)]) (st' := [(0, ((c 10 4) - 1)), (0, 0), (0, s)]) (g' := g) rfl ?_
    refine wp_cs (as := [(0, s), (0, 0), (0, ((c 10 4) - 1))]) (rest := []) rfl (by decide) rfl (Nat.le_of_ble_eq_true rfl) (e_isIn (by omega) (by omega) (by omega)) (by decide) (fun r5 h6 => ?_)
    rcases h6 with ⟨rfl, p4⟩ | ⟨rfl, p4⟩
    · have hfl := hI.rg.r14_13 s.toNat (by omega)
      refine wp_eq (L' := [(2, 127), (0, r), (0, s), (0, p), (9, 0)]) (st' := [(0, 1)]) (g' := g) ?_
      refine wp_n 3 (pc' := 27) (L' := [(2, 127), (0, r), (0, s), (0, p), (9, 0)]) (st' := [(0, p), (2, 127)]) (g' := g) rfl ?_
      refine wp_cv (as := [(2, 127), (0, p)]) (rest := []) rfl rfl rfl (Nat.le_of_ble_eq_true rfl) rfl (m_isPocket (by omega) (by assumption) (by omega)) (by decide) (fun r7 h8 => ?_)
      rcases h8 with ⟨rfl, p27⟩ | ⟨rfl, p27⟩
      · refine wp_eq (L' := [(2, 127), (0, r), (0, s), (0, p), (9, 0)]) (st' := [(0, 1)]) (g' := g) ?_
        refine wp_n 10 (pc' := 46) (L' := [(2, 127), (0, r), (0, s), (0, p), (9, 0)]) (st' := [(0, ((580 + (4 * s)) + 3)), (2, 128)]) (g' := g) rfl ?_
        refine wp_iald (k := 128) ((580 + 4 * s.toNat + 3)) rfl rfl (by omega) (by omega) (by decide) ?_
        refine wp_eq (L' := [(2, 127), (0, r), (0, s), (0, p), (9, 0)]) (st' := [(0, (c 14 s.toNat))]) (g' := g) ?_ (by rfl) (by rw [hM.fl _ (by omega)]) (by rfl)
        refine wp_if_lt rfl (fun c9 => ?_) (fun c9 => ?_)
        · refine wp_n 1 (pc' := 62) (L' := [(2, 127), (0, r), (0, s), (0, p), (9, 0)]) (st' := [(0, (-1))]) (g' := g) rfl ?_
          exact wp_ret rfl rfl rfl (Or.inr ⟨by omega, rfl⟩)
        · refine wp_n 3 (pc' := 55) (L' := [(2, 127), (0, r), (0, s), (0, p), (9, 0)]) (st' := [(0, 3), (2, 128)]) (g' := g) rfl ?_
          refine wp_iald (k := 128) (3) rfl rfl (by omega) (by omega) (by decide) ?_
          refine wp_eq (L' := [(2, 127), (0, r), (0, s), (0, p), (9, 0)]) (st' := [(0, (c 10 11))]) (g' := g) ?_ (by rfl) (by rw [hM.bets]) (by rfl)
          refine wp_n 1 (pc' := 58) (L' := [(2, 127), (0, r), (0, s), (0, p), (9, 0)]) (st' := [(0, 60), (0, (c 10 11))]) (g' := g) rfl ?_
          refine wp_ic_ne rfl (fun c10 => ?_) (fun c10 => ?_)
          · refine wp_n 2 (pc' := 66) (L' := [(2, 127), (0, r), (0, s), (0, p), (0, 0)]) (st' := []) (g' := g) rfl ?_
            have L66 : ∀ (lf : Nat) (i : Nat), (c 10 11).toNat - i < lf → (i ≤ (c 10 11).toNat) → (nhb c r s i = 0) → Wp sn sx 2 T244 66 [(2, 127), (0, r), (0, s), (0, p), (0, ((i : Nat) : Int))] [] (SH b) g (fun yy => Two b yy (0 ≤ r ∧ r ≤ 3 ∧ 0 ≤ s ∧ s < c 10 4 ∧ 0 ≤ p ∧ p < (P : Int) ∧ c 14 s.toNat ≠ -1 ∧ c 10 11 < 60 ∧ nhb c r s (c 10 11).toNat = 0) (c 10 11 + 1) (am_up (am_up (am_up (am_up g 128 (1400 + 3 * (c 10 11).toNat) r) 128 (1400 + 3 * (c 10 11).toNat + 1) s) 128 (1400 + 3 * (c 10 11).toNat + 2) p) 128 3 (c 10 11 + 1)) (-1) g) := by
              intro lf
              induction lf with
              | zero => intro i hlf; exact absurd hlf (Nat.not_lt_zero _)
              | succ lf ih66 =>
                intro i hlf hi hz
                refine wp_n 4 (pc' := 73) (L' := [(2, 127), (0, r), (0, s), (0, p), (0, ((i : Nat) : Int))]) (st' := [(0, 3), (2, 128), (0, ((i : Nat) : Int))]) (g' := g) rfl ?_
                refine wp_iald (k := 128) (3) rfl rfl (by omega) (by omega) (by decide) ?_
                refine wp_eq (L' := [(2, 127), (0, r), (0, s), (0, p), (0, ((i : Nat) : Int))]) (st' := [(0, (c 10 11)), (0, ((i : Nat) : Int))]) (g' := g) ?_ (by rfl) (by rw [hM.bets]) (by rfl)
                refine wp_ic_ge rfl (fun c11 => ?_) (fun c11 => ?_)
                · have hk2 : i = (c 10 11).toNat := by omega
                  rw [hk2] at hz
                  refine wp_n 5 (pc' := 130) (L' := [(2, 127), (0, r), (0, s), (0, p), (0, ((i : Nat) : Int))]) (st' := [(0, 3), (2, 128), (0, 3), (0, 1400)]) (g' := g) rfl ?_
                  refine wp_iald (k := 128) (3) rfl rfl (by omega) (by omega) (by decide) ?_
                  refine wp_eq (L' := [(2, 127), (0, r), (0, s), (0, p), (0, ((i : Nat) : Int))]) (st' := [(0, (c 10 11)), (0, 3), (0, 1400)]) (g' := g) ?_ (by rfl) (by rw [hM.bets]) (by rfl)
                  refine wp_n 7 (pc' := 142) (L' := [(2, 127), (0, r), (0, s), (0, p), (0, (1400 + (3 * (c 10 11))))]) (st' := [(0, r), (0, (1400 + (3 * (c 10 11)))), (2, 128)]) (g' := g) rfl ?_
                  refine wp_iast (k := 128) ((1400 + 3 * (c 10 11).toNat)) rfl rfl (by omega) (by omega) (by decide) ?_
                  refine wp_n 6 (pc' := 152) (L' := [(2, 127), (0, r), (0, s), (0, p), (0, (1400 + (3 * (c 10 11))))]) (st' := [(0, s), (0, ((1400 + (3 * (c 10 11))) + 1)), (2, 128)]) (g' := (am_up g 128 ((1400 + 3 * (c 10 11).toNat)) r)) rfl ?_
                  refine wp_iast (k := 128) ((1400 + 3 * (c 10 11).toNat + 1)) rfl rfl (by omega) (by omega) (by decide) ?_
                  refine wp_n 6 (pc' := 162) (L' := [(2, 127), (0, r), (0, s), (0, p), (0, (1400 + (3 * (c 10 11))))]) (st' := [(0, p), (0, ((1400 + (3 * (c 10 11))) + 2)), (2, 128)]) (g' := (am_up (am_up g 128 ((1400 + 3 * (c 10 11).toNat)) r) 128 ((1400 + 3 * (c 10 11).toNat + 1)) s)) rfl ?_
                  refine wp_iast (k := 128) ((1400 + 3 * (c 10 11).toNat + 2)) rfl rfl (by omega) (by omega) (by decide) ?_
                  refine wp_n 4 (pc' := 169) (L' := [(2, 127), (0, r), (0, s), (0, p), (0, (1400 + (3 * (c 10 11))))]) (st' := [(0, 3), (2, 128), (0, 3), (2, 128)]) (g' := (am_up (am_up (am_up g 128 ((1400 + 3 * (c 10 11).toNat)) r) 128 ((1400 + 3 * (c 10 11).toNat + 1)) s) 128 ((1400 + 3 * (c 10 11).toNat + 2)) p)) rfl ?_
                  refine wp_iald (k := 128) (3) rfl rfl (by omega) (by omega) (by decide) ?_
                  refine wp_eq (L' := [(2, 127), (0, r), (0, s), (0, p), (0, (1400 + (3 * (c 10 11))))]) (st' := [(0, (c 10 11)), (0, 3), (2, 128)]) (g' := (am_up (am_up (am_up g 128 ((1400 + 3 * (c 10 11).toNat)) r) 128 ((1400 + 3 * (c 10 11).toNat + 1)) s) 128 ((1400 + 3 * (c 10 11).toNat + 2)) p)) ?_ (by rfl) (by (repeat rw [up_no (by omega)]); rw [hM.bets]) (by rfl)
                  refine wp_n 2 (pc' := 172) (L' := [(2, 127), (0, r), (0, s), (0, p), (0, (1400 + (3 * (c 10 11))))]) (st' := [(0, ((c 10 11) + 1)), (0, 3), (2, 128)]) (g' := (am_up (am_up (am_up g 128 ((1400 + 3 * (c 10 11).toNat)) r) 128 ((1400 + 3 * (c 10 11).toNat + 1)) s) 128 ((1400 + 3 * (c 10 11).toNat + 2)) p)) rfl ?_
                  refine wp_iast (k := 128) (3) rfl rfl (by omega) (by omega) (by decide) ?_
                  refine wp_n 3 (pc' := 178) (L' := [(2, 127), (0, r), (0, s), (0, p), (0, (1400 + (3 * (c 10 11))))]) (st' := [(0, 3), (2, 128)]) (g' := (am_up (am_up (am_up (am_up g 128 ((1400 + 3 * (c 10 11).toNat)) r) 128 ((1400 + 3 * (c 10 11).toNat + 1)) s) 128 ((1400 + 3 * (c 10 11).toNat + 2)) p) 128 3 ((c 10 11) + 1))) rfl ?_
                  refine wp_iald (k := 128) (3) rfl rfl (by omega) (by omega) (by decide) ?_
                  refine wp_eq (L' := [(2, 127), (0, r), (0, s), (0, p), (0, (1400 + (3 * (c 10 11))))]) (st' := [(0, (c 10 11 + 1))]) (g' := (am_up (am_up (am_up (am_up g 128 ((1400 + 3 * (c 10 11).toNat)) r) 128 ((1400 + 3 * (c 10 11).toNat + 1)) s) 128 ((1400 + 3 * (c 10 11).toNat + 2)) p) 128 3 ((c 10 11) + 1))) ?_ (by rfl) (by rw [up_eq]) (by rfl)
                  exact wp_ret rfl rfl rfl (Or.inl ⟨by omega, rfl⟩)
                · have hr := hI.rg.r18_21 i (by omega)
                  have hrr := hI.rg.r19_22 i (by omega)
                  refine wp_n 7 (pc' := 89) (L' := [(2, 127), (0, r), (0, s), (0, p), (0, ((i : Nat) : Int))]) (st' := [(0, (1400 + (3 * ((i : Nat) : Int)))), (2, 128)]) (g' := g) rfl ?_
                  refine wp_iald (k := 128) ((1400 + 3 * i)) rfl rfl (by omega) (by omega) (by decide) ?_
                  refine wp_eq (L' := [(2, 127), (0, r), (0, s), (0, p), (0, ((i : Nat) : Int))]) (st' := [(0, (c 18 i))]) (g' := g) ?_ (by rfl) (by rw [hM.bt _ (by omega)]) (by rfl)
                  refine wp_n 1 (pc' := 91) (L' := [(2, 127), (0, r), (0, s), (0, p), (0, ((i : Nat) : Int))]) (st' := [(0, r), (0, (c 18 i))]) (g' := g) rfl ?_
                  refine wp_ic_ne rfl (fun c12 => ?_) (fun c12 => ?_)
                  · refine wp_n 2 (pc' := 66) (L' := [(2, 127), (0, r), (0, s), (0, p), (0, (((i : Nat) : Int) + 1))]) (st' := []) (g' := g) rfl ?_
                    refine wp_eq (ih66 (i + 1) ?_ ?_ ?_) (by first | rfl | (simp; done) | (simp; omega)) (by rfl) (by rfl)
                    · omega
                    · omega
                    · rw [nhb_s, hz, if_neg (by omega)]
                  · refine wp_n 9 (pc' := 108) (L' := [(2, 127), (0, r), (0, s), (0, p), (0, ((i : Nat) : Int))]) (st' := [(0, ((1400 + (3 * ((i : Nat) : Int))) + 1)), (2, 128)]) (g' := g) rfl ?_
                    refine wp_iald (k := 128) ((1400 + 3 * i + 1)) rfl rfl (by omega) (by omega) (by decide) ?_
                    refine wp_eq (L' := [(2, 127), (0, r), (0, s), (0, p), (0, ((i : Nat) : Int))]) (st' := [(0, (c 19 i))]) (g' := g) ?_ (by rfl) (by rw [hM.bs _ (by omega)]) (by rfl)
                    refine wp_n 1 (pc' := 110) (L' := [(2, 127), (0, r), (0, s), (0, p), (0, ((i : Nat) : Int))]) (st' := [(0, s), (0, (c 19 i))]) (g' := g) rfl ?_
                    refine wp_ic_ne rfl (fun c13 => ?_) (fun c13 => ?_)
                    · refine wp_n 2 (pc' := 66) (L' := [(2, 127), (0, r), (0, s), (0, p), (0, (((i : Nat) : Int) + 1))]) (st' := []) (g' := g) rfl ?_
                      refine wp_eq (ih66 (i + 1) ?_ ?_ ?_) (by first | rfl | (simp; done) | (simp; omega)) (by rfl) (by rfl)
                      · omega
                      · omega
                      · rw [nhb_s, hz, if_neg (by omega)]
                    · have hnz := nhb_mono (g := c) (r := r) (s := s) (show i + 1 ≤ (c 10 11).toNat by omega)
                      rw [nhb_s, if_pos ⟨by omega, by omega⟩] at hnz
                      refine wp_n 1 (pc' := 114) (L' := [(2, 127), (0, r), (0, s), (0, p), (0, ((i : Nat) : Int))]) (st' := [(0, (-1))]) (g' := g) rfl ?_
                      exact wp_ret rfl rfl rfl (Or.inr ⟨by omega, rfl⟩)
            refine wp_eq (L66 (_ + 1) (0) (Nat.lt_succ_self _) ?_ ?_) (by first | rfl | (simp; done) | (simp; omega)) (by rfl) (by rfl)
            · exact Nat.zero_le _
            · rfl
          · refine wp_n 1 (pc' := 62) (L' := [(2, 127), (0, r), (0, s), (0, p), (9, 0)]) (st' := [(0, (-1))]) (g' := g) rfl ?_
            exact wp_ret rfl rfl rfl (Or.inr ⟨by omega, rfl⟩)
      · refine wp_eq (L' := [(2, 127), (0, r), (0, s), (0, p), (9, 0)]) (st' := [(0, 0)]) (g' := g) ?_
        refine wp_n 2 (pc' := 62) (L' := [(2, 127), (0, r), (0, s), (0, p), (9, 0)]) (st' := [(0, (-1))]) (g' := g) rfl ?_
        exact wp_ret rfl rfl rfl (Or.inr ⟨by omega, rfl⟩)
    · refine wp_eq (L' := [(2, 127), (0, r), (0, s), (0, p), (9, 0)]) (st' := [(0, 0)]) (g' := g) ?_
      refine wp_n 2 (pc' := 62) (L' := [(2, 127), (0, r), (0, s), (0, p), (9, 0)]) (st' := [(0, (-1))]) (g' := g) rfl ?_
      exact wp_ret rfl rfl rfl (Or.inr ⟨by omega, rfl⟩)
  · refine wp_eq (L' := [(2, 127), (0, r), (0, s), (0, p), (9, 0)]) (st' := [(0, 0)]) (g' := g) ?_
    refine wp_n 2 (pc' := 62) (L' := [(2, 127), (0, r), (0, s), (0, p), (9, 0)]) (st' := [(0, (-1))]) (g' := g) rfl ?_
    exact wp_ret rfl rfl rfl (Or.inr ⟨by omega, rfl⟩)
def F_bet (P : Nat) (r s p : Int) (c c1 : am_G) (v1 : Int) : Prop := ((0 ≤ r ∧ r ≤ 3 ∧ 0 ≤ s ∧ s < c 10 4 ∧ 0 ≤ p ∧ p < (P : Int) ∧ c 14 s.toNat ≠ -1 ∧ c 10 11 < 60 ∧ nhb c r s (c 10 11).toNat = 0) ∧ v1 = (c 10 11 + 1) ∧ c1 = (am_up (am_up (am_up (am_up c 18 (c 10 11).toNat r) 19 (c 10 11).toNat s) 20 (c 10 11).toNat p) 10 11 (c 10 11 + 1))) ∨ (¬ (0 ≤ r ∧ r ≤ 3 ∧ 0 ≤ s ∧ s < c 10 4 ∧ 0 ≤ p ∧ p < (P : Int) ∧ c 14 s.toNat ≠ -1 ∧ c 10 11 < 60 ∧ nhb c r s (c 10 11).toNat = 0) ∧ v1 = -1 ∧ c1 = c)
set_option maxRecDepth 20000 in
theorem C_bet {sn : Nat} {sx : Nat → Int} {b : Nat} {g : am_G} {P : Nat} {r s p : Int} (h_r : R32 r) (h_s : R32 s) (h_p : R32 p) (hI : CInv P g) : Ev sn sx 3 123 [(2, 0), (0, r), (0, s), (0, p)] (SH b) g (CPost P g (F_bet P r s p g)) := (e_bet h_r h_s h_p hI).mono fun r h => by
  rcases h with ⟨hD, rfl⟩ | ⟨hD, rfl⟩
  · have h5 := hI.ck.1
    have hn := hI.rg.r10_6 4 rfl
    have hn2 := hI.rg.r10_7 11 rfl
    refine ⟨_, _, b, rfl, ⟨hI.ck.same fun c j q => by (repeat rw [up_no (by omega)]), ((((hI.rg.up (by unfold Rg; omega) (by omega)).up (by unfold Rg; omega) (by omega)).up (by unfold Rg; omega) (by omega)).up (by unfold Rg; omega) (by omega)), hI.rgi.same fun c j q1 q2 => by (repeat rw [up_no (by omega)]), hI.e24.same fun c j q => by (repeat rw [up_no (by omega)]), hI.e24i.same fun c j q => by (repeat rw [up_no (by omega)]), hI.tx.same fun c j q1 q2 => by (repeat rw [up_no (by omega)]), hI.txi.same fun c j q1 q2 => by (repeat rw [up_no (by omega)]), hI.ti.same fun c j q => by (repeat rw [up_no (by omega)]), hI.tap.same fun c j q => by (repeat rw [up_no (by omega)]), hI.cls.same fun c j q1 q2 => by (repeat rw [up_no (by omega)]), hI.wls.same fun c j q1 q2 => by (repeat rw [up_no (by omega)]), hI.caw.same fun c j q => by (repeat rw [up_no (by omega)]), hI.cal.same fun c j q => by (repeat rw [up_no (by omega)])⟩, fun c j q => by (repeat rw [up_no (by omega)]), Or.inl ⟨hD, rfl, rfl⟩⟩
  · exact ⟨_, _, b, rfl, hI, fun _ _ _ => rfl, Or.inr ⟨hD, rfl, rfl⟩⟩
set_option maxRecDepth 20000 in
theorem M_bet {sn : Nat} {sx : Nat → Int} {b : Nat} {g c : am_G} {P : Nat} {r s p : Int} (h_r : R32 r) (h_s : R32 s) (h_p : R32 p) (hI : CInv P c) (hM : MRel c g) : Ev sn sx 3 244 [(2, 127), (0, r), (0, s), (0, p)] (SH b) g (MPost b g (F_bet P r s p c)) := (m_bet h_r h_s h_p hI hM).mono fun r h => by
  rcases h with ⟨hD, rfl⟩ | ⟨hD, rfl⟩
  · refine ⟨_, _, rfl, fun k j q => by (repeat rw [up_no (by omega)]), fun c1 v1 hE => ?_⟩
    rcases hE with ⟨-, rfl, rfl⟩ | ⟨hn, -, -⟩
    · have h5 := hI.ck.1
      have hn := hI.rg.r10_6 4 rfl
      have hn2 := hI.rg.r10_7 11 rfl
      exact ⟨rfl, ((((hM.up (i := 1400 + 3 * (c 10 11).toNat) (k := 18) (j := (c 10 11).toNat) ((cp_bet _ (by omega) (by omega)).trans (by omega)) ((cj_bet _ (by omega) (by omega)).trans (by omega)) (by omega) (by omega) (by omega)).up (i := 1400 + 3 * (c 10 11).toNat + 1) (k := 19) (j := (c 10 11).toNat) ((cp_bet _ (by omega) (by omega)).trans (by omega)) ((cj_bet _ (by omega) (by omega)).trans (by omega)) (by omega) (by omega) (by omega)).up (i := 1400 + 3 * (c 10 11).toNat + 2) (k := 20) (j := (c 10 11).toNat) ((cp_bet _ (by omega) (by omega)).trans (by omega)) ((cj_bet _ (by omega) (by omega)).trans (by omega)) (by omega) (by omega) (by omega)).up (i := 3) (k := 10) (j := 11) ((cp_i3 _ (by omega) (by omega)).trans (by omega)) ((cj_i3 _ (by omega) (by omega)).trans (by omega)) (by omega) (by omega) (by omega))⟩
    · exact absurd hD hn
  · refine ⟨_, _, rfl, fun k j q => rfl, fun c1 v1 hE => ?_⟩
    rcases hE with ⟨hn, -, -⟩ | ⟨-, rfl, rfl⟩
    · exact absurd hn hD
    · exact ⟨rfl, hM⟩
set_option maxHeartbeats 400000 in
set_option maxRecDepth 20000 in
theorem e_betsOf {sn : Nat} {sx : Nat → Int} {b : Nat} {g : am_G} {P : Nat} {r : Int} (hr0 : R32 r) (hR : Rng P 0 g) : Ev sn sx 1 23 [(2, 10), (0, r)] (SH b) g (fun y => y = (some (0, ((nbt g r (g 10 11).toNat : Nat) : Int)), SH b, g)) := by
  have hn := hR.r10_7 11 rfl
  refine ev_of (K := 0) T23 (by decide) rfl rfl (Nat.le_of_ble_eq_true rfl) ?_
  refine wp_eq (L' := [(2, 10), (0, r), (9, 0), (9, 0)]) (st' := []) (g' := g) ?_
  refine wp_n 4 (pc' := 4) (L' := [(2, 10), (0, r), (0, 0), (0, 0)]) (st' := []) (g' := g) rfl ?_
  have L4 : ∀ (lf : Nat) (i : Nat), (g 10 11).toNat - i < lf → (i ≤ (g 10 11).toNat) → Wp sn sx 0 T23 4 [(2, 10), (0, r), (0, (((nbt g r i) : Nat) : Int)), (0, ((i : Nat) : Int))] [] (SH b) g (fun y => y = (some (0, ((nbt g r (g 10 11).toNat : Nat) : Int)), SH b, g)) := by
    intro lf
    induction lf with
    | zero => intro i hlf; exact absurd hlf (Nat.not_lt_zero _)
    | succ lf ih4 =>
      intro i hlf hi
      refine wp_n 3 (pc' := 9) (L' := [(2, 10), (0, r), (0, (((nbt g r i) : Nat) : Int)), (0, ((i : Nat) : Int))]) (st' := [(0, (g 10 11)), (0, ((i : Nat) : Int))]) (g' := g) rfl ?_
      refine wp_ic_ge rfl (fun c1 => ?_) (fun c1 => ?_)
      · have hk2 : i = (g 10 11).toNat := by omega
        refine wp_n 1 (pc' := 32) (L' := [(2, 10), (0, r), (0, (((nbt g r i) : Nat) : Int)), (0, ((i : Nat) : Int))]) (st' := [(0, (((nbt g r i) : Nat) : Int))]) (g' := g) rfl ?_
        exact wp_ret rfl rfl rfl (by rw [hk2])
      · have hr := hR.r18_21 i (by omega)
        refine wp_n 3 (pc' := 17) (L' := [(2, 10), (0, r), (0, (((nbt g r i) : Nat) : Int)), (0, ((i : Nat) : Int))]) (st' := [(0, ((i : Nat) : Int)), (2, 18)]) (g' := g) rfl ?_
        refine wp_iald (k := 18) (i) rfl rfl (by omega) (by omega) (by decide) ?_
        refine wp_n 1 (pc' := 19) (L' := [(2, 10), (0, r), (0, (((nbt g r i) : Nat) : Int)), (0, ((i : Nat) : Int))]) (st' := [(0, r), (0, (g 18 i))]) (g' := g) rfl ?_
        refine wp_ic_ne rfl (fun c2 => ?_) (fun c2 => ?_)
        · have hq : ¬ g 18 i = r := by omega
          refine wp_n 2 (pc' := 4) (L' := [(2, 10), (0, r), (0, (((nbt g r i) : Nat) : Int)), (0, (((i : Nat) : Int) + 1))]) (st' := []) (g' := g) rfl ?_
          refine wp_eq (ih4 (i + 1) ?_ ?_) (by first | (rw [nbt_s, if_pos hq]; rfl) | (rw [nbt_s, if_neg hq]; rfl)) (by rfl) (by rfl)
          · omega
          · omega
        · have hq : g 18 i = r := by omega
          refine wp_n 3 (pc' := 4) (L' := [(2, 10), (0, r), (0, ((((nbt g r i) : Nat) : Int) + 1)), (0, (((i : Nat) : Int) + 1))]) (st' := []) (g' := g) rfl ?_
          refine wp_eq (ih4 (i + 1) ?_ ?_) (by first | (rw [nbt_s, if_pos hq]; rfl) | (rw [nbt_s, if_neg hq]; rfl)) (by rfl) (by rfl)
          · omega
          · omega
  refine wp_eq (L4 (_ + 1) (0) (Nat.lt_succ_self _) ?_) (by first | rfl | (simp; done) | (simp; omega)) (by rfl) (by rfl)
  · exact Nat.zero_le _
set_option maxHeartbeats 400000 in
set_option maxRecDepth 20000 in
theorem e_betsWon {sn : Nat} {sx : Nat → Int} {b : Nat} {g : am_G} {P : Nat} {r : Int} (hr0 : R32 r) (hR : Rng P 0 g) (h5 : 5 ≤ P ∧ P ≤ 37) : Ev sn sx 1 24 [(2, 10), (0, r)] (SH b) g (fun y => y = (some (0, ((nbw g r (g 10 11).toNat : Nat) : Int)), SH b, g)) := by
  have hn := hR.r10_7 11 rfl
  refine ev_of (K := 0) T24 (by decide) rfl rfl (Nat.le_of_ble_eq_true rfl) ?_
  refine wp_eq (L' := [(2, 10), (0, r), (9, 0), (9, 0)]) (st' := []) (g' := g) ?_
  refine wp_n 4 (pc' := 4) (L' := [(2, 10), (0, r), (0, 0), (0, 0)]) (st' := []) (g' := g) rfl ?_
  have L4 : ∀ (lf : Nat) (i : Nat), (g 10 11).toNat - i < lf → (i ≤ (g 10 11).toNat) → Wp sn sx 0 T24 4 [(2, 10), (0, r), (0, (((nbw g r i) : Nat) : Int)), (0, ((i : Nat) : Int))] [] (SH b) g (fun y => y = (some (0, ((nbw g r (g 10 11).toNat : Nat) : Int)), SH b, g)) := by
    intro lf
    induction lf with
    | zero => intro i hlf; exact absurd hlf (Nat.not_lt_zero _)
    | succ lf ih4 =>
      intro i hlf hi
      refine wp_n 3 (pc' := 9) (L' := [(2, 10), (0, r), (0, (((nbw g r i) : Nat) : Int)), (0, ((i : Nat) : Int))]) (st' := [(0, (g 10 11)), (0, ((i : Nat) : Int))]) (g' := g) rfl ?_
      refine wp_ic_ge rfl (fun c1 => ?_) (fun c1 => ?_)
      · have hk2 : i = (g 10 11).toNat := by omega
        refine wp_n 1 (pc' := 52) (L' := [(2, 10), (0, r), (0, (((nbw g r i) : Nat) : Int)), (0, ((i : Nat) : Int))]) (st' := [(0, (((nbw g r i) : Nat) : Int))]) (g' := g) rfl ?_
        exact wp_ret rfl rfl rfl (by rw [hk2])
      · have hr := hR.r18_21 i (by omega)
        have hr2 := hR.r19_22 i (by omega)
        have hr3 := hR.r14_13 (g 19 i).toNat (by omega)
        have hr4 := hR.r20_23 i (by omega)
        refine wp_n 3 (pc' := 17) (L' := [(2, 10), (0, r), (0, (((nbw g r i) : Nat) : Int)), (0, ((i : Nat) : Int))]) (st' := [(0, ((i : Nat) : Int)), (2, 18)]) (g' := g) rfl ?_
        refine wp_iald (k := 18) (i) rfl rfl (by omega) (by omega) (by decide) ?_
        refine wp_n 1 (pc' := 19) (L' := [(2, 10), (0, r), (0, (((nbw g r i) : Nat) : Int)), (0, ((i : Nat) : Int))]) (st' := [(0, r), (0, (g 18 i))]) (g' := g) rfl ?_
        refine wp_ic_ne rfl (fun c2 => ?_) (fun c2 => ?_)
        · have hq : ¬ (g 18 i = r ∧ g 14 (g 19 i).toNat = g 20 i) := by omega
          refine wp_n 2 (pc' := 4) (L' := [(2, 10), (0, r), (0, (((nbw g r i) : Nat) : Int)), (0, (((i : Nat) : Int) + 1))]) (st' := []) (g' := g) rfl ?_
          refine wp_eq (ih4 (i + 1) ?_ ?_) (by first | (rw [nbw_s, if_pos hq]; rfl) | (rw [nbw_s, if_neg hq]; rfl)) (by rfl) (by rfl)
          · omega
          · omega
        · refine wp_n 5 (pc' := 31) (L' := [(2, 10), (0, r), (0, (((nbw g r i) : Nat) : Int)), (0, ((i : Nat) : Int))]) (st' := [(0, ((i : Nat) : Int)), (2, 19), (2, 14)]) (g' := g) rfl ?_
          refine wp_iald (k := 19) (i) rfl rfl (by omega) (by omega) (by decide) ?_
          refine wp_iald (k := 14) ((g 19 i).toNat) rfl rfl (by omega) (by omega) (by decide) ?_
          refine wp_n 3 (pc' := 38) (L' := [(2, 10), (0, r), (0, (((nbw g r i) : Nat) : Int)), (0, ((i : Nat) : Int))]) (st' := [(0, ((i : Nat) : Int)), (2, 20), (0, (g 14 (g 19 i).toNat))]) (g' := g) rfl ?_
          refine wp_iald (k := 20) (i) rfl rfl (by omega) (by omega) (by decide) ?_
          refine wp_ic_ne rfl (fun c3 => ?_) (fun c3 => ?_)
          · have hq : ¬ (g 18 i = r ∧ g 14 (g 19 i).toNat = g 20 i) := by omega
            refine wp_n 2 (pc' := 4) (L' := [(2, 10), (0, r), (0, (((nbw g r i) : Nat) : Int)), (0, (((i : Nat) : Int) + 1))]) (st' := []) (g' := g) rfl ?_
            refine wp_eq (ih4 (i + 1) ?_ ?_) (by first | (rw [nbw_s, if_pos hq]; rfl) | (rw [nbw_s, if_neg hq]; rfl)) (by rfl) (by rfl)
            · omega
            · omega
          · have hq : g 18 i = r ∧ g 14 (g 19 i).toNat = g 20 i := by omega
            refine wp_n 3 (pc' := 4) (L' := [(2, 10), (0, r), (0, ((((nbw g r i) : Nat) : Int) + 1)), (0, (((i : Nat) : Int) + 1))]) (st' := []) (g' := g) rfl ?_
            refine wp_eq (ih4 (i + 1) ?_ ?_) (by first | (rw [nbw_s, if_pos hq]; rfl) | (rw [nbw_s, if_neg hq]; rfl)) (by rfl) (by rfl)
            · omega
            · omega
  refine wp_eq (L4 (_ + 1) (0) (Nat.lt_succ_self _) ?_) (by first | rfl | (simp; done) | (simp; omega)) (by rfl) (by rfl)
  · exact Nat.zero_le _
def WtA (P : Nat) (n k : Nat) (r w x : Int) : Prop := (0 ≤ r ∧ r ≤ 3 ∧ w = 0 ∧ x = (n : Int)) ∨ (0 ≤ r ∧ r ≤ 3 ∧ w = 1 ∧ x = (k : Int)) ∨ (0 ≤ r ∧ r ≤ 3 ∧ w = 2 ∧ 1 ≤ n ∧ IsShare (tl 1 ((P : Int) - 1) n k) 1000000 ((P : Int) ^ n) x) ∨ (¬ (0 ≤ r ∧ r ≤ 3 ∧ 0 ≤ w ∧ w ≤ 2) ∧ x = -1) ∨ (0 ≤ r ∧ r ≤ 3 ∧ w = 2 ∧ n = 0 ∧ x = -1)
theorem WtA.uniq {P n k : Nat} {r w x x' : Int} (h5 : 5 ≤ P) (h : WtA P n k r w x) (h' : WtA P n k r w x') : x = x' := by
  have hw : (0 : Int) < (P : Int) ^ n := Int.pow_pos (by omega)
  rcases h with h | h | h | h | h <;> rcases h' with h' | h' | h' | h' | h' <;> first | omega | (exact h.2.2.2.2.uniq hw h'.2.2.2.2)
set_option maxHeartbeats 400000 in
set_option maxRecDepth 20000 in
theorem e_watched {sn : Nat} {sx : Nat → Int} {b : Nat} {g : am_G} {P : Nat} {r w : Int} (h_r : R32 r) (h_w : R32 w) (hI : CInv P g) : Ev sn sx 6 124 [(2, 0), (0, r), (0, w)] (SH b) g (fun y => ∃ g' v, y = (some (0, v), SH b, g') ∧ WtA P (nbt g r (g 10 11).toNat) (nbw g r (g 10 11).toNat) r w v ∧ CLs g' ∧ FrH g g') := by
  have hP := hI.ck.2.1
  have h5 := hI.ck.1
  have hn := hI.rg.r10_7 11 rfl
  have hle := nbw_le g r (g 10 11).toNat
  have hP2 := hI.ck.2.2.2.2.2.2
  refine ev_of (K := 5) T124 (by decide) rfl rfl (Nat.le_of_ble_eq_true rfl) ?_
  refine wp_eq (L' := [(2, 0), (0, r), (0, w), (9, 0), (9, 0)]) (st' := []) (g' := g) ?_
  refine wp_n 3 (pc' := 3) (L' := [(2, 0), (0, r), (0, w), (9, 0), (9, 0)]) (st' := [(0, 3), (0, 0), (0, r)]) (g' := g) rfl ?_
  refine wp_cs (as := [(0, r), (0, 0), (0, 3)]) (rest := []) rfl (by decide) rfl (Nat.le_of_ble_eq_true rfl) (e_within (by omega) (by omega) (by omega)) (by decide) (fun r2 h3 => ?_)
  rcases h3 with ⟨rfl, p1⟩ | ⟨rfl, p1⟩
  · refine wp_eq (L' := [(2, 0), (0, r), (0, w), (9, 0), (9, 0)]) (st' := [(0, 1)]) (g' := g) ?_
    refine wp_n 4 (pc' := 12) (L' := [(2, 0), (0, r), (0, w), (9, 0), (9, 0)]) (st' := [(0, 2), (0, 0), (0, w)]) (g' := g) rfl ?_
    refine wp_cs (as := [(0, w), (0, 0), (0, 2)]) (rest := []) rfl (by decide) rfl (Nat.le_of_ble_eq_true rfl) (e_within (by omega) (by omega) (by omega)) (by decide) (fun r5 h6 => ?_)
    rcases h6 with ⟨rfl, p4⟩ | ⟨rfl, p4⟩
    · refine wp_eq (L' := [(2, 0), (0, r), (0, w), (9, 0), (9, 0)]) (st' := [(0, 1)]) (g' := g) ?_
      refine wp_n 4 (pc' := 25) (L' := [(2, 0), (0, r), (0, w), (9, 0), (9, 0)]) (st' := [(0, r), (2, 10)]) (g' := g) rfl ?_
      refine wp_cv (as := [(2, 10), (0, r)]) (rest := []) rfl rfl rfl (Nat.le_of_ble_eq_true rfl) rfl (e_betsOf (P := P) (by omega) hI.rg) (by decide) (fun r7 h8 => ?_)
      obtain rfl := h8
      refine wp_eq (L' := [(2, 0), (0, r), (0, w), (9, 0), (9, 0)]) (st' := [(0, (((nbt g r (g 10 11).toNat) : Nat) : Int))]) (g' := g) ?_
      refine wp_n 2 (pc' := 30) (L' := [(2, 0), (0, r), (0, w), (0, (((nbt g r (g 10 11).toNat) : Nat) : Int)), (9, 0)]) (st' := [(0, w)]) (g' := g) rfl ?_
      refine wp_if_ne rfl (fun c9 => ?_) (fun c9 => ?_)
      · refine wp_n 3 (pc' := 40) (L' := [(2, 0), (0, r), (0, w), (0, (((nbt g r (g 10 11).toNat) : Nat) : Int)), (9, 0)]) (st' := [(0, r), (2, 10)]) (g' := g) rfl ?_
        refine wp_cv (as := [(2, 10), (0, r)]) (rest := []) rfl rfl rfl (Nat.le_of_ble_eq_true rfl) rfl (e_betsWon (P := P) (by omega) hI.rg h5) (by decide) (fun r10 h11 => ?_)
        obtain rfl := h11
        refine wp_eq (L' := [(2, 0), (0, r), (0, w), (0, (((nbt g r (g 10 11).toNat) : Nat) : Int)), (9, 0)]) (st' := [(0, (((nbw g r (g 10 11).toNat) : Nat) : Int))]) (g' := g) ?_
        refine wp_n 3 (pc' := 47) (L' := [(2, 0), (0, r), (0, w), (0, (((nbt g r (g 10 11).toNat) : Nat) : Int)), (0, (((nbw g r (g 10 11).toNat) : Nat) : Int))]) (st' := [(0, 1), (0, w)]) (g' := g) rfl ?_
        refine wp_ic_ne rfl (fun c12 => ?_) (fun c12 => ?_)
        · refine wp_n 3 (pc' := 57) (L' := [(2, 0), (0, r), (0, w), (0, (((nbt g r (g 10 11).toNat) : Nat) : Int)), (0, (((nbw g r (g 10 11).toNat) : Nat) : Int))]) (st' := [(0, 60), (0, 1), (0, (((nbt g r (g 10 11).toNat) : Nat) : Int))]) (g' := g) rfl ?_
          refine wp_cs (as := [(0, (((nbt g r (g 10 11).toNat) : Nat) : Int)), (0, 1), (0, 60)]) (rest := []) rfl (by decide) rfl (Nat.le_of_ble_eq_true rfl) (e_within (by omega) (by omega) (by omega)) (by decide) (fun r14 h15 => ?_)
          rcases h15 with ⟨rfl, p13⟩ | ⟨rfl, p13⟩
          · refine wp_eq (L' := [(2, 0), (0, r), (0, w), (0, (((nbt g r (g 10 11).toNat) : Nat) : Int)), (0, (((nbw g r (g 10 11).toNat) : Nat) : Int))]) (st' := [(0, 1)]) (g' := g) ?_
            refine wp_n 7 (pc' := 72) (L' := [(2, 0), (0, r), (0, w), (0, (((nbt g r (g 10 11).toNat) : Nat) : Int)), (0, (((nbw g r (g 10 11).toNat) : Nat) : Int))]) (st' := [(0, 1), (0, 1), (0, (((nbw g r (g 10 11).toNat) : Nat) : Int)), (0, (((nbt g r (g 10 11).toNat) : Nat) : Int)), (2, 103)]) (g' := g) rfl ?_
            refine wp_cv (as := [(2, 103), (0, (((nbt g r (g 10 11).toNat) : Nat) : Int)), (0, (((nbw g r (g 10 11).toNat) : Nat) : Int)), (0, 1), (0, 1)]) (rest := []) rfl rfl rfl (Nat.le_of_ble_eq_true rfl) rfl (e_even (n := (nbt g r (g 10 11).toNat)) (k := (nbw g r (g 10 11).toNat)) hP2 (by omega) (by omega) (by omega) (by omega) (by omega) hI.cls) (by decide) (fun r16 h17 => ?_)
            obtain ⟨g72, q72, rfl, hS72, hL72, hF72⟩ := h17
            refine wp_eq (L' := [(2, 0), (0, r), (0, w), (0, (((nbt g r (g 10 11).toNat) : Nat) : Int)), (0, (((nbw g r (g 10 11).toNat) : Nat) : Int))]) (st' := [(0, q72)]) (g' := g72) ?_
            refine wp_n 1 (pc' := 79) (L' := [(2, 0), (0, r), (0, w), (0, (((nbt g r (g 10 11).toNat) : Nat) : Int)), (0, (((nbw g r (g 10 11).toNat) : Nat) : Int))]) (st' := [(0, q72)]) (g' := g72) rfl ?_
            rw [Int.mul_one] at hS72
            exact wp_ret rfl rfl rfl ⟨_, _, rfl, Or.inr (Or.inr (Or.inl ⟨by omega, by omega, by omega, by omega, hS72⟩)), hL72, hF72⟩
          · refine wp_eq (L' := [(2, 0), (0, r), (0, w), (0, (((nbt g r (g 10 11).toNat) : Nat) : Int)), (0, (((nbw g r (g 10 11).toNat) : Nat) : Int))]) (st' := [(0, 0)]) (g' := g) ?_
            refine wp_n 2 (pc' := 79) (L' := [(2, 0), (0, r), (0, w), (0, (((nbt g r (g 10 11).toNat) : Nat) : Int)), (0, (((nbw g r (g 10 11).toNat) : Nat) : Int))]) (st' := [(0, (-1))]) (g' := g) rfl ?_
            exact wp_ret rfl rfl rfl ⟨_, _, rfl, Or.inr (Or.inr (Or.inr (Or.inr ⟨by omega, by omega, by omega, by omega, rfl⟩))), hI.cls, fun _ _ _ => rfl⟩
        · refine wp_n 1 (pc' := 52) (L' := [(2, 0), (0, r), (0, w), (0, (((nbt g r (g 10 11).toNat) : Nat) : Int)), (0, (((nbw g r (g 10 11).toNat) : Nat) : Int))]) (st' := [(0, (((nbw g r (g 10 11).toNat) : Nat) : Int))]) (g' := g) rfl ?_
          exact wp_ret rfl rfl rfl ⟨_, _, rfl, Or.inr (Or.inl ⟨by omega, by omega, by omega, rfl⟩), hI.cls, fun _ _ _ => rfl⟩
      · refine wp_n 1 (pc' := 34) (L' := [(2, 0), (0, r), (0, w), (0, (((nbt g r (g 10 11).toNat) : Nat) : Int)), (9, 0)]) (st' := [(0, (((nbt g r (g 10 11).toNat) : Nat) : Int))]) (g' := g) rfl ?_
        exact wp_ret rfl rfl rfl ⟨_, _, rfl, Or.inl ⟨by omega, by omega, by omega, rfl⟩, hI.cls, fun _ _ _ => rfl⟩
    · refine wp_eq (L' := [(2, 0), (0, r), (0, w), (9, 0), (9, 0)]) (st' := [(0, 0)]) (g' := g) ?_
      refine wp_n 2 (pc' := 19) (L' := [(2, 0), (0, r), (0, w), (9, 0), (9, 0)]) (st' := [(0, (-1))]) (g' := g) rfl ?_
      exact wp_ret rfl rfl rfl ⟨_, _, rfl, Or.inr (Or.inr (Or.inr (Or.inl ⟨by omega, rfl⟩))), hI.cls, fun _ _ _ => rfl⟩
  · refine wp_eq (L' := [(2, 0), (0, r), (0, w), (9, 0), (9, 0)]) (st' := [(0, 0)]) (g' := g) ?_
    refine wp_n 2 (pc' := 19) (L' := [(2, 0), (0, r), (0, w), (9, 0), (9, 0)]) (st' := [(0, (-1))]) (g' := g) rfl ?_
    exact wp_ret rfl rfl rfl ⟨_, _, rfl, Or.inr (Or.inr (Or.inr (Or.inl ⟨by omega, rfl⟩))), hI.cls, fun _ _ _ => rfl⟩
set_option maxHeartbeats 400000 in
set_option maxRecDepth 20000 in
theorem m_watched {sn : Nat} {sx : Nat → Int} {b : Nat} {g : am_G} {P : Nat} {c : am_G} {r w : Int} (h_r : R32 r) (h_w : R32 w) (hI : CInv P c) (hM : MRel c g) : Ev sn sx 6 245 [(2, 127), (0, r), (0, w)] (SH b) g (fun y => ∃ g' v, y = (some (0, v), SH b, g') ∧ WtA P (nbt c r (c 10 11).toNat) (nbw c r (c 10 11).toNat) r w v ∧ FrN g g') := by
  have hP : g 127 0 = (P : Int) := hM.n.trans hI.ck.2.1
  have h5 := hI.ck.1
  have hn := hI.rg.r10_7 11 rfl
  have hle := nbw_le c r (c 10 11).toNat
  refine ev_of (K := 5) T245 (by decide) rfl rfl (Nat.le_of_ble_eq_true rfl) ?_
  refine wp_eq (L' := [(2, 127), (0, r), (0, w), (9, 0), (9, 0), (9, 0), (9, 0)]) (st' := []) (g' := g) ?_
  refine wp_n 3 (pc' := 3) (L' := [(2, 127), (0, r), (0, w), (9, 0), (9, 0), (9, 0), (9, 0)]) (st' := [(0, 3), (0, 0), (0, r)]) (g' := g) rfl ?_
  refine wp_cs (as := [(0, r), (0, 0), (0, 3)]) (rest := []) rfl (by decide) rfl (Nat.le_of_ble_eq_true rfl) (e_isIn (by omega) (by omega) (by omega)) (by decide) (fun r2 h3 => ?_)
  rcases h3 with ⟨rfl, p1⟩ | ⟨rfl, p1⟩
  · refine wp_eq (L' := [(2, 127), (0, r), (0, w), (9, 0), (9, 0), (9, 0), (9, 0)]) (st' := [(0, 1)]) (g' := g) ?_
    refine wp_n 4 (pc' := 12) (L' := [(2, 127), (0, r), (0, w), (9, 0), (9, 0), (9, 0), (9, 0)]) (st' := [(0, 2), (0, 0), (0, w)]) (g' := g) rfl ?_
    refine wp_cs (as := [(0, w), (0, 0), (0, 2)]) (rest := []) rfl (by decide) rfl (Nat.le_of_ble_eq_true rfl) (e_isIn (by omega) (by omega) (by omega)) (by decide) (fun r5 h6 => ?_)
    rcases h6 with ⟨rfl, p4⟩ | ⟨rfl, p4⟩
    · refine wp_eq (L' := [(2, 127), (0, r), (0, w), (9, 0), (9, 0), (9, 0), (9, 0)]) (st' := [(0, 1)]) (g' := g) ?_
      refine wp_n 7 (pc' := 28) (L' := [(2, 127), (0, r), (0, w), (0, 0), (0, 0), (0, 0), (9, 0)]) (st' := []) (g' := g) rfl ?_
      have L28 : ∀ (lf : Nat) (i : Nat) (w6 : am_V), (c 10 11).toNat - i < lf → (i ≤ (c 10 11).toNat) → Wp sn sx 5 T245 28 [(2, 127), (0, r), (0, w), (0, (((nbt c r i) : Nat) : Int)), (0, (((nbw c r i) : Nat) : Int)), (0, ((i : Nat) : Int)), w6] [] (SH b) g (fun y => ∃ g' v, y = (some (0, v), SH b, g') ∧ WtA P (nbt c r (c 10 11).toNat) (nbw c r (c 10 11).toNat) r w v ∧ FrN g g') := by
        intro lf
        induction lf with
        | zero => intro i w6 hlf; exact absurd hlf (Nat.not_lt_zero _)
        | succ lf ih28 =>
          intro i w6 hlf hi
          refine wp_n 4 (pc' := 35) (L' := [(2, 127), (0, r), (0, w), (0, (((nbt c r i) : Nat) : Int)), (0, (((nbw c r i) : Nat) : Int)), (0, ((i : Nat) : Int)), w6]) (st' := [(0, 3), (2, 128), (0, ((i : Nat) : Int))]) (g' := g) rfl ?_
          refine wp_iald (k := 128) (3) rfl rfl (by omega) (by omega) (by decide) ?_
          refine wp_eq (L' := [(2, 127), (0, r), (0, w), (0, (((nbt c r i) : Nat) : Int)), (0, (((nbw c r i) : Nat) : Int)), (0, ((i : Nat) : Int)), w6]) (st' := [(0, (c 10 11)), (0, ((i : Nat) : Int))]) (g' := g) ?_ (by rfl) (by rw [hM.bets]) (by rfl)
          refine wp_ic_ge rfl (fun c7 => ?_) (fun c7 => ?_)
          · have hk2 : i = (c 10 11).toNat := by omega
            have hnt : nbt c r i = nbt c r (c 10 11).toNat := by rw [hk2]
            have hnw : nbw c r i = nbw c r (c 10 11).toNat := by rw [hk2]
            refine wp_n 1 (pc' := 117) (L' := [(2, 127), (0, r), (0, w), (0, (((nbt c r i) : Nat) : Int)), (0, (((nbw c r i) : Nat) : Int)), (0, ((i : Nat) : Int)), w6]) (st' := [(0, w)]) (g' := g) rfl ?_
            refine wp_if_ne rfl (fun c8 => ?_) (fun c8 => ?_)
            · refine wp_n 2 (pc' := 126) (L' := [(2, 127), (0, r), (0, w), (0, (((nbt c r i) : Nat) : Int)), (0, (((nbw c r i) : Nat) : Int)), (0, ((i : Nat) : Int)), w6]) (st' := [(0, 1), (0, w)]) (g' := g) rfl ?_
              refine wp_ic_ne rfl (fun c9 => ?_) (fun c9 => ?_)
              · refine wp_n 4 (pc' := 139) (L' := [(2, 127), (0, r), (0, w), (0, (((nbt c r i) : Nat) : Int)), (0, (((nbw c r i) : Nat) : Int)), (0, ((i : Nat) : Int)), w6]) (st' := [(0, 1), (0, (((nbw c r i) : Nat) : Int)), (0, (((nbt c r i) : Nat) : Int)), (2, 127)]) (g' := g) rfl ?_
                refine wp_cv (as := [(2, 127), (0, (((nbt c r i) : Nat) : Int)), (0, (((nbw c r i) : Nat) : Int)), (0, 1)]) (rest := []) rfl rfl rfl (Nat.le_of_ble_eq_true rfl) rfl (m_above (by omega) (by omega) (by omega) (by assumption) (by omega)) (by decide) (fun r10 h11 => ?_)
                obtain ⟨g139, q139, rfl, hA139, hF139⟩ := h11
                refine wp_eq (L' := [(2, 127), (0, r), (0, w), (0, (((nbt c r i) : Nat) : Int)), (0, (((nbw c r i) : Nat) : Int)), (0, ((i : Nat) : Int)), w6]) (st' := [(0, q139)]) (g' := g139) ?_
                rcases hA139 with ⟨hD, hS⟩ | ⟨hD, rfl⟩
                · unfold AbD at hD
                  rw [Int.toNat_natCast, Int.toNat_natCast, hnt, hnw] at hS
                  exact wp_ret rfl rfl rfl ⟨_, _, rfl, Or.inr (Or.inr (Or.inl ⟨by omega, by omega, by omega, by omega, ⟨hS.1, hS.2.1, hS.2.2.1, hS.2.2.2⟩⟩)), FrN.rfl.r hF139⟩
                · unfold AbD at hD
                  exact wp_ret rfl rfl rfl ⟨_, _, rfl, Or.inr (Or.inr (Or.inr (Or.inr ⟨by omega, by omega, by omega, by omega, rfl⟩))), FrN.rfl.r hF139⟩
              · refine wp_n 2 (pc' := 142) (L' := [(2, 127), (0, r), (0, w), (0, (((nbt c r i) : Nat) : Int)), (0, (((nbw c r i) : Nat) : Int)), (0, ((i : Nat) : Int)), w6]) (st' := [(0, (((nbw c r i) : Nat) : Int))]) (g' := g) rfl ?_
                exact wp_ret rfl rfl rfl ⟨_, _, rfl, Or.inr (Or.inl ⟨by omega, by omega, by omega, by rw [hnw]⟩), FrN.rfl⟩
            · refine wp_n 2 (pc' := 142) (L' := [(2, 127), (0, r), (0, w), (0, (((nbt c r i) : Nat) : Int)), (0, (((nbw c r i) : Nat) : Int)), (0, ((i : Nat) : Int)), w6]) (st' := [(0, (((nbt c r i) : Nat) : Int))]) (g' := g) rfl ?_
              exact wp_ret rfl rfl rfl ⟨_, _, rfl, Or.inl ⟨by omega, by omega, by omega, by rw [hnt]⟩, FrN.rfl⟩
          · have hr := hI.rg.r18_21 i (by omega)
            have hr2 := hI.rg.r19_22 i (by omega)
            have hr3 := hI.rg.r14_13 (c 19 i).toNat (by omega)
            have hr4 := hI.rg.r20_23 i (by omega)
            refine wp_n 9 (pc' := 55) (L' := [(2, 127), (0, r), (0, w), (0, (((nbt c r i) : Nat) : Int)), (0, (((nbw c r i) : Nat) : Int)), (0, ((i : Nat) : Int)), (0, (1400 + (3 * ((i : Nat) : Int))))]) (st' := [(0, (1400 + (3 * ((i : Nat) : Int)))), (2, 128)]) (g' := g) rfl ?_
            refine wp_iald (k := 128) ((1400 + 3 * i)) rfl rfl (by omega) (by omega) (by decide) ?_
            refine wp_eq (L' := [(2, 127), (0, r), (0, w), (0, (((nbt c r i) : Nat) : Int)), (0, (((nbw c r i) : Nat) : Int)), (0, ((i : Nat) : Int)), (0, (1400 + (3 * ((i : Nat) : Int))))]) (st' := [(0, (c 18 i))]) (g' := g) ?_ (by rfl) (by rw [hM.bt _ (by omega)]) (by rfl)
            refine wp_n 1 (pc' := 57) (L' := [(2, 127), (0, r), (0, w), (0, (((nbt c r i) : Nat) : Int)), (0, (((nbw c r i) : Nat) : Int)), (0, ((i : Nat) : Int)), (0, (1400 + (3 * ((i : Nat) : Int))))]) (st' := [(0, r), (0, (c 18 i))]) (g' := g) rfl ?_
            refine wp_ic_eq rfl (fun c12 => ?_) (fun c12 => ?_)
            · have hq : c 18 i = r := by omega
              refine wp_n 11 (pc' := 84) (L' := [(2, 127), (0, r), (0, w), (0, ((((nbt c r i) : Nat) : Int) + 1)), (0, (((nbw c r i) : Nat) : Int)), (0, ((i : Nat) : Int)), (0, (1400 + (3 * ((i : Nat) : Int))))]) (st' := [(0, ((1400 + (3 * ((i : Nat) : Int))) + 1)), (2, 128), (0, 4), (0, 580), (2, 128), (0, (((nbw c r i) : Nat) : Int))]) (g' := g) rfl ?_
              refine wp_iald (k := 128) ((1400 + 3 * i + 1)) rfl rfl (by omega) (by omega) (by decide) ?_
              refine wp_eq (L' := [(2, 127), (0, r), (0, w), (0, ((((nbt c r i) : Nat) : Int) + 1)), (0, (((nbw c r i) : Nat) : Int)), (0, ((i : Nat) : Int)), (0, (1400 + (3 * ((i : Nat) : Int))))]) (st' := [(0, (c 19 i)), (0, 4), (0, 580), (2, 128), (0, (((nbw c r i) : Nat) : Int))]) (g' := g) ?_ (by rfl) (by rw [hM.bs _ (by omega)]) (by rfl)
              refine wp_n 4 (pc' := 89) (L' := [(2, 127), (0, r), (0, w), (0, ((((nbt c r i) : Nat) : Int) + 1)), (0, (((nbw c r i) : Nat) : Int)), (0, ((i : Nat) : Int)), (0, (1400 + (3 * ((i : Nat) : Int))))]) (st' := [(0, ((580 + (4 * (c 19 i))) + 3)), (2, 128), (0, (((nbw c r i) : Nat) : Int))]) (g' := g) rfl ?_
              refine wp_iald (k := 128) ((580 + 4 * (c 19 i).toNat + 3)) rfl rfl (by omega) (by omega) (by decide) ?_
              refine wp_eq (L' := [(2, 127), (0, r), (0, w), (0, ((((nbt c r i) : Nat) : Int) + 1)), (0, (((nbw c r i) : Nat) : Int)), (0, ((i : Nat) : Int)), (0, (1400 + (3 * ((i : Nat) : Int))))]) (st' := [(0, (c 14 (c 19 i).toNat)), (0, (((nbw c r i) : Nat) : Int))]) (g' := g) ?_ (by rfl) (by rw [hM.fl _ (by omega)]) (by rfl)
              refine wp_n 5 (pc' := 98) (L' := [(2, 127), (0, r), (0, w), (0, ((((nbt c r i) : Nat) : Int) + 1)), (0, (((nbw c r i) : Nat) : Int)), (0, ((i : Nat) : Int)), (0, (1400 + (3 * ((i : Nat) : Int))))]) (st' := [(0, ((1400 + (3 * ((i : Nat) : Int))) + 2)), (2, 128), (0, (c 14 (c 19 i).toNat)), (0, (((nbw c r i) : Nat) : Int))]) (g' := g) rfl ?_
              refine wp_iald (k := 128) ((1400 + 3 * i + 2)) rfl rfl (by omega) (by omega) (by decide) ?_
              refine wp_eq (L' := [(2, 127), (0, r), (0, w), (0, ((((nbt c r i) : Nat) : Int) + 1)), (0, (((nbw c r i) : Nat) : Int)), (0, ((i : Nat) : Int)), (0, (1400 + (3 * ((i : Nat) : Int))))]) (st' := [(0, (c 20 i)), (0, (c 14 (c 19 i).toNat)), (0, (((nbw c r i) : Nat) : Int))]) (g' := g) ?_ (by rfl) (by rw [hM.bp _ (by omega)]) (by rfl)
              refine wp_ic_ne rfl (fun c13 => ?_) (fun c13 => ?_)
              · have hq2 : ¬ c 14 (c 19 i).toNat = c 20 i := by omega
                refine wp_n 5 (pc' := 28) (L' := [(2, 127), (0, r), (0, w), (0, ((((nbt c r i) : Nat) : Int) + 1)), (0, ((((nbw c r i) : Nat) : Int) + 0)), (0, (((i : Nat) : Int) + 1)), (0, (1400 + (3 * ((i : Nat) : Int))))]) (st' := []) (g' := g) rfl ?_
                refine wp_eq (ih28 (i + 1) ((0, (1400 + (3 * ((i : Nat) : Int))))) ?_ ?_) (by first | (rw [nbt_s, nbw_s, if_neg hq, if_neg (fun e => hq e.1)]; rfl) | (rw [nbt_s, nbw_s, if_pos hq, if_pos ⟨hq, hq2⟩]; rfl) | (rw [nbt_s, nbw_s, if_pos hq, if_neg (fun e => hq2 e.2)]; rfl)) (by rfl) (by rfl)
                · omega
                · omega
              · have hq2 : c 14 (c 19 i).toNat = c 20 i := by omega
                refine wp_n 6 (pc' := 28) (L' := [(2, 127), (0, r), (0, w), (0, ((((nbt c r i) : Nat) : Int) + 1)), (0, ((((nbw c r i) : Nat) : Int) + 1)), (0, (((i : Nat) : Int) + 1)), (0, (1400 + (3 * ((i : Nat) : Int))))]) (st' := []) (g' := g) rfl ?_
                refine wp_eq (ih28 (i + 1) ((0, (1400 + (3 * ((i : Nat) : Int))))) ?_ ?_) (by first | (rw [nbt_s, nbw_s, if_neg hq, if_neg (fun e => hq e.1)]; rfl) | (rw [nbt_s, nbw_s, if_pos hq, if_pos ⟨hq, hq2⟩]; rfl) | (rw [nbt_s, nbw_s, if_pos hq, if_neg (fun e => hq2 e.2)]; rfl)) (by rfl) (by rfl)
                · omega
                · omega
            · have hq : ¬ c 18 i = r := by omega
              refine wp_n 3 (pc' := 28) (L' := [(2, 127), (0, r), (0, w), (0, (((nbt c r i) : Nat) : Int)), (0, (((nbw c r i) : Nat) : Int)), (0, (((i : Nat) : Int) + 1)), (0, (1400 + (3 * ((i : Nat) : Int))))]) (st' := []) (g' := g) rfl ?_
              refine wp_eq (ih28 (i + 1) ((0, (1400 + (3 * ((i : Nat) : Int))))) ?_ ?_) (by first | (rw [nbt_s, nbw_s, if_neg hq, if_neg (fun e => hq e.1)]; rfl) | (rw [nbt_s, nbw_s, if_pos hq, if_pos ⟨hq, hq2⟩]; rfl) | (rw [nbt_s, nbw_s, if_pos hq, if_neg (fun e => hq2 e.2)]; rfl)) (by rfl) (by rfl)
              · omega
              · omega
      refine wp_eq (L28 (_ + 1) (0) ((9, 0)) (Nat.lt_succ_self _) ?_) (by first | rfl | (simp; done) | (simp; omega)) (by rfl) (by rfl)
      · exact Nat.zero_le _
    · refine wp_eq (L' := [(2, 127), (0, r), (0, w), (9, 0), (9, 0), (9, 0), (9, 0)]) (st' := [(0, 0)]) (g' := g) ?_
      refine wp_n 2 (pc' := 19) (L' := [(2, 127), (0, r), (0, w), (9, 0), (9, 0), (9, 0), (9, 0)]) (st' := [(0, (-1))]) (g' := g) rfl ?_
      exact wp_ret rfl rfl rfl ⟨_, _, rfl, Or.inr (Or.inr (Or.inr (Or.inl ⟨by omega, rfl⟩))), FrN.rfl⟩
  · refine wp_eq (L' := [(2, 127), (0, r), (0, w), (9, 0), (9, 0), (9, 0), (9, 0)]) (st' := [(0, 0)]) (g' := g) ?_
    refine wp_n 2 (pc' := 19) (L' := [(2, 127), (0, r), (0, w), (9, 0), (9, 0), (9, 0), (9, 0)]) (st' := [(0, (-1))]) (g' := g) rfl ?_
    exact wp_ret rfl rfl rfl ⟨_, _, rfl, Or.inr (Or.inr (Or.inr (Or.inl ⟨by omega, rfl⟩))), FrN.rfl⟩
theorem cpost_k {P b : Nat} {g : am_G} {A : Int → Prop} {r : am_R} (hI : CInv P g) (h : ∃ g' v, r = (some (0, v), SH b, g') ∧ A v ∧ CLs g' ∧ FrK g g') : CPost P g (fun c1 v1 => A v1 ∧ CoE g c1) r := by
  obtain ⟨g', v, h1, h2, h3, h4⟩ := h
  exact ⟨g', v, b, h1, hI.keepK h4 h3, fun c j hc => h4 c j (by omega), h2, h4.s.co⟩
theorem FrH.k {g h : am_G} (hF : FrH g h) : FrK g h := fun c j hc => hF c j (by omega)
theorem cpost_q {P b : Nat} {g : am_G} {A : Int → Prop} {r : am_R} (hI : CInv P g) (h : ∃ g' v, r = (some (0, v), SH b, g') ∧ A v ∧ FrQ g g') : CPost P g (fun c1 v1 => A v1 ∧ CoE g c1) r := by
  obtain ⟨g', v, h1, h2, h4⟩ := h
  exact ⟨g', v, b, h1, hI.keepQ h4, fun c j hc => h4 c j (by unfold Sq; omega), h2, h4.co⟩
theorem mpost_n {b : Nat} {c g : am_G} {A : Int → Prop} {r : am_R} (hM : MRel c g) (hu : ∀ x y, A x → A y → x = y) (h : ∃ g' v, r = (some (0, v), SH b, g') ∧ A v ∧ FrN g g') : MPost b g (fun c1 v1 => A v1 ∧ CoE c c1) r := by
  obtain ⟨g', v, h1, h2, h4⟩ := h
  exact ⟨g', v, h1, fun k j hk => h4 k j (by unfold Sm; omega), fun c1 v1 hE => ⟨hu _ _ hE.1 h2, (hM.c_same hE.2).g_same h4⟩⟩
def F_watched (P : Nat) (r w : Int) (c c1 : am_G) (v1 : Int) : Prop := WtA P (nbt c r (c 10 11).toNat) (nbw c r (c 10 11).toNat) r w v1 ∧ CoE c c1
theorem C_watched {sn : Nat} {sx : Nat → Int} {b : Nat} {g : am_G} {P : Nat} {r w : Int} (h_r : R32 r) (h_w : R32 w) (hI : CInv P g) : Ev sn sx 6 124 [(2, 0), (0, r), (0, w)] (SH b) g (CPost P g (F_watched P r w g)) := (e_watched h_r h_w hI).mono fun y h => by
  obtain ⟨g', v, h1, h2, h3, h4⟩ := h
  exact cpost_k (A := WtA P (nbt g r (g 10 11).toNat) (nbw g r (g 10 11).toNat) r w) hI ⟨g', v, h1, h2, h3, h4.k⟩
theorem M_watched {sn : Nat} {sx : Nat → Int} {b : Nat} {g c : am_G} {P : Nat} {r w : Int} (h_r : R32 r) (h_w : R32 w) (hI : CInv P c) (hM : MRel c g) : Ev sn sx 6 245 [(2, 127), (0, r), (0, w)] (SH b) g (MPost b g (F_watched P r w c)) := (m_watched h_r h_w hI hM).mono fun y h => mpost_n (A := WtA P (nbt c r (c 10 11).toNat) (nbw c r (c 10 11).toNat) r w) hM (fun _ _ => WtA.uniq hI.ck.1.1) h
