/-! GOAL -/
def bs (d : Nat) : Nat := if d % 2 = 0 then 0 else 62
theorem mil_eq {R m : Int} {n : Nat} (hn : n ≤ 10) (hR : 0 ≤ R ∧ R ≤ 1000 ^ n) (h : IsInto (R * 1000000) (1000 ^ n) m) : m = R * 1000 ^ (10 - n) / 1000000000000000000000000 := by
  have e : (1000 : Int) ^ n * 1000 ^ (10 - n) = 1000 ^ 10 := by rw [← Int.pow_add, show n + (10 - n) = 10 by omega]
  have hK : (0 : Int) < 1000 ^ (10 - n) := Int.pow_pos (by decide)
  obtain ⟨h1, h2, h3, h4⟩ := h
  have k1 := Int.mul_le_mul_of_nonneg_right hR.2 (Int.le_of_lt hK)
  have k2 := Int.mul_le_mul_of_nonneg_right h3 (Int.le_of_lt hK)
  rw [e] at k1
  have e2 : m * 1000 ^ n * 1000 ^ (10 - n) = m * 1000 ^ 10 := by rw [Int.mul_assoc, e]
  have e3 : R * 1000000 * 1000 ^ (10 - n) = R * 1000 ^ (10 - n) * 1000000 := by
    generalize (1000 : Int) ^ (10 - n) = K
    grind
  rw [e2, e3] at k2
  rcases h4 with h4 | h4
  · subst h4
    generalize R * 1000 ^ (10 - n) = X at *
    omega
  · have k3 := Int.mul_lt_mul_of_pos_right h4 hK
    have e4 : (m + 1) * 1000 ^ n * 1000 ^ (10 - n) = (m + 1) * 1000 ^ 10 := by rw [Int.mul_assoc, e]
    rw [e3, e4] at k3
    generalize R * 1000 ^ (10 - n) = X at *
    omega
def GoD (a q n p w : Int) : Prop := 0 ≤ a ∧ a ≤ 40 ∧ 1 ≤ q ∧ q ≤ 40 ∧ 0 ≤ n ∧ n ≤ 10 ∧ 0 ≤ p ∧ p ≤ 1000 ∧ 0 ≤ w ∧ w ≤ 1
def GoA (y : Int) (a q n p w v : Int) : Prop := (¬ GoD a q n p w ∧ v = -1) ∨ (GoD a q n p w ∧ v = if w = 1 then gF y q p a.toNat n.toNat else gR y q p n.toNat a.toNat * 1000 ^ (10 - n.toNat) / 1000000000000000000000000)
theorem GoA.uniq {y a q n p w v v' : Int} (H : GoA y a q n p w v) (H' : GoA y a q n p w v') : v = v' := by
  rcases H with H | H <;> rcases H' with H' | H'
  · exact H.2.trans H'.2.symm
  · exact absurd H'.1 H.1
  · exact absurd H.1 H'.1
  · exact H.2.trans H'.2.symm
set_option maxHeartbeats 400000 in
set_option maxRecDepth 20000 in
theorem e_goal {sn : Nat} {sx : Nat → Int} {b : Nat} {g : am_G} {P : Nat} {a q n p w : Int} (h_a : R32 a) (h_q : R32 q) (h_n : R32 n) (h_p : R32 p) (h_w : R32 w) (hI : CInv P g) : Ev sn sx 4 120 [(2, 0), (0, a), (0, q), (0, n), (0, p), (0, w)] (SH b) g (fun r => ∃ g' v, r = (some (0, v), SH b, g') ∧ GoA (g 10 16) a q n p w v ∧ FrQ g g') := by
  have hP := hI.ck.2.1
  have h5 := hI.ck.1
  have hpay := hI.rg.r10_9 16 rfl
  refine ev_of (K := 3) T120 (by decide) rfl rfl (Nat.le_of_ble_eq_true rfl) ?_
  refine wp_eq (L' := [(2, 0), (0, a), (0, q), (0, n), (0, p), (0, w), (9, 0)]) (st' := []) (g' := g) ?_
  refine wp_n 3 (pc' := 4) (L' := [(2, 0), (0, a), (0, q), (0, n), (0, p), (0, w), (9, 0)]) (st' := [(0, 40), (0, 0), (0, a)]) (g' := g) rfl ?_
  refine wp_cs (as := [(0, a), (0, 0), (0, 40)]) (rest := []) rfl (by decide) rfl (Nat.le_of_ble_eq_true rfl) (e_within (by omega) (by omega) (by omega)) (by decide) (fun r2 h3 => ?_)
  rcases h3 with ⟨rfl, p1⟩ | ⟨rfl, p1⟩
  · refine wp_eq (L' := [(2, 0), (0, a), (0, q), (0, n), (0, p), (0, w), (9, 0)]) (st' := [(0, 1)]) (g' := g) ?_
    refine wp_n 4 (pc' := 14) (L' := [(2, 0), (0, a), (0, q), (0, n), (0, p), (0, w), (9, 0)]) (st' := [(0, 40), (0, 1), (0, q)]) (g' := g) rfl ?_
    refine wp_cs (as := [(0, q), (0, 1), (0, 40)]) (rest := []) rfl (by decide) rfl (Nat.le_of_ble_eq_true rfl) (e_within (by omega) (by omega) (by omega)) (by decide) (fun r5 h6 => ?_)
    rcases h6 with ⟨rfl, p4⟩ | ⟨rfl, p4⟩
    · refine wp_eq (L' := [(2, 0), (0, a), (0, q), (0, n), (0, p), (0, w), (9, 0)]) (st' := [(0, 1)]) (g' := g) ?_
      refine wp_n 4 (pc' := 24) (L' := [(2, 0), (0, a), (0, q), (0, n), (0, p), (0, w), (9, 0)]) (st' := [(0, 10), (0, 0), (0, n)]) (g' := g) rfl ?_
      refine wp_cs (as := [(0, n), (0, 0), (0, 10)]) (rest := []) rfl (by decide) rfl (Nat.le_of_ble_eq_true rfl) (e_within (by omega) (by omega) (by omega)) (by decide) (fun r8 h9 => ?_)
      rcases h9 with ⟨rfl, p7⟩ | ⟨rfl, p7⟩
      · refine wp_eq (L' := [(2, 0), (0, a), (0, q), (0, n), (0, p), (0, w), (9, 0)]) (st' := [(0, 1)]) (g' := g) ?_
        refine wp_n 4 (pc' := 36) (L' := [(2, 0), (0, a), (0, q), (0, n), (0, p), (0, w), (9, 0)]) (st' := [(0, 1000), (0, 0), (0, p)]) (g' := g) rfl ?_
        refine wp_cs (as := [(0, p), (0, 0), (0, 1000)]) (rest := []) rfl (by decide) rfl (Nat.le_of_ble_eq_true rfl) (e_within (by omega) (by omega) (by omega)) (by decide) (fun r11 h12 => ?_)
        rcases h12 with ⟨rfl, p10⟩ | ⟨rfl, p10⟩
        · refine wp_eq (L' := [(2, 0), (0, a), (0, q), (0, n), (0, p), (0, w), (9, 0)]) (st' := [(0, 1)]) (g' := g) ?_
          refine wp_n 4 (pc' := 46) (L' := [(2, 0), (0, a), (0, q), (0, n), (0, p), (0, w), (9, 0)]) (st' := [(0, 1), (0, 0), (0, w)]) (g' := g) rfl ?_
          refine wp_cs (as := [(0, w), (0, 0), (0, 1)]) (rest := []) rfl (by decide) rfl (Nat.le_of_ble_eq_true rfl) (e_within (by omega) (by omega) (by omega)) (by decide) (fun r14 h15 => ?_)
          rcases h15 with ⟨rfl, p13⟩ | ⟨rfl, p13⟩
          · refine wp_eq (L' := [(2, 0), (0, a), (0, q), (0, n), (0, p), (0, w), (9, 0)]) (st' := [(0, 1)]) (g' := g) ?_
            refine wp_n 9 (pc' := 71) (L' := [(2, 0), (0, a), (0, q), (0, n), (0, p), (0, w), (0, 1)]) (st' := [(0, a), (2, 120)]) (g' := g) rfl ?_
            refine wp_eq (L' := [(2, 0), (0, a), (0, q), (0, n), (0, p), (0, w), (0, 1)]) (st' := [(0, ((a.toNat : Nat) : Int)), (2, 120)]) (g' := g) ?_ (by rfl) (by rw [Int.toNat_of_nonneg (by omega)]) (by rfl)
            refine wp_n 2 (pc' := 73) (L' := [(2, 0), (0, a), (0, q), (0, n), (0, p), (0, w), (0, 1)]) (st' := [(0, n), (0, q), (0, ((a.toNat : Nat) : Int)), (2, 120)]) (g' := g) rfl ?_
            refine wp_eq (L' := [(2, 0), (0, a), (0, q), (0, n), (0, p), (0, w), (0, 1)]) (st' := [(0, ((n.toNat : Nat) : Int)), (0, q), (0, ((a.toNat : Nat) : Int)), (2, 120)]) (g' := g) ?_ (by rfl) (by rw [Int.toNat_of_nonneg (by omega)]) (by rfl)
            refine wp_n 4 (pc' := 82) (L' := [(2, 0), (0, a), (0, q), (0, n), (0, p), (0, w), (0, 1)]) (st' := [(0, (g 10 16)), (0, p), (0, ((n.toNat : Nat) : Int)), (0, q), (0, ((a.toNat : Nat) : Int)), (2, 120)]) (g' := g) rfl ?_
            refine wp_cv (as := [(2, 120), (0, ((a.toNat : Nat) : Int)), (0, q), (0, ((n.toNat : Nat) : Int)), (0, p), (0, (g 10 16))]) (rest := []) rfl rfl rfl (Nat.le_of_ble_eq_true rfl) rfl (e_reach (a := (a.toNat)) (n := (n.toNat)) (by omega) (by omega) (by omega) (by omega) (by omega)) (by decide) (fun r16 h17 => ?_)
            obtain ⟨g82, rfl, h882, h982, hF82⟩ := h17
            refine wp_eq (L' := [(2, 0), (0, a), (0, q), (0, n), (0, p), (0, w), (0, 1)]) (st' := []) (g' := g82) ?_
            refine wp_n 1 (pc' := 87) (L' := [(2, 0), (0, a), (0, q), (0, n), (0, p), (0, w), (0, 1)]) (st' := [(0, w)]) (g' := g82) rfl ?_
            refine wp_if_ne rfl (fun c18 => ?_) (fun c18 => ?_)
            · refine wp_n 3 (pc' := 107) (L' := [(2, 0), (0, a), (0, q), (0, n), (0, p), (0, w), (0, 1)]) (st' := [(0, (g82 120 9))]) (g' := g82) rfl ?_
              first
              | exact wp_ret rfl rfl rfl ⟨_, _, rfl, Or.inl ⟨by unfold GoD; omega, rfl⟩, FrQ.rfl⟩
              | exact wp_ret rfl rfl rfl ⟨_, _, rfl, Or.inr ⟨by unfold GoD; omega, by rw [if_neg (by omega)]; exact h882⟩, hF82⟩
              | exact wp_ret rfl rfl rfl ⟨_, _, rfl, Or.inr ⟨by unfold GoD; omega, by first | (rw [if_pos (by omega)]; done) | (rw [if_pos (by omega)]; exact h982)⟩, hF82⟩
            · refine wp_n 4 (pc' := 107) (L' := [(2, 0), (0, a), (0, q), (0, n), (0, p), (0, w), (0, 1)]) (st' := [(0, (g82 120 8))]) (g' := g82) rfl ?_
              first
              | exact wp_ret rfl rfl rfl ⟨_, _, rfl, Or.inl ⟨by unfold GoD; omega, rfl⟩, FrQ.rfl⟩
              | exact wp_ret rfl rfl rfl ⟨_, _, rfl, Or.inr ⟨by unfold GoD; omega, by rw [if_neg (by omega)]; exact h882⟩, hF82⟩
              | exact wp_ret rfl rfl rfl ⟨_, _, rfl, Or.inr ⟨by unfold GoD; omega, by first | (rw [if_pos (by omega)]; done) | (rw [if_pos (by omega)]; exact h982)⟩, hF82⟩
          · refine wp_eq (L' := [(2, 0), (0, a), (0, q), (0, n), (0, p), (0, w), (9, 0)]) (st' := [(0, 0)]) (g' := g) ?_
            refine wp_n 6 (pc' := 65) (L' := [(2, 0), (0, a), (0, q), (0, n), (0, p), (0, w), (0, 0)]) (st' := [(0, (-1))]) (g' := g) rfl ?_
            first
            | exact wp_ret rfl rfl rfl ⟨_, _, rfl, Or.inl ⟨by unfold GoD; omega, rfl⟩, FrQ.rfl⟩
            | exact wp_ret rfl rfl rfl ⟨_, _, rfl, Or.inr ⟨by unfold GoD; omega, by rw [if_neg (by omega)]; exact h882⟩, hF82⟩
            | exact wp_ret rfl rfl rfl ⟨_, _, rfl, Or.inr ⟨by unfold GoD; omega, by first | (rw [if_pos (by omega)]; done) | (rw [if_pos (by omega)]; exact h982)⟩, hF82⟩
        · refine wp_eq (L' := [(2, 0), (0, a), (0, q), (0, n), (0, p), (0, w), (9, 0)]) (st' := [(0, 0)]) (g' := g) ?_
          refine wp_n 6 (pc' := 65) (L' := [(2, 0), (0, a), (0, q), (0, n), (0, p), (0, w), (0, 0)]) (st' := [(0, (-1))]) (g' := g) rfl ?_
          first
          | exact wp_ret rfl rfl rfl ⟨_, _, rfl, Or.inl ⟨by unfold GoD; omega, rfl⟩, FrQ.rfl⟩
          | exact wp_ret rfl rfl rfl ⟨_, _, rfl, Or.inr ⟨by unfold GoD; omega, by rw [if_neg (by omega)]; exact h882⟩, hF82⟩
          | exact wp_ret rfl rfl rfl ⟨_, _, rfl, Or.inr ⟨by unfold GoD; omega, by first | (rw [if_pos (by omega)]; done) | (rw [if_pos (by omega)]; exact h982)⟩, hF82⟩
      · refine wp_eq (L' := [(2, 0), (0, a), (0, q), (0, n), (0, p), (0, w), (9, 0)]) (st' := [(0, 0)]) (g' := g) ?_
        refine wp_n 6 (pc' := 65) (L' := [(2, 0), (0, a), (0, q), (0, n), (0, p), (0, w), (0, 0)]) (st' := [(0, (-1))]) (g' := g) rfl ?_
        first
        | exact wp_ret rfl rfl rfl ⟨_, _, rfl, Or.inl ⟨by unfold GoD; omega, rfl⟩, FrQ.rfl⟩
        | exact wp_ret rfl rfl rfl ⟨_, _, rfl, Or.inr ⟨by unfold GoD; omega, by rw [if_neg (by omega)]; exact h882⟩, hF82⟩
        | exact wp_ret rfl rfl rfl ⟨_, _, rfl, Or.inr ⟨by unfold GoD; omega, by first | (rw [if_pos (by omega)]; done) | (rw [if_pos (by omega)]; exact h982)⟩, hF82⟩
    · refine wp_eq (L' := [(2, 0), (0, a), (0, q), (0, n), (0, p), (0, w), (9, 0)]) (st' := [(0, 0)]) (g' := g) ?_
      refine wp_n 6 (pc' := 65) (L' := [(2, 0), (0, a), (0, q), (0, n), (0, p), (0, w), (0, 0)]) (st' := [(0, (-1))]) (g' := g) rfl ?_
      first
      | exact wp_ret rfl rfl rfl ⟨_, _, rfl, Or.inl ⟨by unfold GoD; omega, rfl⟩, FrQ.rfl⟩
      | exact wp_ret rfl rfl rfl ⟨_, _, rfl, Or.inr ⟨by unfold GoD; omega, by rw [if_neg (by omega)]; exact h882⟩, hF82⟩
      | exact wp_ret rfl rfl rfl ⟨_, _, rfl, Or.inr ⟨by unfold GoD; omega, by first | (rw [if_pos (by omega)]; done) | (rw [if_pos (by omega)]; exact h982)⟩, hF82⟩
  · refine wp_eq (L' := [(2, 0), (0, a), (0, q), (0, n), (0, p), (0, w), (9, 0)]) (st' := [(0, 0)]) (g' := g) ?_
    refine wp_n 6 (pc' := 65) (L' := [(2, 0), (0, a), (0, q), (0, n), (0, p), (0, w), (0, 0)]) (st' := [(0, (-1))]) (g' := g) rfl ?_
    first
    | exact wp_ret rfl rfl rfl ⟨_, _, rfl, Or.inl ⟨by unfold GoD; omega, rfl⟩, FrQ.rfl⟩
    | exact wp_ret rfl rfl rfl ⟨_, _, rfl, Or.inr ⟨by unfold GoD; omega, by rw [if_neg (by omega)]; exact h882⟩, hF82⟩
    | exact wp_ret rfl rfl rfl ⟨_, _, rfl, Or.inr ⟨by unfold GoD; omega, by first | (rw [if_pos (by omega)]; done) | (rw [if_pos (by omega)]; exact h982)⟩, hF82⟩
set_option maxHeartbeats 2000000 in
set_option maxRecDepth 20000 in
theorem m_goal {sn : Nat} {sx : Nat → Int} {b : Nat} {g : am_G} {c : am_G} {P : Nat} {a q n p w : Int} (h_a : R32 a) (h_q : R32 q) (h_n : R32 n) (h_p : R32 p) (h_w : R32 w) (hI : CInv P c) (hM : MRel c g) : Ev sn sx 4 241 [(2, 127), (0, a), (0, q), (0, n), (0, p), (0, w)] (SH b) g (fun r => ∃ g' v, r = (some (0, v), SH b, g') ∧ GoA (c 10 16) a q n p w v ∧ FrN g g') := by
  have h5 := hI.ck.1
  have hP : g 127 0 = (P : Int) := hM.n.trans hI.ck.2.1
  have hpay := hI.rg.r10_9 16 rfl
  refine ev_of (K := 3) T241 (by decide) rfl rfl (Nat.le_of_ble_eq_true rfl) ?_
  refine wp_eq (L' := [(2, 127), (0, a), (0, q), (0, n), (0, p), (0, w), (9, 0)]) (st' := []) (g' := g) ?_
  refine wp_n 3 (pc' := 4) (L' := [(2, 127), (0, a), (0, q), (0, n), (0, p), (0, w), (9, 0)]) (st' := [(0, 40), (0, 0), (0, a)]) (g' := g) rfl ?_
  refine wp_cs (as := [(0, a), (0, 0), (0, 40)]) (rest := []) rfl (by decide) rfl (Nat.le_of_ble_eq_true rfl) (e_isIn (by omega) (by omega) (by omega)) (by decide) (fun r2 h3 => ?_)
  rcases h3 with ⟨rfl, p1⟩ | ⟨rfl, p1⟩
  · refine wp_eq (L' := [(2, 127), (0, a), (0, q), (0, n), (0, p), (0, w), (9, 0)]) (st' := [(0, 1)]) (g' := g) ?_
    refine wp_n 4 (pc' := 14) (L' := [(2, 127), (0, a), (0, q), (0, n), (0, p), (0, w), (9, 0)]) (st' := [(0, 40), (0, 1), (0, q)]) (g' := g) rfl ?_
    refine wp_cs (as := [(0, q), (0, 1), (0, 40)]) (rest := []) rfl (by decide) rfl (Nat.le_of_ble_eq_true rfl) (e_isIn (by omega) (by omega) (by omega)) (by decide) (fun r5 h6 => ?_)
    rcases h6 with ⟨rfl, p4⟩ | ⟨rfl, p4⟩
    · refine wp_eq (L' := [(2, 127), (0, a), (0, q), (0, n), (0, p), (0, w), (9, 0)]) (st' := [(0, 1)]) (g' := g) ?_
      refine wp_n 4 (pc' := 24) (L' := [(2, 127), (0, a), (0, q), (0, n), (0, p), (0, w), (9, 0)]) (st' := [(0, 10), (0, 0), (0, n)]) (g' := g) rfl ?_
      refine wp_cs (as := [(0, n), (0, 0), (0, 10)]) (rest := []) rfl (by decide) rfl (Nat.le_of_ble_eq_true rfl) (e_isIn (by omega) (by omega) (by omega)) (by decide) (fun r8 h9 => ?_)
      rcases h9 with ⟨rfl, p7⟩ | ⟨rfl, p7⟩
      · refine wp_eq (L' := [(2, 127), (0, a), (0, q), (0, n), (0, p), (0, w), (9, 0)]) (st' := [(0, 1)]) (g' := g) ?_
        refine wp_n 4 (pc' := 36) (L' := [(2, 127), (0, a), (0, q), (0, n), (0, p), (0, w), (9, 0)]) (st' := [(0, 1000), (0, 0), (0, p)]) (g' := g) rfl ?_
        refine wp_cs (as := [(0, p), (0, 0), (0, 1000)]) (rest := []) rfl (by decide) rfl (Nat.le_of_ble_eq_true rfl) (e_isIn (by omega) (by omega) (by omega)) (by decide) (fun r11 h12 => ?_)
        rcases h12 with ⟨rfl, p10⟩ | ⟨rfl, p10⟩
        · refine wp_eq (L' := [(2, 127), (0, a), (0, q), (0, n), (0, p), (0, w), (9, 0)]) (st' := [(0, 1)]) (g' := g) ?_
          refine wp_n 4 (pc' := 46) (L' := [(2, 127), (0, a), (0, q), (0, n), (0, p), (0, w), (9, 0)]) (st' := [(0, 1), (0, 0), (0, w)]) (g' := g) rfl ?_
          refine wp_cs (as := [(0, w), (0, 0), (0, 1)]) (rest := []) rfl (by decide) rfl (Nat.le_of_ble_eq_true rfl) (e_isIn (by omega) (by omega) (by omega)) (by decide) (fun r14 h15 => ?_)
          rcases h15 with ⟨rfl, p13⟩ | ⟨rfl, p13⟩
          · refine wp_eq (L' := [(2, 127), (0, a), (0, q), (0, n), (0, p), (0, w), (9, 0)]) (st' := [(0, 1)]) (g' := g) ?_
            refine wp_n 3 (pc' := 57) (L' := [(2, 127), (0, a), (0, q), (0, n), (0, p), (0, w), (0, 0)]) (st' := []) (g' := g) rfl ?_
            have L57 : ∀ (lf : Nat) (i : Nat) (h : am_G), 41 - i < lf → (i ≤ 41) → (∀ j : Nat, j < i → MR h j (gR (c 10 16) q p 0 j) ∧ h 142 j = 0) → (FrN g h) → Wp sn sx 3 T241 57 [(2, 127), (0, a), (0, q), (0, n), (0, p), (0, w), (0, ((i : Nat) : Int))] [] (SH b) h (fun r => ∃ g' v, r = (some (0, v), SH b, g') ∧ GoA (c 10 16) a q n p w v ∧ FrN g g') := by
              intro lf
              induction lf with
              | zero => intro i h hlf; exact absurd hlf (Nat.not_lt_zero _)
              | succ lf ih57 =>
                intro i h hlf hi hN hF
                refine wp_n 2 (pc' := 61) (L' := [(2, 127), (0, a), (0, q), (0, n), (0, p), (0, w), (0, ((i : Nat) : Int))]) (st' := [(0, 40), (0, ((i : Nat) : Int))]) (g' := h) rfl ?_
                refine wp_ic_gt rfl (fun c16 => ?_) (fun c16 => ?_)
                · refine wp_n 2 (pc' := 100) (L' := [(2, 127), (0, a), (0, q), (0, n), (0, p), (0, w), (0, 1)]) (st' := []) (g' := h) rfl ?_
                  have L100 : ∀ (lf : Nat) (d : Nat) (f : am_G), n.toNat - d < lf → (d ≤ n.toNat) → (∀ j : Nat, j < 41 → MR f (bs d + j) (gR (c 10 16) q p d j) ∧ f 142 j = gF (c 10 16) q p j d) → (FrN g f) → Wp sn sx 3 T241 100 [(2, 127), (0, a), (0, q), (0, n), (0, p), (0, w), (0, (((d + 1) : Nat) : Int))] [] (SH b) f (fun r => ∃ g' v, r = (some (0, v), SH b, g') ∧ GoA (c 10 16) a q n p w v ∧ FrN g g') := by
                    intro lf
                    induction lf with
                    | zero => intro d f hlf; exact absurd hlf (Nat.not_lt_zero _)
                    | succ lf ih100 =>
                      intro d f hlf hd hB hG
                      refine wp_n 2 (pc' := 103) (L' := [(2, 127), (0, a), (0, q), (0, n), (0, p), (0, w), (0, (((d + 1) : Nat) : Int))]) (st' := [(0, n), (0, (((d + 1) : Nat) : Int))]) (g' := f) rfl ?_
                      refine wp_ic_gt rfl (fun c17 => ?_) (fun c17 => ?_)
                      · have hdn : d = n.toNat := by omega
                        have hBa := hB a.toNat (by omega)
                        have hgi := gR_in (y := c 10 16) (q := q) (p := p) (by omega) n.toNat a.toNat
                        have hpn := p1000 (show n.toNat ≤ 10 by omega)
                        rw [hdn] at hBa
                        refine wp_n 2 (pc' := 152) (L' := [(2, 127), (0, a), (0, q), (0, n), (0, p), (0, w), (0, (((d + 1) : Nat) : Int))]) (st' := [(0, 1), (0, w)]) (g' := f) rfl ?_
                        refine wp_ic_ne rfl (fun c18 => ?_) (fun c18 => ?_)
                        · refine wp_n 3 (pc' := 165) (L' := [(2, 127), (0, a), (0, q), (0, n), (0, p), (0, w), (0, (((d + 1) : Nat) : Int))]) (st' := [(0, 2), (0, n), (2, 127)]) (g' := f) rfl ?_
                          refine wp_irem rfl (by omega) (by omega) (by omega) ?_
                          refine wp_eq (L' := [(2, 127), (0, a), (0, q), (0, n), (0, p), (0, w), (0, (((d + 1) : Nat) : Int))]) (st' := [(0, (n % 2)), (2, 127)]) (g' := f) ?_ (by rfl) (by rw [Int.tmod_eq_emod_of_nonneg (show 0 ≤ n by omega)]) (by rfl)
                          refine wp_n 1 (pc' := 167) (L' := [(2, 127), (0, a), (0, q), (0, n), (0, p), (0, w), (0, (((d + 1) : Nat) : Int))]) (st' := [(0, 1), (0, (n % 2)), (2, 127)]) (g' := f) rfl ?_
                          refine wp_ic_ne rfl (fun c19 => ?_) (fun c19 => ?_)
                          · have hY : n.toNat % 2 = 0 := by omega
                            refine wp_n 3 (pc' := 178) (L' := [(2, 127), (0, a), (0, q), (0, n), (0, p), (0, w), (0, (((d + 1) : Nat) : Int))]) (st' := [(0, (0 + a)), (2, 127)]) (g' := f) rfl ?_
                            refine wp_eq (L' := [(2, 127), (0, a), (0, q), (0, n), (0, p), (0, w), (0, (((d + 1) : Nat) : Int))]) (st' := [(0, (((bs n.toNat + a.toNat) : Nat) : Int)), (2, 127)]) (g' := f) ?_ (by rfl) (by first | rw [show ((bs n.toNat + a.toNat : Nat) : Int) = 0 + a by (unfold bs; rw [if_pos hY]; omega)] | rw [show ((bs n.toNat + a.toNat : Nat) : Int) = 62 + a by (unfold bs; rw [if_neg hY]; omega)]) (by rfl)
                            refine wp_n 1 (pc' := 180) (L' := [(2, 127), (0, a), (0, q), (0, n), (0, p), (0, w), (0, (((d + 1) : Nat) : Int))]) (st' := [(0, 124), (0, (((bs n.toNat + a.toNat) : Nat) : Int)), (2, 127)]) (g' := f) rfl ?_
                            refine wp_cv (as := [(2, 127), (0, (((bs n.toNat + a.toNat) : Nat) : Int)), (0, 124)]) (rest := []) rfl rfl rfl (Nat.le_of_ble_eq_true rfl) rfl (m_lay (s := (bs n.toNat + a.toNat)) (r := 124) (by unfold bs; split <;> omega) (by omega) (by unfold bs; split <;> omega) hBa.1) (by decide) (fun r20 h21 => ?_)
                            obtain ⟨g180, rfl, hR180, hF180⟩ := h21
                            refine wp_eq (L' := [(2, 127), (0, a), (0, q), (0, n), (0, p), (0, w), (0, (((d + 1) : Nat) : Int))]) (st' := []) (g' := g180) ?_
                            refine wp_n 4 (pc' := 190) (L' := [(2, 127), (0, a), (0, q), (0, n), (0, p), (0, w), (0, (((d + 1) : Nat) : Int))]) (st' := [(0, n), (0, 1000), (0, 125), (2, 127)]) (g' := g180) rfl ?_
                            refine wp_eq (L' := [(2, 127), (0, a), (0, q), (0, n), (0, p), (0, w), (0, (((d + 1) : Nat) : Int))]) (st' := [(0, ((n.toNat : Nat) : Int)), (0, 1000), (0, 125), (2, 127)]) (g' := g180) ?_ (by rfl) (by rw [Int.toNat_of_nonneg (by omega)]) (by rfl)
                            refine wp_cv (as := [(2, 127), (0, 125), (0, 1000), (0, ((n.toNat : Nat) : Int))]) (rest := []) rfl rfl rfl (Nat.le_of_ble_eq_true rfl) rfl (m_power (r := 125) (n := (n.toNat)) (by omega) (by omega) (by omega) (by omega)) (by decide) (fun r22 h23 => ?_)
                            obtain ⟨g190, rfl, hR190, hF190⟩ := h23
                            refine wp_eq (L' := [(2, 127), (0, a), (0, q), (0, n), (0, p), (0, w), (0, (((d + 1) : Nat) : Int))]) (st' := []) (g' := g190) ?_
                            refine wp_n 1 (pc' := 194) (L' := [(2, 127), (0, a), (0, q), (0, n), (0, p), (0, w), (0, (((d + 1) : Nat) : Int))]) (st' := [(2, 127)]) (g' := g190) rfl ?_
                            refine wp_cv (as := [(2, 127)]) (rest := []) rfl rfl rfl (Nat.le_of_ble_eq_true rfl) rfl (m_millionths (hR180.fr hF190 (by decide)) hR190 (by omega) (by omega)) (by decide) (fun r24 h25 => ?_)
                            obtain ⟨g194, q194, rfl, hI194, hF194⟩ := h25
                            refine wp_eq (L' := [(2, 127), (0, a), (0, q), (0, n), (0, p), (0, w), (0, (((d + 1) : Nat) : Int))]) (st' := [(0, q194)]) (g' := g194) ?_
                            first
                            | exact wp_ret rfl rfl rfl ⟨_, _, rfl, Or.inl ⟨by unfold GoD; omega, rfl⟩, FrN.rfl⟩
                            | exact wp_ret rfl rfl rfl ⟨_, _, rfl, Or.inr ⟨by unfold GoD; omega, by rw [if_neg (by omega)]; exact mil_eq (by omega) hgi hI194⟩, ((hG.m hF180).m hF190).r hF194⟩
                            | exact wp_ret rfl rfl rfl ⟨_, _, rfl, Or.inr ⟨by unfold GoD; omega, by first | (rw [if_pos (by omega)]; done) | (rw [if_pos (by omega)]; (first | done | rfl))⟩, hG⟩
                          · have hY : ¬ n.toNat % 2 = 0 := by omega
                            refine wp_n 4 (pc' := 178) (L' := [(2, 127), (0, a), (0, q), (0, n), (0, p), (0, w), (0, (((d + 1) : Nat) : Int))]) (st' := [(0, (62 + a)), (2, 127)]) (g' := f) rfl ?_
                            refine wp_eq (L' := [(2, 127), (0, a), (0, q), (0, n), (0, p), (0, w), (0, (((d + 1) : Nat) : Int))]) (st' := [(0, (((bs n.toNat + a.toNat) : Nat) : Int)), (2, 127)]) (g' := f) ?_ (by rfl) (by first | rw [show ((bs n.toNat + a.toNat : Nat) : Int) = 0 + a by (unfold bs; rw [if_pos hY]; omega)] | rw [show ((bs n.toNat + a.toNat : Nat) : Int) = 62 + a by (unfold bs; rw [if_neg hY]; omega)]) (by rfl)
                            refine wp_n 1 (pc' := 180) (L' := [(2, 127), (0, a), (0, q), (0, n), (0, p), (0, w), (0, (((d + 1) : Nat) : Int))]) (st' := [(0, 124), (0, (((bs n.toNat + a.toNat) : Nat) : Int)), (2, 127)]) (g' := f) rfl ?_
                            refine wp_cv (as := [(2, 127), (0, (((bs n.toNat + a.toNat) : Nat) : Int)), (0, 124)]) (rest := []) rfl rfl rfl (Nat.le_of_ble_eq_true rfl) rfl (m_lay (s := (bs n.toNat + a.toNat)) (r := 124) (by unfold bs; split <;> omega) (by omega) (by unfold bs; split <;> omega) hBa.1) (by decide) (fun r26 h27 => ?_)
                            obtain ⟨g180, rfl, hR180, hF180⟩ := h27
                            refine wp_eq (L' := [(2, 127), (0, a), (0, q), (0, n), (0, p), (0, w), (0, (((d + 1) : Nat) : Int))]) (st' := []) (g' := g180) ?_
                            refine wp_n 4 (pc' := 190) (L' := [(2, 127), (0, a), (0, q), (0, n), (0, p), (0, w), (0, (((d + 1) : Nat) : Int))]) (st' := [(0, n), (0, 1000), (0, 125), (2, 127)]) (g' := g180) rfl ?_
                            refine wp_eq (L' := [(2, 127), (0, a), (0, q), (0, n), (0, p), (0, w), (0, (((d + 1) : Nat) : Int))]) (st' := [(0, ((n.toNat : Nat) : Int)), (0, 1000), (0, 125), (2, 127)]) (g' := g180) ?_ (by rfl) (by rw [Int.toNat_of_nonneg (by omega)]) (by rfl)
                            refine wp_cv (as := [(2, 127), (0, 125), (0, 1000), (0, ((n.toNat : Nat) : Int))]) (rest := []) rfl rfl rfl (Nat.le_of_ble_eq_true rfl) rfl (m_power (r := 125) (n := (n.toNat)) (by omega) (by omega) (by omega) (by omega)) (by decide) (fun r28 h29 => ?_)
                            obtain ⟨g190, rfl, hR190, hF190⟩ := h29
                            refine wp_eq (L' := [(2, 127), (0, a), (0, q), (0, n), (0, p), (0, w), (0, (((d + 1) : Nat) : Int))]) (st' := []) (g' := g190) ?_
                            refine wp_n 1 (pc' := 194) (L' := [(2, 127), (0, a), (0, q), (0, n), (0, p), (0, w), (0, (((d + 1) : Nat) : Int))]) (st' := [(2, 127)]) (g' := g190) rfl ?_
                            refine wp_cv (as := [(2, 127)]) (rest := []) rfl rfl rfl (Nat.le_of_ble_eq_true rfl) rfl (m_millionths (hR180.fr hF190 (by decide)) hR190 (by omega) (by omega)) (by decide) (fun r30 h31 => ?_)
                            obtain ⟨g194, q194, rfl, hI194, hF194⟩ := h31
                            refine wp_eq (L' := [(2, 127), (0, a), (0, q), (0, n), (0, p), (0, w), (0, (((d + 1) : Nat) : Int))]) (st' := [(0, q194)]) (g' := g194) ?_
                            first
                            | exact wp_ret rfl rfl rfl ⟨_, _, rfl, Or.inl ⟨by unfold GoD; omega, rfl⟩, FrN.rfl⟩
                            | exact wp_ret rfl rfl rfl ⟨_, _, rfl, Or.inr ⟨by unfold GoD; omega, by rw [if_neg (by omega)]; exact mil_eq (by omega) hgi hI194⟩, ((hG.m hF180).m hF190).r hF194⟩
                            | exact wp_ret rfl rfl rfl ⟨_, _, rfl, Or.inr ⟨by unfold GoD; omega, by first | (rw [if_pos (by omega)]; done) | (rw [if_pos (by omega)]; (first | done | rfl))⟩, hG⟩
                        · refine wp_n 3 (pc' := 160) (L' := [(2, 127), (0, a), (0, q), (0, n), (0, p), (0, w), (0, (((d + 1) : Nat) : Int))]) (st' := [(0, a), (2, 142)]) (g' := f) rfl ?_
                          refine wp_iald (k := 142) (a.toNat) rfl rfl (by omega) (by omega) (by decide) ?_
                          refine wp_eq (L' := [(2, 127), (0, a), (0, q), (0, n), (0, p), (0, w), (0, (((d + 1) : Nat) : Int))]) (st' := [(0, (gF (c 10 16) q p a.toNat n.toNat))]) (g' := f) ?_ (by rfl) (by rw [hBa.2]) (by rfl)
                          first
                          | exact wp_ret rfl rfl rfl ⟨_, _, rfl, Or.inl ⟨by unfold GoD; omega, rfl⟩, FrN.rfl⟩
                          | exact wp_ret rfl rfl rfl ⟨_, _, rfl, Or.inr ⟨by unfold GoD; omega, by rw [if_neg (by omega)]; exact mil_eq (by omega) hgi hI194⟩, ((hG.m hF180).m hF190).r hF194⟩
                          | exact wp_ret rfl rfl rfl ⟨_, _, rfl, Or.inr ⟨by unfold GoD; omega, by first | (rw [if_pos (by omega)]; done) | (rw [if_pos (by omega)]; (first | done | rfl))⟩, hG⟩
                      · have hMf := hM.g_same hG
                        refine wp_n 3 (pc' := 110) (L' := [(2, 127), (0, a), (0, q), (0, n), (0, p), (0, w), (0, (((d + 1) : Nat) : Int))]) (st' := [(0, 2), (0, (((d + 1) : Nat) : Int)), (2, 127)]) (g' := f) rfl ?_
                        refine wp_irem rfl (by omega) (by omega) (by omega) ?_
                        refine wp_eq (L' := [(2, 127), (0, a), (0, q), (0, n), (0, p), (0, w), (0, (((d + 1) : Nat) : Int))]) (st' := [(0, ((((d + 1) : Nat) : Int) % 2)), (2, 127)]) (g' := f) ?_ (by rfl) (by rw [Int.tmod_eq_emod_of_nonneg (show 0 ≤ ((d + 1 : Nat) : Int) by omega)]) (by rfl)
                        refine wp_n 1 (pc' := 112) (L' := [(2, 127), (0, a), (0, q), (0, n), (0, p), (0, w), (0, (((d + 1) : Nat) : Int))]) (st' := [(0, 1), (0, ((((d + 1) : Nat) : Int) % 2)), (2, 127)]) (g' := f) rfl ?_
                        refine wp_ic_ne rfl (fun c32 => ?_) (fun c32 => ?_)
                        · have hX1 : ¬ (d + 1) % 2 = 1 := by omega
                          refine wp_n 3 (pc' := 124) (L' := [(2, 127), (0, a), (0, q), (0, n), (0, p), (0, w), (0, (((d + 1) : Nat) : Int))]) (st' := [(0, 2), (0, (((d + 1) : Nat) : Int)), (0, 62), (2, 127)]) (g' := f) rfl ?_
                          refine wp_irem rfl (by omega) (by omega) (by omega) ?_
                          refine wp_eq (L' := [(2, 127), (0, a), (0, q), (0, n), (0, p), (0, w), (0, (((d + 1) : Nat) : Int))]) (st' := [(0, ((((d + 1) : Nat) : Int) % 2)), (0, 62), (2, 127)]) (g' := f) ?_ (by rfl) (by rw [Int.tmod_eq_emod_of_nonneg (show 0 ≤ ((d + 1 : Nat) : Int) by omega)]) (by rfl)
                          refine wp_n 1 (pc' := 126) (L' := [(2, 127), (0, a), (0, q), (0, n), (0, p), (0, w), (0, (((d + 1) : Nat) : Int))]) (st' := [(0, 1), (0, ((((d + 1) : Nat) : Int) % 2)), (0, 62), (2, 127)]) (g' := f) rfl ?_
                          refine wp_ic_ne rfl (fun c33 => ?_) (fun c33 => ?_)
                          · have hX2 : ¬ (d + 1) % 2 = 1 := by omega
                            refine wp_n 4 (pc' := 140) (L' := [(2, 127), (0, a), (0, q), (0, n), (0, p), (0, w), (0, (((d + 1) : Nat) : Int))]) (st' := [(0, (((d + 1) : Nat) : Int)), (0, p), (0, q), (0, 0), (0, 62), (2, 127)]) (g' := f) rfl ?_
                            refine wp_cv (as := [(2, 127), (0, 62), (0, 0), (0, q), (0, p), (0, (((d + 1) : Nat) : Int))]) (rest := []) rfl rfl rfl (Nat.le_of_ble_eq_true rfl) rfl (m_bets (c := c) (u := 62) (t := 0) (d := d) (y := c 10 16) hMf rfl (by omega) (by omega) (by omega) (by omega) hpay (by first | (exfalso; omega) | (intro j hj; have k := (hB j hj).1; unfold bs at k; first | (rw [if_pos (by omega)] at k; exact k) | (rw [if_neg (by omega)] at k; exact k)))) (by decide) (fun r34 h35 => ?_)
                            obtain ⟨g140, rfl, hB140, hF140⟩ := h35
                            refine wp_eq (L' := [(2, 127), (0, a), (0, q), (0, n), (0, p), (0, w), (0, (((d + 1) : Nat) : Int))]) (st' := []) (g' := g140) ?_
                            refine wp_n 2 (pc' := 100) (L' := [(2, 127), (0, a), (0, q), (0, n), (0, p), (0, w), (0, ((((d + 1) : Nat) : Int) + 1))]) (st' := []) (g' := g140) rfl ?_
                            refine wp_eq (ih100 (d + 1) (g140) ?_ ?_ ?_ ?_) (by first | rfl | (simp; done) | (simp; omega)) (by rfl) (by rfl)
                            · omega
                            · omega
                            · intro j hj
                              have k := hB140 j hj
                              unfold bs
                              first | (exfalso; omega) | (rw [if_pos (by omega)]; exact k) | (rw [if_neg (by omega)]; exact k)
                            · exact hG.trans hF140
                          · have hX2 : (d + 1) % 2 = 1 := by omega
                            refine wp_n 5 (pc' := 140) (L' := [(2, 127), (0, a), (0, q), (0, n), (0, p), (0, w), (0, (((d + 1) : Nat) : Int))]) (st' := [(0, (((d + 1) : Nat) : Int)), (0, p), (0, q), (0, 62), (0, 62), (2, 127)]) (g' := f) rfl ?_
                            refine wp_cv (as := [(2, 127), (0, 62), (0, 62), (0, q), (0, p), (0, (((d + 1) : Nat) : Int))]) (rest := []) rfl rfl rfl (Nat.le_of_ble_eq_true rfl) rfl (m_bets (c := c) (u := 62) (t := 62) (d := d) (y := c 10 16) hMf rfl (by omega) (by omega) (by omega) (by omega) hpay (by first | (exfalso; omega) | (intro j hj; have k := (hB j hj).1; unfold bs at k; first | (rw [if_pos (by omega)] at k; exact k) | (rw [if_neg (by omega)] at k; exact k)))) (by decide) (fun r36 h37 => ?_)
                            obtain ⟨g140, rfl, hB140, hF140⟩ := h37
                            refine wp_eq (L' := [(2, 127), (0, a), (0, q), (0, n), (0, p), (0, w), (0, (((d + 1) : Nat) : Int))]) (st' := []) (g' := g140) ?_
                            refine wp_n 2 (pc' := 100) (L' := [(2, 127), (0, a), (0, q), (0, n), (0, p), (0, w), (0, ((((d + 1) : Nat) : Int) + 1))]) (st' := []) (g' := g140) rfl ?_
                            refine wp_eq (ih100 (d + 1) (g140) ?_ ?_ ?_ ?_) (by first | rfl | (simp; done) | (simp; omega)) (by rfl) (by rfl)
                            · omega
                            · omega
                            · intro j hj
                              have k := hB140 j hj
                              unfold bs
                              first | (exfalso; omega) | (rw [if_pos (by omega)]; exact k) | (rw [if_neg (by omega)]; exact k)
                            · exact hG.trans hF140
                        · have hX1 : (d + 1) % 2 = 1 := by omega
                          refine wp_n 4 (pc' := 124) (L' := [(2, 127), (0, a), (0, q), (0, n), (0, p), (0, w), (0, (((d + 1) : Nat) : Int))]) (st' := [(0, 2), (0, (((d + 1) : Nat) : Int)), (0, 0), (2, 127)]) (g' := f) rfl ?_
                          refine wp_irem rfl (by omega) (by omega) (by omega) ?_
                          refine wp_eq (L' := [(2, 127), (0, a), (0, q), (0, n), (0, p), (0, w), (0, (((d + 1) : Nat) : Int))]) (st' := [(0, ((((d + 1) : Nat) : Int) % 2)), (0, 0), (2, 127)]) (g' := f) ?_ (by rfl) (by rw [Int.tmod_eq_emod_of_nonneg (show 0 ≤ ((d + 1 : Nat) : Int) by omega)]) (by rfl)
                          refine wp_n 1 (pc' := 126) (L' := [(2, 127), (0, a), (0, q), (0, n), (0, p), (0, w), (0, (((d + 1) : Nat) : Int))]) (st' := [(0, 1), (0, ((((d + 1) : Nat) : Int) % 2)), (0, 0), (2, 127)]) (g' := f) rfl ?_
                          refine wp_ic_ne rfl (fun c38 => ?_) (fun c38 => ?_)
                          · have hX2 : ¬ (d + 1) % 2 = 1 := by omega
                            refine wp_n 4 (pc' := 140) (L' := [(2, 127), (0, a), (0, q), (0, n), (0, p), (0, w), (0, (((d + 1) : Nat) : Int))]) (st' := [(0, (((d + 1) : Nat) : Int)), (0, p), (0, q), (0, 0), (0, 0), (2, 127)]) (g' := f) rfl ?_
                            refine wp_cv (as := [(2, 127), (0, 0), (0, 0), (0, q), (0, p), (0, (((d + 1) : Nat) : Int))]) (rest := []) rfl rfl rfl (Nat.le_of_ble_eq_true rfl) rfl (m_bets (c := c) (u := 0) (t := 0) (d := d) (y := c 10 16) hMf rfl (by omega) (by omega) (by omega) (by omega) hpay (by first | (exfalso; omega) | (intro j hj; have k := (hB j hj).1; unfold bs at k; first | (rw [if_pos (by omega)] at k; exact k) | (rw [if_neg (by omega)] at k; exact k)))) (by decide) (fun r39 h40 => ?_)
                            obtain ⟨g140, rfl, hB140, hF140⟩ := h40
                            refine wp_eq (L' := [(2, 127), (0, a), (0, q), (0, n), (0, p), (0, w), (0, (((d + 1) : Nat) : Int))]) (st' := []) (g' := g140) ?_
                            refine wp_n 2 (pc' := 100) (L' := [(2, 127), (0, a), (0, q), (0, n), (0, p), (0, w), (0, ((((d + 1) : Nat) : Int) + 1))]) (st' := []) (g' := g140) rfl ?_
                            refine wp_eq (ih100 (d + 1) (g140) ?_ ?_ ?_ ?_) (by first | rfl | (simp; done) | (simp; omega)) (by rfl) (by rfl)
                            · omega
                            · omega
                            · intro j hj
                              have k := hB140 j hj
                              unfold bs
                              first | (exfalso; omega) | (rw [if_pos (by omega)]; exact k) | (rw [if_neg (by omega)]; exact k)
                            · exact hG.trans hF140
                          · have hX2 : (d + 1) % 2 = 1 := by omega
                            refine wp_n 5 (pc' := 140) (L' := [(2, 127), (0, a), (0, q), (0, n), (0, p), (0, w), (0, (((d + 1) : Nat) : Int))]) (st' := [(0, (((d + 1) : Nat) : Int)), (0, p), (0, q), (0, 62), (0, 0), (2, 127)]) (g' := f) rfl ?_
                            refine wp_cv (as := [(2, 127), (0, 0), (0, 62), (0, q), (0, p), (0, (((d + 1) : Nat) : Int))]) (rest := []) rfl rfl rfl (Nat.le_of_ble_eq_true rfl) rfl (m_bets (c := c) (u := 0) (t := 62) (d := d) (y := c 10 16) hMf rfl (by omega) (by omega) (by omega) (by omega) hpay (by first | (exfalso; omega) | (intro j hj; have k := (hB j hj).1; unfold bs at k; first | (rw [if_pos (by omega)] at k; exact k) | (rw [if_neg (by omega)] at k; exact k)))) (by decide) (fun r41 h42 => ?_)
                            obtain ⟨g140, rfl, hB140, hF140⟩ := h42
                            refine wp_eq (L' := [(2, 127), (0, a), (0, q), (0, n), (0, p), (0, w), (0, (((d + 1) : Nat) : Int))]) (st' := []) (g' := g140) ?_
                            refine wp_n 2 (pc' := 100) (L' := [(2, 127), (0, a), (0, q), (0, n), (0, p), (0, w), (0, ((((d + 1) : Nat) : Int) + 1))]) (st' := []) (g' := g140) rfl ?_
                            refine wp_eq (ih100 (d + 1) (g140) ?_ ?_ ?_ ?_) (by first | rfl | (simp; done) | (simp; omega)) (by rfl) (by rfl)
                            · omega
                            · omega
                            · intro j hj
                              have k := hB140 j hj
                              unfold bs
                              first | (exfalso; omega) | (rw [if_pos (by omega)]; exact k) | (rw [if_neg (by omega)]; exact k)
                            · exact hG.trans hF140
                  refine wp_eq (L100 (_ + 1) (0) (h) (Nat.lt_succ_self _) ?_ ?_ ?_) (by first | rfl | (simp; done) | (simp; omega)) (by rfl) (by rfl)
                  · exact Nat.zero_le _
                  · intro j hj
                    rw [show bs 0 + j = j from Nat.zero_add j]
                    exact hN j (by omega)
                  · exact hF
                · refine wp_n 4 (pc' := 69) (L' := [(2, 127), (0, a), (0, q), (0, n), (0, p), (0, w), (0, ((i : Nat) : Int))]) (st' := [(0, (0 + ((i : Nat) : Int))), (2, 127)]) (g' := h) rfl ?_
                  refine wp_eq (L' := [(2, 127), (0, a), (0, q), (0, n), (0, p), (0, w), (0, ((i : Nat) : Int))]) (st' := [(0, ((i : Nat) : Int)), (2, 127)]) (g' := h) ?_ (by rfl) (by rw [Int.zero_add]) (by rfl)
                  refine wp_n 2 (pc' := 72) (L' := [(2, 127), (0, a), (0, q), (0, n), (0, p), (0, w), (0, ((i : Nat) : Int))]) (st' := [(0, q), (0, ((i : Nat) : Int)), (0, ((i : Nat) : Int)), (2, 127)]) (g' := h) rfl ?_
                  refine wp_ic_lt rfl (fun c43 => ?_) (fun c43 => ?_)
                  · refine wp_n 1 (pc' := 80) (L' := [(2, 127), (0, a), (0, q), (0, n), (0, p), (0, w), (0, ((i : Nat) : Int))]) (st' := [(0, 0), (0, ((i : Nat) : Int)), (2, 127)]) (g' := h) rfl ?_
                    refine wp_cv (as := [(2, 127), (0, ((i : Nat) : Int)), (0, 0)]) (rest := []) rfl rfl rfl (Nat.le_of_ble_eq_true rfl) rfl (m_put (r := i) (by omega) (by omega)) (by decide) (fun r44 h45 => ?_)
                    obtain ⟨g80, rfl, hR80, hF80⟩ := h45
                    refine wp_eq (L' := [(2, 127), (0, a), (0, q), (0, n), (0, p), (0, w), (0, ((i : Nat) : Int))]) (st' := []) (g' := g80) ?_
                    refine wp_n 4 (pc' := 90) (L' := [(2, 127), (0, a), (0, q), (0, n), (0, p), (0, w), (0, ((i : Nat) : Int))]) (st' := [(0, 0), (0, ((i : Nat) : Int)), (2, 142)]) (g' := g80) rfl ?_
                    refine wp_iast (k := 142) (i) rfl rfl (by omega) (by omega) (by decide) ?_
                    refine wp_n 2 (pc' := 57) (L' := [(2, 127), (0, a), (0, q), (0, n), (0, p), (0, w), (0, (((i : Nat) : Int) + 1))]) (st' := []) (g' := (am_up g80 142 i 0)) rfl ?_
                    refine wp_eq (ih57 (i + 1) ((am_up g80 142 i 0)) ?_ ?_ ?_ ?_) (by first | rfl | (simp; done) | (simp; omega)) (by rfl) (by rfl)
                    · omega
                    · omega
                    · intro j hj
                      by_cases e : j = i
                      · subst e
                        refine ⟨MR.up142 (by rw [gR_0]; first | (rw [if_pos (by omega)]; exact hR80) | (rw [if_neg (by omega)]; exact hR80)), by rw [up_eq]⟩
                      · have k := hN j (by omega)
                        refine ⟨MR.up142 (k.1.fr hF80 (by omega)), ?_⟩
                        rw [up_nj e, hF80 142 j (fun e => absurd e (by decide))]; exact k.2
                    · exact (hF.m hF80).up (by unfold Sm; omega)
                  · refine wp_n 2 (pc' := 80) (L' := [(2, 127), (0, a), (0, q), (0, n), (0, p), (0, w), (0, ((i : Nat) : Int))]) (st' := [(0, 1), (0, ((i : Nat) : Int)), (2, 127)]) (g' := h) rfl ?_
                    refine wp_cv (as := [(2, 127), (0, ((i : Nat) : Int)), (0, 1)]) (rest := []) rfl rfl rfl (Nat.le_of_ble_eq_true rfl) rfl (m_put (r := i) (by omega) (by omega)) (by decide) (fun r46 h47 => ?_)
                    obtain ⟨g80, rfl, hR80, hF80⟩ := h47
                    refine wp_eq (L' := [(2, 127), (0, a), (0, q), (0, n), (0, p), (0, w), (0, ((i : Nat) : Int))]) (st' := []) (g' := g80) ?_
                    refine wp_n 4 (pc' := 90) (L' := [(2, 127), (0, a), (0, q), (0, n), (0, p), (0, w), (0, ((i : Nat) : Int))]) (st' := [(0, 0), (0, ((i : Nat) : Int)), (2, 142)]) (g' := g80) rfl ?_
                    refine wp_iast (k := 142) (i) rfl rfl (by omega) (by omega) (by decide) ?_
                    refine wp_n 2 (pc' := 57) (L' := [(2, 127), (0, a), (0, q), (0, n), (0, p), (0, w), (0, (((i : Nat) : Int) + 1))]) (st' := []) (g' := (am_up g80 142 i 0)) rfl ?_
                    refine wp_eq (ih57 (i + 1) ((am_up g80 142 i 0)) ?_ ?_ ?_ ?_) (by first | rfl | (simp; done) | (simp; omega)) (by rfl) (by rfl)
                    · omega
                    · omega
                    · intro j hj
                      by_cases e : j = i
                      · subst e
                        refine ⟨MR.up142 (by rw [gR_0]; first | (rw [if_pos (by omega)]; exact hR80) | (rw [if_neg (by omega)]; exact hR80)), by rw [up_eq]⟩
                      · have k := hN j (by omega)
                        refine ⟨MR.up142 (k.1.fr hF80 (by omega)), ?_⟩
                        rw [up_nj e, hF80 142 j (fun e => absurd e (by decide))]; exact k.2
                    · exact (hF.m hF80).up (by unfold Sm; omega)
            refine wp_eq (L57 (_ + 1) (0) (g) (Nat.lt_succ_self _) ?_ ?_ ?_) (by first | rfl | (simp; done) | (simp; omega)) (by rfl) (by rfl)
            · exact Nat.zero_le _
            · exact fun j hj => absurd hj (Nat.not_lt_zero _)
            · exact FrN.rfl
          · refine wp_eq (L' := [(2, 127), (0, a), (0, q), (0, n), (0, p), (0, w), (9, 0)]) (st' := [(0, 0)]) (g' := g) ?_
            refine wp_n 2 (pc' := 53) (L' := [(2, 127), (0, a), (0, q), (0, n), (0, p), (0, w), (9, 0)]) (st' := [(0, (-1))]) (g' := g) rfl ?_
            first
            | exact wp_ret rfl rfl rfl ⟨_, _, rfl, Or.inl ⟨by unfold GoD; omega, rfl⟩, FrN.rfl⟩
            | exact wp_ret rfl rfl rfl ⟨_, _, rfl, Or.inr ⟨by unfold GoD; omega, by rw [if_neg (by omega)]; exact mil_eq (by omega) hgi hI194⟩, ((hG.m hF180).m hF190).r hF194⟩
            | exact wp_ret rfl rfl rfl ⟨_, _, rfl, Or.inr ⟨by unfold GoD; omega, by first | (rw [if_pos (by omega)]; done) | (rw [if_pos (by omega)]; (first | done | rfl))⟩, hG⟩
        · refine wp_eq (L' := [(2, 127), (0, a), (0, q), (0, n), (0, p), (0, w), (9, 0)]) (st' := [(0, 0)]) (g' := g) ?_
          refine wp_n 2 (pc' := 53) (L' := [(2, 127), (0, a), (0, q), (0, n), (0, p), (0, w), (9, 0)]) (st' := [(0, (-1))]) (g' := g) rfl ?_
          first
          | exact wp_ret rfl rfl rfl ⟨_, _, rfl, Or.inl ⟨by unfold GoD; omega, rfl⟩, FrN.rfl⟩
          | exact wp_ret rfl rfl rfl ⟨_, _, rfl, Or.inr ⟨by unfold GoD; omega, by rw [if_neg (by omega)]; exact mil_eq (by omega) hgi hI194⟩, ((hG.m hF180).m hF190).r hF194⟩
          | exact wp_ret rfl rfl rfl ⟨_, _, rfl, Or.inr ⟨by unfold GoD; omega, by first | (rw [if_pos (by omega)]; done) | (rw [if_pos (by omega)]; (first | done | rfl))⟩, hG⟩
      · refine wp_eq (L' := [(2, 127), (0, a), (0, q), (0, n), (0, p), (0, w), (9, 0)]) (st' := [(0, 0)]) (g' := g) ?_
        refine wp_n 2 (pc' := 53) (L' := [(2, 127), (0, a), (0, q), (0, n), (0, p), (0, w), (9, 0)]) (st' := [(0, (-1))]) (g' := g) rfl ?_
        first
        | exact wp_ret rfl rfl rfl ⟨_, _, rfl, Or.inl ⟨by unfold GoD; omega, rfl⟩, FrN.rfl⟩
        | exact wp_ret rfl rfl rfl ⟨_, _, rfl, Or.inr ⟨by unfold GoD; omega, by rw [if_neg (by omega)]; exact mil_eq (by omega) hgi hI194⟩, ((hG.m hF180).m hF190).r hF194⟩
        | exact wp_ret rfl rfl rfl ⟨_, _, rfl, Or.inr ⟨by unfold GoD; omega, by first | (rw [if_pos (by omega)]; done) | (rw [if_pos (by omega)]; (first | done | rfl))⟩, hG⟩
    · refine wp_eq (L' := [(2, 127), (0, a), (0, q), (0, n), (0, p), (0, w), (9, 0)]) (st' := [(0, 0)]) (g' := g) ?_
      refine wp_n 2 (pc' := 53) (L' := [(2, 127), (0, a), (0, q), (0, n), (0, p), (0, w), (9, 0)]) (st' := [(0, (-1))]) (g' := g) rfl ?_
      first
      | exact wp_ret rfl rfl rfl ⟨_, _, rfl, Or.inl ⟨by unfold GoD; omega, rfl⟩, FrN.rfl⟩
      | exact wp_ret rfl rfl rfl ⟨_, _, rfl, Or.inr ⟨by unfold GoD; omega, by rw [if_neg (by omega)]; exact mil_eq (by omega) hgi hI194⟩, ((hG.m hF180).m hF190).r hF194⟩
      | exact wp_ret rfl rfl rfl ⟨_, _, rfl, Or.inr ⟨by unfold GoD; omega, by first | (rw [if_pos (by omega)]; done) | (rw [if_pos (by omega)]; (first | done | rfl))⟩, hG⟩
  · refine wp_eq (L' := [(2, 127), (0, a), (0, q), (0, n), (0, p), (0, w), (9, 0)]) (st' := [(0, 0)]) (g' := g) ?_
    refine wp_n 2 (pc' := 53) (L' := [(2, 127), (0, a), (0, q), (0, n), (0, p), (0, w), (9, 0)]) (st' := [(0, (-1))]) (g' := g) rfl ?_
    first
    | exact wp_ret rfl rfl rfl ⟨_, _, rfl, Or.inl ⟨by unfold GoD; omega, rfl⟩, FrN.rfl⟩
    | exact wp_ret rfl rfl rfl ⟨_, _, rfl, Or.inr ⟨by unfold GoD; omega, by rw [if_neg (by omega)]; exact mil_eq (by omega) hgi hI194⟩, ((hG.m hF180).m hF190).r hF194⟩
    | exact wp_ret rfl rfl rfl ⟨_, _, rfl, Or.inr ⟨by unfold GoD; omega, by first | (rw [if_pos (by omega)]; done) | (rw [if_pos (by omega)]; (first | done | rfl))⟩, hG⟩
theorem C_goal {sn : Nat} {sx : Nat → Int} {b : Nat} {g : am_G} {P : Nat} {a q n p w : Int} (h_a : R32 a) (h_q : R32 q) (h_n : R32 n) (h_p : R32 p) (h_w : R32 w) (hI : CInv P g) : Ev sn sx 4 120 [(2, 0), (0, a), (0, q), (0, n), (0, p), (0, w)] (SH b) g (CPost P g (fun c1 v1 => GoA (g 10 16) a q n p w v1 ∧ CoE g c1)) := (e_goal h_a h_q h_n h_p h_w hI).mono fun r hh => cpost_q (A := GoA (g 10 16) a q n p w) hI hh
theorem M_goal {sn : Nat} {sx : Nat → Int} {b : Nat} {g c : am_G} {P : Nat} {a q n p w : Int} (h_a : R32 a) (h_q : R32 q) (h_n : R32 n) (h_p : R32 p) (h_w : R32 w) (hI : CInv P c) (hM : MRel c g) : Ev sn sx 4 241 [(2, 127), (0, a), (0, q), (0, n), (0, p), (0, w)] (SH b) g (MPost b g (fun c1 v1 => GoA (c 10 16) a q n p w v1 ∧ CoE c c1)) := (m_goal h_a h_q h_n h_p h_w hI hM).mono fun r hh => mpost_n (A := GoA (c 10 16) a q n p w) hM (fun _ _ => GoA.uniq) hh
