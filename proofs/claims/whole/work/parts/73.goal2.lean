/-! GOAL: the chances, and the class's reach -/
def gT (y p : Int) (R : Nat → Int) (a s : Nat) : Int := p * R (gw y a s) + (1000 - p) * R (a - s)
def gR (y q p : Int) : Nat → Nat → Int
  | 0, a => if q ≤ (a : Int) then 1 else 0
  | d + 1, a => if q ≤ (a : Int) then 1000 ^ (d + 1) else gT y p (gR y q p d) a (gmx (gT y p (gR y q p d) a) a)
theorem gR_0 (y q p : Int) (a : Nat) : gR y q p 0 a = if q ≤ (a : Int) then 1 else 0 := rfl
theorem gR_s (y q p : Int) (d a : Nat) : gR y q p (d + 1) a = if q ≤ (a : Int) then 1000 ^ (d + 1) else gT y p (gR y q p d) a (gmx (gT y p (gR y q p d) a) a) := rfl
/-- the stake of the first bet, of d -/
def gF (y q p : Int) (a : Nat) : Nat → Int
  | 0 => 0
  | d + 1 => if q ≤ (a : Int) then 0 else ((gmx (gT y p (gR y q p d) a) a : Nat) : Int)
theorem gF_s (y q p : Int) (a d : Nat) : gF y q p a (d + 1) = if q ≤ (a : Int) then 0 else ((gmx (gT y p (gR y q p d) a) a : Nat) : Int) := rfl
theorem gT_in {y p M : Int} {R : Nat → Int} (hp : 0 ≤ p ∧ p ≤ 1000) (h : ∀ a, 0 ≤ R a ∧ R a ≤ M) (a s : Nat) : 0 ≤ gT y p R a s ∧ gT y p R a s ≤ M * 1000 := by
  have a1 := h (gw y a s)
  have a2 := h (a - s)
  unfold gT
  have b1 := Int.mul_nonneg hp.1 a1.1
  have b2 := Int.mul_nonneg (show 0 ≤ 1000 - p by omega) a2.1
  have c1 := Int.mul_le_mul_of_nonneg_left a1.2 hp.1
  have c2 := Int.mul_le_mul_of_nonneg_left a2.2 (show 0 ≤ 1000 - p by omega)
  have e : p * M + (1000 - p) * M = M * 1000 := by grind
  omega
theorem gR_in {y q p : Int} (hp : 0 ≤ p ∧ p ≤ 1000) : ∀ d a, 0 ≤ gR y q p d a ∧ gR y q p d a ≤ 1000 ^ d := by
  intro d
  induction d with
  | zero => intro a; rw [gR_0, Int.pow_zero]; split <;> omega
  | succ d ih =>
    intro a
    rw [gR_s]
    split
    · exact ⟨Int.pow_nonneg (by decide), Int.le_refl _⟩
    · rw [Int.pow_succ]; exact gT_in hp ih a _
/-- the arrays hold the chances after d bets -/
def RepG (f f2 : Nat → Int) (y q p : Int) (d a : Nat) : Prop := f a * 1000000000000000 + f2 a = gR y q p d a * 1000 ^ (10 - d) ∧ 0 ≤ f a ∧ f a ≤ 1000000000000000 ∧ 0 ≤ f2 a ∧ f2 a < 1000000000000000
theorem k1000 {d : Nat} (h : d < 10) : (1000 : Int) ^ (10 - d) = 1000 ^ (10 - (d + 1)) * 1000 := by
  rw [← Int.pow_succ, show (10 - (d + 1)).succ = 10 - d by omega]
theorem hw_gT {g : am_G} {y q p : Int} {d a s : Nat} (hd : d < 10) (ha : a ≤ 40) (h : ∀ j, j < 41 → RepG (g 123) (g 124) y q p d j) : hw g p y a s = gT y p (gR y q p d) a s * 1000 ^ (10 - (d + 1)) := by
  have h1 := (h (gw y a s) (by have := gw_le y a s; omega)).1
  have h2 := (h (a - s) (by omega)).1
  unfold hw hv gT
  rw [h1, h2, k1000 hd]
  generalize (1000 : Int) ^ (10 - (d + 1)) = K
  generalize gR y q p d (gw y a s) = A
  generalize gR y q p d (a - s) = B
  have e : p * (A * (K * 1000)) + (1000 - p) * (B * (K * 1000)) = ((p * A + (1000 - p) * B) * K) * 1000 := by grind
  rw [e]
  exact Int.mul_ediv_cancel _ (by decide)
theorem rep_top {f f2 : Nat → Int} {y q p : Int} {d a : Nat} (hd : d ≤ 10) (hq : q ≤ (a : Int)) (h1 : f a = 1000000000000000) (h2 : f2 a = 0) : RepG f f2 y q p d a := by
  have e : gR y q p d a * 1000 ^ (10 - d) = 1000 ^ 10 := by
    cases d with
    | zero => rw [gR_0, if_pos hq]; rfl
    | succ d => rw [gR_s, if_pos hq, ← Int.pow_add, show d + 1 + (10 - (d + 1)) = 10 by omega]
  refine ⟨?_, by omega, by omega, by omega, by omega⟩
  rw [e, h1, h2]
  decide
theorem rep_low {g : am_G} {f f2 : Nat → Int} {y q p : Int} {d a : Nat} (hd : d < 10) (ha : a ≤ 40) (hq : ¬ q ≤ (a : Int)) (h : ∀ j, j < 41 → RepG (g 123) (g 124) y q p d j) (g1 : am_G) (h1 : ob g1 = hw g p y a (gmx (hw g p y a) a)) (h2 : obv g1) (e1 : f a = g1 120 4) (e2 : f2 a = g1 120 5) : RepG f f2 y q p (d + 1) a ∧ gmx (hw g p y a) a = gmx (gT y p (gR y q p d) a) a := by
  have hg : gmx (hw g p y a) a = gmx (gT y p (gR y q p d) a) a := gmx_sc (K := 1000 ^ (10 - (d + 1))) (Int.pow_pos (by decide)) fun j _ => hw_gT hd ha h
  refine ⟨⟨?_, ?_⟩, hg⟩
  · rw [gR_s, if_neg hq, ← hg, ← hw_gT hd ha h, ← h1, e1, e2]; rfl
  · unfold obv at h2
    rw [e1, e2]
    exact h2
set_option maxHeartbeats 400000 in
set_option maxRecDepth 20000 in
theorem e_reach {sn : Nat} {sx : Nat → Int} {b : Nat} {g : am_G} {a n : Nat} {q p y : Int} (ha : a ≤ 40) (hq : 1 ≤ q ∧ q ≤ 40) (hn : n ≤ 10) (hp : 0 ≤ p ∧ p ≤ 1000) (hy : 1 ≤ y ∧ y ≤ 99) : Ev sn sx 3 44 [(2, 120), (0, ((a : Nat) : Int)), (0, q), (0, ((n : Nat) : Int)), (0, p), (0, y)] (SH b) g (fun r => ∃ g', r = (none, SH b, g') ∧ g' 120 8 = (gR y q p n a * 1000 ^ (10 - n) / 1000000000000000000000000) ∧ g' 120 9 = gF y q p a n ∧ FrQ g g') := by
  refine ev_of (K := 2) T44 (by decide) rfl rfl (Nat.le_of_ble_eq_true rfl) ?_
  refine wp_eq (L' := [(2, 120), (0, ((a : Nat) : Int)), (0, q), (0, ((n : Nat) : Int)), (0, p), (0, y), (9, 0), (9, 0)]) (st' := []) (g' := g) ?_
  refine wp_n 2 (pc' := 3) (L' := [(2, 120), (0, ((a : Nat) : Int)), (0, q), (0, ((n : Nat) : Int)), (0, p), (0, y), (0, 0), (9, 0)]) (st' := []) (g' := g) rfl ?_
  have L3 : ∀ (lf : Nat) (i : Nat) (f : am_G), 41 - i < lf → (i ≤ 41) → (∀ j : Nat, j < i → f 121 j = (if q ≤ (j : Int) then 1000000000000000 else 0) ∧ f 122 j = 0) → ((∀ c j, ¬ (c = 120 ∧ j < 12) → (c < 121 ∨ 124 < c) → f c j = g c j)) → Wp sn sx 2 T44 3 [(2, 120), (0, ((a : Nat) : Int)), (0, q), (0, ((n : Nat) : Int)), (0, p), (0, y), (0, ((i : Nat) : Int)), (9, 0)] [] (SH b) f (fun r => ∃ g', r = (none, SH b, g') ∧ g' 120 8 = (gR y q p n a * 1000 ^ (10 - n) / 1000000000000000000000000) ∧ g' 120 9 = gF y q p a n ∧ FrQ g g') := by
    intro lf
    induction lf with
    | zero => intro i f hlf; exact absurd hlf (Nat.not_lt_zero _)
    | succ lf ih3 =>
      intro i f hlf hi hA hF
      refine wp_n 2 (pc' := 7) (L' := [(2, 120), (0, ((a : Nat) : Int)), (0, q), (0, ((n : Nat) : Int)), (0, p), (0, y), (0, ((i : Nat) : Int)), (9, 0)]) (st' := [(0, 40), (0, ((i : Nat) : Int))]) (g' := f) rfl ?_
      refine wp_ic_gt rfl (fun c1 => ?_) (fun c1 => ?_)
      · refine wp_n 5 (pc' := 52) (L' := [(2, 120), (0, ((a : Nat) : Int)), (0, q), (0, ((n : Nat) : Int)), (0, p), (0, y), (0, 1), (9, 0)]) (st' := []) (g' := (am_up f 120 9 0)) rfl ?_
        have L52 : ∀ (lf : Nat) (d : Nat) (f : am_G) (w7 : am_V), n - d < lf → (d ≤ n) → (∀ j : Nat, j < 41 → RepG (f 121) (f 122) y q p d j) → (∀ j : Nat, j < 41 → q ≤ (j : Int) → f 121 j = 1000000000000000 ∧ f 122 j = 0) → (f 120 9 = gF y q p a d) → ((∀ c j, ¬ (c = 120 ∧ j < 12) → (c < 121 ∨ 124 < c) → f c j = g c j)) → Wp sn sx 2 T44 52 [(2, 120), (0, ((a : Nat) : Int)), (0, q), (0, ((n : Nat) : Int)), (0, p), (0, y), (0, (((d + 1) : Nat) : Int)), w7] [] (SH b) f (fun r => ∃ g', r = (none, SH b, g') ∧ g' 120 8 = (gR y q p n a * 1000 ^ (10 - n) / 1000000000000000000000000) ∧ g' 120 9 = gF y q p a n ∧ FrQ g g') := by
          intro lf
          induction lf with
          | zero => intro d f w7 hlf; exact absurd hlf (Nat.not_lt_zero _)
          | succ lf ih52 =>
            intro d f w7 hlf hd hR hT h9 hF
            refine wp_n 2 (pc' := 55) (L' := [(2, 120), (0, ((a : Nat) : Int)), (0, q), (0, ((n : Nat) : Int)), (0, p), (0, y), (0, (((d + 1) : Nat) : Int)), w7]) (st' := [(0, ((n : Nat) : Int)), (0, (((d + 1) : Nat) : Int))]) (g' := f) rfl ?_
            refine wp_ic_gt rfl (fun c2 => ?_) (fun c2 => ?_)
            · have hdn : d = n := by omega
              have hRa := hR a (by omega)
              unfold RepG at hRa
              rw [hdn] at hRa
              refine wp_n 4 (pc' := 167) (L' := [(2, 120), (0, ((a : Nat) : Int)), (0, q), (0, ((n : Nat) : Int)), (0, p), (0, y), (0, (((d + 1) : Nat) : Int)), w7]) (st' := [(0, ((a : Nat) : Int)), (2, 121), (2, 120)]) (g' := f) rfl ?_
              refine wp_lald (k := 121) (a) rfl rfl (by omega) (by omega) (by decide) ?_
              refine wp_n 1 (pc' := 171) (L' := [(2, 120), (0, ((a : Nat) : Int)), (0, q), (0, ((n : Nat) : Int)), (0, p), (0, y), (0, (((d + 1) : Nat) : Int)), w7]) (st' := [(1, 1000000000), (1, (f 121 a)), (2, 120)]) (g' := f) rfl ?_
              refine wp_ldiv rfl (by omega) (by omega) (by omega) ?_
              refine wp_eq (L' := [(2, 120), (0, ((a : Nat) : Int)), (0, q), (0, ((n : Nat) : Int)), (0, p), (0, y), (0, (((d + 1) : Nat) : Int)), w7]) (st' := [(1, ((f 121 a) / 1000000000)), (2, 120)]) (g' := f) ?_ (by rfl) (by rw [Int.tdiv_eq_ediv_of_nonneg hRa.2.1]) (by rfl)
              refine wp_n 2 (pc' := 176) (L' := [(2, 120), (0, ((a : Nat) : Int)), (0, q), (0, ((n : Nat) : Int)), (0, p), (0, y), (0, (((d + 1) : Nat) : Int)), w7]) (st' := []) (g' := (am_up f 120 8 ((f 121 a) / 1000000000))) rfl ?_
              exact wp_ret rfl rfl rfl ⟨_, rfl, by rw [up_eq]; omega, by rw [up_nj (by decide), h9, hdn], fun c j hc => by rw [up_no (by unfold Sq at hc; omega)]; exact hF c j (by unfold Sq at hc; omega) (by unfold Sq at hc; omega)⟩
            · have hd9 : d < 10 := by omega
              refine wp_n 9 (pc' := 73) (L' := [(2, 120), (0, ((a : Nat) : Int)), (0, q), (0, ((n : Nat) : Int)), (0, p), (0, y), (0, (((d + 1) : Nat) : Int)), w7]) (st' := [(0, 41), (0, 0), (2, 123), (0, 0), (2, 121)]) (g' := f) rfl ?_
              refine wp_cpy (a := 0) (b := 0) (c := 41) (src := 121) (dst := 123) rfl rfl rfl (by decide) rfl rfl rfl (by omega) (by omega) (by decide) (by decide) (by decide) ?_
              refine wp_n 9 (pc' := 91) (L' := [(2, 120), (0, ((a : Nat) : Int)), (0, q), (0, ((n : Nat) : Int)), (0, p), (0, y), (0, (((d + 1) : Nat) : Int)), w7]) (st' := [(0, 41), (0, 0), (2, 124), (0, 0), (2, 122)]) (g' := (am_cp f 121 0 123 0 41)) rfl ?_
              refine wp_cpy (a := 0) (b := 0) (c := 41) (src := 122) (dst := 124) rfl rfl rfl (by decide) rfl rfl rfl (by omega) (by omega) (by decide) (by decide) (by decide) ?_
              refine wp_n 2 (pc' := 97) (L' := [(2, 120), (0, ((a : Nat) : Int)), (0, q), (0, ((n : Nat) : Int)), (0, p), (0, y), (0, (((d + 1) : Nat) : Int)), (0, 0)]) (st' := []) (g' := (am_cp (am_cp f 121 0 123 0 41) 122 0 124 0 41)) rfl ?_
              have L97 : ∀ (lf : Nat) (i : Nat) (f3 : am_G), q.toNat - i < lf → ((i : Int) ≤ q) → (∀ j : Nat, j < i → RepG (f3 121) (f3 122) y q p (d + 1) j) → (∀ j : Nat, j < 41 → q ≤ (j : Int) → f3 121 j = 1000000000000000 ∧ f3 122 j = 0) → (∀ j : Nat, j < 41 → f3 123 j = f 121 j ∧ f3 124 j = f 122 j) → (f3 120 9 = if a < i then ((gmx (gT y p (gR y q p d) a) a : Nat) : Int) else gF y q p a d) → ((∀ c j, ¬ (c = 120 ∧ j < 12) → (c < 121 ∨ 124 < c) → f3 c j = g c j)) → Wp sn sx 2 T44 97 [(2, 120), (0, ((a : Nat) : Int)), (0, q), (0, ((n : Nat) : Int)), (0, p), (0, y), (0, (((d + 1) : Nat) : Int)), (0, ((i : Nat) : Int))] [] (SH b) f3 (fun r => ∃ g', r = (none, SH b, g') ∧ g' 120 8 = (gR y q p n a * 1000 ^ (10 - n) / 1000000000000000000000000) ∧ g' 120 9 = gF y q p a n ∧ FrQ g g') := by
                intro lf
                induction lf with
                | zero => intro i f3 hlf; exact absurd hlf (Nat.not_lt_zero _)
                | succ lf ih97 =>
                  intro i f3 hlf hi hN hU h3 h9i hFi
                  refine wp_n 2 (pc' := 100) (L' := [(2, 120), (0, ((a : Nat) : Int)), (0, q), (0, ((n : Nat) : Int)), (0, p), (0, y), (0, (((d + 1) : Nat) : Int)), (0, ((i : Nat) : Int))]) (st' := [(0, q), (0, ((i : Nat) : Int))]) (g' := f3) rfl ?_
                  refine wp_ic_ge rfl (fun c3 => ?_) (fun c3 => ?_)
                  · refine wp_n 2 (pc' := 52) (L' := [(2, 120), (0, ((a : Nat) : Int)), (0, q), (0, ((n : Nat) : Int)), (0, p), (0, y), (0, ((((d + 1) : Nat) : Int) + 1)), (0, ((i : Nat) : Int))]) (st' := []) (g' := f3) rfl ?_
                    refine wp_eq (ih52 (d + 1) (f3) ((0, ((i : Nat) : Int))) ?_ ?_ ?_ ?_ ?_ ?_) (by first | rfl | (simp; done) | (simp; omega)) (by rfl) (by rfl)
                    · omega
                    · omega
                    · intro j hj
                      by_cases e : q ≤ (j : Int)
                      · exact rep_top (by omega) e (hU j hj (by omega)).1 (hU j hj (by omega)).2
                      · exact hN j (by omega)
                    · intro j hj e
                      exact hU j hj (by omega)
                    · rw [h9i, gF_s]; by_cases e : q ≤ (a : Int)
                      · rw [if_pos e, if_neg (by omega)]; cases d with
                        | zero => rfl
                        | succ d => rw [gF_s, if_pos e]
                      · rw [if_neg e, if_pos (by omega)]
                    · exact hFi
                  · have hRf : ∀ j, j < 41 → RepG (f3 123) (f3 124) y q p d j := fun j hj => by unfold RepG; rw [(h3 j hj).1, (h3 j hj).2]; exact hR j hj
                    have hHv : Hv f3 := fun j hj => (hRf j hj).2
                    refine wp_n 4 (pc' := 110) (L' := [(2, 120), (0, ((a : Nat) : Int)), (0, q), (0, ((n : Nat) : Int)), (0, p), (0, y), (0, (((d + 1) : Nat) : Int)), (0, ((i : Nat) : Int))]) (st' := [(0, y), (0, p), (0, ((i : Nat) : Int)), (2, 120)]) (g' := f3) rfl ?_
                    refine wp_cv (as := [(2, 120), (0, ((i : Nat) : Int)), (0, p), (0, y)]) (rest := []) rfl rfl rfl (Nat.le_of_ble_eq_true rfl) rfl (e_stakeBest (a := i) (p := p) (y := y) (by omega) hp hy hHv) (by decide) (fun r4 h5 => ?_)
                    obtain ⟨g110, rfl, hF110, hB110, hV110, hS110⟩ := h5
                    have hG : ∀ c j, ¬ (c = 120 ∧ 4 ≤ j ∧ j ≤ 6) → g110 c j = f3 c j := hF110
                    have hgm : gmx (hw f3 p y i) i = gmx (gT y p (gR y q p d) i) i := gmx_sc (K := 1000 ^ (10 - (d + 1))) (Int.pow_pos (by decide)) fun j _ => hw_gT hd9 (by omega) hRf
                    refine wp_eq (L' := [(2, 120), (0, ((a : Nat) : Int)), (0, q), (0, ((n : Nat) : Int)), (0, p), (0, y), (0, (((d + 1) : Nat) : Int)), (0, ((i : Nat) : Int))]) (st' := []) (g' := g110) ?_
                    refine wp_n 5 (pc' := 123) (L' := [(2, 120), (0, ((a : Nat) : Int)), (0, q), (0, ((n : Nat) : Int)), (0, p), (0, y), (0, (((d + 1) : Nat) : Int)), (0, ((i : Nat) : Int))]) (st' := [(1, (g110 120 4)), (0, ((i : Nat) : Int)), (2, 121)]) (g' := g110) rfl ?_
                    refine wp_last (k := 121) (i) rfl rfl (by omega) (by omega) (by decide) ?_
                    refine wp_n 5 (pc' := 134) (L' := [(2, 120), (0, ((a : Nat) : Int)), (0, q), (0, ((n : Nat) : Int)), (0, p), (0, y), (0, (((d + 1) : Nat) : Int)), (0, ((i : Nat) : Int))]) (st' := [(1, (g110 120 5)), (0, ((i : Nat) : Int)), (2, 122)]) (g' := (am_up g110 121 i (g110 120 4))) rfl ?_
                    refine wp_last (k := 122) (i) rfl rfl (by omega) (by omega) (by decide) ?_
                    refine wp_n 2 (pc' := 138) (L' := [(2, 120), (0, ((a : Nat) : Int)), (0, q), (0, ((n : Nat) : Int)), (0, p), (0, y), (0, (((d + 1) : Nat) : Int)), (0, ((i : Nat) : Int))]) (st' := [(0, ((a : Nat) : Int)), (0, ((i : Nat) : Int))]) (g' := (am_up (am_up g110 121 i (g110 120 4)) 122 i (g110 120 5))) rfl ?_
                    refine wp_ic_ne rfl (fun c6 => ?_) (fun c6 => ?_)
                    · refine wp_n 2 (pc' := 97) (L' := [(2, 120), (0, ((a : Nat) : Int)), (0, q), (0, ((n : Nat) : Int)), (0, p), (0, y), (0, (((d + 1) : Nat) : Int)), (0, (((i : Nat) : Int) + 1))]) (st' := []) (g' := (am_up (am_up g110 121 i (g110 120 4)) 122 i (g110 120 5))) rfl ?_
                      refine wp_eq (ih97 (i + 1) ((am_up (am_up g110 121 i (g110 120 4)) 122 i (g110 120 5))) ?_ ?_ ?_ ?_ ?_ ?_ ?_) (by first | rfl | (simp; done) | (simp; omega)) (by rfl) (by rfl)
                      · omega
                      · omega
                      · intro j hj
                        by_cases e : j = i
                        · subst e
                          exact (rep_low (g := f3) hd9 (by omega) (by omega) hRf g110 hB110 hV110 (by (repeat first | rw [up_ne (by decide)] | rw [up_eq])) (by (repeat first | rw [up_ne (by decide)] | rw [up_eq]))).1
                        · have k := hN j (by omega)
                          unfold RepG at k ⊢
                          rw [← hG 121 j (by omega), ← hG 122 j (by omega)] at k
                          (repeat first | rw [up_ne (by decide)] | rw [up_nj e])
                          exact k
                      · intro j hj e
                        have k := hU j hj e
                        rw [← hG 121 j (by omega), ← hG 122 j (by omega)] at k
                        (repeat first | rw [up_ne (by decide)] | rw [up_nj (by omega)])
                        exact k
                      · intro j hj
                        have k := h3 j hj
                        rw [← hG 123 j (by omega), ← hG 124 j (by omega)] at k
                        (repeat rw [up_ne (by decide)])
                        exact k
                      · first
                        | (rw [up_eq, if_pos (by omega)]; (repeat rw [up_ne (by decide)]); rw [hS110, hgm]; exact by rw [show i = a by omega])
                        | ((repeat rw [up_ne (by decide)]); rw [hG 120 9 (by omega), h9i]; by_cases e : a < i
                           · rw [if_pos e, if_pos (by omega)]
                           · rw [if_neg e, if_neg (by omega)])
                      · exact fun c j q1 q2 => by (repeat first | rw [up_ne (by omega)] | rw [up_no (by omega)]); rw [hG c j (by omega)]; exact hFi c j q1 q2
                    · refine wp_n 6 (pc' := 97) (L' := [(2, 120), (0, ((a : Nat) : Int)), (0, q), (0, ((n : Nat) : Int)), (0, p), (0, y), (0, (((d + 1) : Nat) : Int)), (0, (((i : Nat) : Int) + 1))]) (st' := []) (g' := (am_up (am_up (am_up g110 121 i (g110 120 4)) 122 i (g110 120 5)) 120 9 (g110 120 6))) rfl ?_
                      refine wp_eq (ih97 (i + 1) ((am_up (am_up (am_up g110 121 i (g110 120 4)) 122 i (g110 120 5)) 120 9 (g110 120 6))) ?_ ?_ ?_ ?_ ?_ ?_ ?_) (by first | rfl | (simp; done) | (simp; omega)) (by rfl) (by rfl)
                      · omega
                      · omega
                      · intro j hj
                        by_cases e : j = i
                        · subst e
                          exact (rep_low (g := f3) hd9 (by omega) (by omega) hRf g110 hB110 hV110 (by (repeat first | rw [up_ne (by decide)] | rw [up_eq])) (by (repeat first | rw [up_ne (by decide)] | rw [up_eq]))).1
                        · have k := hN j (by omega)
                          unfold RepG at k ⊢
                          rw [← hG 121 j (by omega), ← hG 122 j (by omega)] at k
                          (repeat first | rw [up_ne (by decide)] | rw [up_nj e])
                          exact k
                      · intro j hj e
                        have k := hU j hj e
                        rw [← hG 121 j (by omega), ← hG 122 j (by omega)] at k
                        (repeat first | rw [up_ne (by decide)] | rw [up_nj (by omega)])
                        exact k
                      · intro j hj
                        have k := h3 j hj
                        rw [← hG 123 j (by omega), ← hG 124 j (by omega)] at k
                        (repeat rw [up_ne (by decide)])
                        exact k
                      · first
                        | (rw [up_eq, if_pos (by omega)]; (repeat rw [up_ne (by decide)]); rw [hS110, hgm]; exact by rw [show i = a by omega])
                        | ((repeat rw [up_ne (by decide)]); rw [hG 120 9 (by omega), h9i]; by_cases e : a < i
                           · rw [if_pos e, if_pos (by omega)]
                           · rw [if_neg e, if_neg (by omega)])
                      · exact fun c j q1 q2 => by (repeat first | rw [up_ne (by omega)] | rw [up_no (by omega)]); rw [hG c j (by omega)]; exact hFi c j q1 q2
              refine wp_eq (L97 (_ + 1) (0) ((am_cp (am_cp f 121 0 123 0 41) 122 0 124 0 41)) (Nat.lt_succ_self _) ?_ ?_ ?_ ?_ ?_ ?_) (by first | rfl | (simp; done) | (simp; omega)) (by rfl) (by rfl)
              · omega
              · exact fun j hj => absurd hj (Nat.not_lt_zero _)
              · intro j hj e
                have := hT j hj e
                (repeat first | rw [cp_ne (by decide)])
                exact this
              · intro j hj
                constructor
                · rw [cp_ne (by decide), cp_in0 hj]
                · rw [cp_in0 hj, cp_ne (by decide)]
              · rw [if_neg (by omega), cp_ne (by decide), cp_ne (by decide)]; exact h9
              · exact fun c j q1 q2 => by rw [cp_ne (by omega), cp_ne (by omega)]; exact hF c j q1 q2
        refine wp_eq (L52 (_ + 1) (0) ((am_up f 120 9 0)) ((9, 0)) (Nat.lt_succ_self _) ?_ ?_ ?_ ?_ ?_) (by first | rfl | (simp; done) | (simp; omega)) (by rfl) (by rfl)
        · exact Nat.zero_le _
        · intro j hj
          have := hA j (by omega)
          by_cases e : q ≤ (j : Int)
          · rw [if_pos e] at this
            exact rep_top (by omega) e (by rw [up_ne (by decide)]; exact this.1) (by rw [up_ne (by decide)]; exact this.2)
          · rw [if_neg e] at this
            refine ⟨?_, ?_⟩
            · rw [up_ne (by decide), up_ne (by decide), gR_0, if_neg e, this.1, this.2, Int.zero_mul]; rfl
            · rw [up_ne (by decide), up_ne (by decide), this.1, this.2]; decide
        · intro j hj e
          have := hA j (by omega)
          rw [if_pos e] at this
          rw [up_ne (by decide), up_ne (by decide)]
          exact this
        · rw [up_eq]; rfl
        · exact fun c j q1 q2 => by rw [up_no (by omega)]; exact hF c j q1 q2
      · refine wp_n 5 (pc' := 19) (L' := [(2, 120), (0, ((a : Nat) : Int)), (0, q), (0, ((n : Nat) : Int)), (0, p), (0, y), (0, ((i : Nat) : Int)), (9, 0)]) (st' := [(0, q), (0, ((i : Nat) : Int)), (0, ((i : Nat) : Int)), (2, 121)]) (g' := f) rfl ?_
        refine wp_ic_lt rfl (fun c7 => ?_) (fun c7 => ?_)
        · refine wp_n 1 (pc' := 29) (L' := [(2, 120), (0, ((a : Nat) : Int)), (0, q), (0, ((n : Nat) : Int)), (0, p), (0, y), (0, ((i : Nat) : Int)), (9, 0)]) (st' := [(1, 0), (0, ((i : Nat) : Int)), (2, 121)]) (g' := f) rfl ?_
          refine wp_last (k := 121) (i) rfl rfl (by omega) (by omega) (by decide) ?_
          refine wp_n 4 (pc' := 37) (L' := [(2, 120), (0, ((a : Nat) : Int)), (0, q), (0, ((n : Nat) : Int)), (0, p), (0, y), (0, ((i : Nat) : Int)), (9, 0)]) (st' := [(1, 0), (0, ((i : Nat) : Int)), (2, 122)]) (g' := (am_up f 121 i 0)) rfl ?_
          refine wp_last (k := 122) (i) rfl rfl (by omega) (by omega) (by decide) ?_
          refine wp_n 2 (pc' := 3) (L' := [(2, 120), (0, ((a : Nat) : Int)), (0, q), (0, ((n : Nat) : Int)), (0, p), (0, y), (0, (((i : Nat) : Int) + 1)), (9, 0)]) (st' := []) (g' := (am_up (am_up f 121 i 0) 122 i 0)) rfl ?_
          refine wp_eq (ih3 (i + 1) ((am_up (am_up f 121 i 0) 122 i 0)) ?_ ?_ ?_ ?_) (by first | rfl | (simp; done) | (simp; omega)) (by rfl) (by rfl)
          · omega
          · omega
          · intro j hj
            by_cases e : j = i
            · subst e; rw [up_ne (by decide), up_eq, up_eq]; first | (rw [if_pos (by omega)]; exact ⟨rfl, rfl⟩) | (rw [if_neg (by omega)]; exact ⟨rfl, rfl⟩)
            · rw [up_ne (by decide), up_nj e, up_nj e, up_ne (by decide)]; exact hA j (by omega)
          · exact fun c j q1 q2 => by rw [up_ne (by omega), up_ne (by omega)]; exact hF c j q1 q2
        · refine wp_n 2 (pc' := 29) (L' := [(2, 120), (0, ((a : Nat) : Int)), (0, q), (0, ((n : Nat) : Int)), (0, p), (0, y), (0, ((i : Nat) : Int)), (9, 0)]) (st' := [(1, 1000000000000000), (0, ((i : Nat) : Int)), (2, 121)]) (g' := f) rfl ?_
          refine wp_last (k := 121) (i) rfl rfl (by omega) (by omega) (by decide) ?_
          refine wp_n 4 (pc' := 37) (L' := [(2, 120), (0, ((a : Nat) : Int)), (0, q), (0, ((n : Nat) : Int)), (0, p), (0, y), (0, ((i : Nat) : Int)), (9, 0)]) (st' := [(1, 0), (0, ((i : Nat) : Int)), (2, 122)]) (g' := (am_up f 121 i 1000000000000000)) rfl ?_
          refine wp_last (k := 122) (i) rfl rfl (by omega) (by omega) (by decide) ?_
          refine wp_n 2 (pc' := 3) (L' := [(2, 120), (0, ((a : Nat) : Int)), (0, q), (0, ((n : Nat) : Int)), (0, p), (0, y), (0, (((i : Nat) : Int) + 1)), (9, 0)]) (st' := []) (g' := (am_up (am_up f 121 i 1000000000000000) 122 i 0)) rfl ?_
          refine wp_eq (ih3 (i + 1) ((am_up (am_up f 121 i 1000000000000000) 122 i 0)) ?_ ?_ ?_ ?_) (by first | rfl | (simp; done) | (simp; omega)) (by rfl) (by rfl)
          · omega
          · omega
          · intro j hj
            by_cases e : j = i
            · subst e; rw [up_ne (by decide), up_eq, up_eq]; first | (rw [if_pos (by omega)]; exact ⟨rfl, rfl⟩) | (rw [if_neg (by omega)]; exact ⟨rfl, rfl⟩)
            · rw [up_ne (by decide), up_nj e, up_nj e, up_ne (by decide)]; exact hA j (by omega)
          · exact fun c j q1 q2 => by rw [up_ne (by omega), up_ne (by omega)]; exact hF c j q1 q2
  refine wp_eq (L3 (_ + 1) (0) (g) (Nat.lt_succ_self _) ?_ ?_ ?_) (by first | rfl | (simp; done) | (simp; omega)) (by rfl) (by rfl)
  · exact Nat.zero_le _
  · exact fun j hj => absurd hj (Nat.not_lt_zero _)
  · exact fun _ _ _ _ => rfl
