/-! THE REFERENCE'S NUMBERS: product and into -/
def PN (t : Nat) (S : Nat → Int) (x : Int) (i : Nat) (h0 h : am_G) (k : Nat) (c : Int) : Prop := i + k ≤ 100 ∧ (0 ≤ c ∧ c ≤ 9999) ∧ FrM t h0 h ∧ (∀ j, i + k ≤ j → j < 100 → h 136 (100 * t + j) = h0 136 (100 * t + j)) ∧ ML h t ∧ mval (MG h t) (i + k) + c * 10000 ^ (i + k) = mval (MG h0 t) (i + k) + x * 10000 ^ i * mval S k
theorem pn_v {l x y c : Int} (hl : 0 ≤ l ∧ l < 10000) (hx : 0 ≤ x ∧ x < 10000) (hy : 0 ≤ y ∧ y < 10000) (hc : 0 ≤ c ∧ c ≤ 9999) : 0 ≤ c + (l + x * y) ∧ c + (l + x * y) < 100000000 := by
  have h1 := Int.mul_nonneg hx.1 hy.1
  have h2 := Int.mul_le_mul (show x ≤ 9999 by omega) (show y ≤ 9999 by omega) hy.1 (by decide)
  omega
theorem pn_zero {t : Nat} {S : Nat → Int} {x : Int} {i : Nat} {h : am_G} (hL : ML h t) (hi : i ≤ 100) : PN t S x i h h 0 0 := ⟨by omega, by decide, FrM.rfl, fun _ _ _ => rfl, hL, by show _ + 0 * _ = _ + _ * 0; rw [Int.zero_mul, Int.mul_zero]⟩
theorem pn_alg {P S q1 q2 x f l c Bi Bj V : Int} (e : 10000 * q1 + q2 = c + (l + x * f)) (h : P + c * (Bi * Bj) = S + x * Bi * V) : P + q2 * (Bi * Bj) + q1 * (Bi * Bj * 10000) = S + l * (Bi * Bj) + x * Bi * (V + f * Bj) := by
  have e2 : q2 = c + (l + x * f) - 10000 * q1 := by omega
  have e3 : P = S + x * Bi * V - c * (Bi * Bj) := by omega
  rw [e2, e3]
  grind
theorem pn_nxt {t : Nat} {S : Nat → Int} {x v : Int} {i k : Nat} {c : Int} {h0 h : am_G} (H : PN t S x i h0 h k c) (hk : i + k < 100) (hx : 0 ≤ x ∧ x < 10000) (hS : 0 ≤ S k ∧ S k < 10000) (hv : v = c + (h 136 (100 * t + (i + k)) + x * S k)) : PN t S x i h0 (am_up h 136 (100 * t + (i + k)) (v % 10000)) (k + 1) (v / 10000) := by
  obtain ⟨h1, h2, h3, h4, h5, h6⟩ := H
  have hl := h5 (i + k) hk
  have hw := pn_v hl hx hS h2
  rw [← hv] at hw
  refine ⟨by omega, by omega, h3.up hk, fun q hq hq2 => ?_, h5.up (by omega), ?_⟩
  · rw [up_nj (by omega)]; exact h4 q (by omega) hq2
  · rw [show i + (k + 1) = i + k + 1 from rfl, mval_suc, mval_suc, mval_suc, mg_eq, mg_lo (Nat.le_refl _), m_suc]
    have e0 : MG h0 t (i + k) = h 136 (100 * t + (i + k)) := (h4 (i + k) (Nat.le_refl _) hk).symm
    rw [e0]
    have e := Int.mul_ediv_add_emod v 10000
    rw [Int.pow_add] at h6 ⊢
    rw [hv] at e ⊢
    exact pn_alg e h6
def PO (t : Nat) (R : Nat → Int) (w : Int) (g h : am_G) (i : Nat) : Prop := i ≤ 100 ∧ FrM t g h ∧ ML h t ∧ mval (MG h t) 100 = mval R i * w
theorem po_skip {t i : Nat} {R : Nat → Int} {w : Int} {g h : am_G} (H : PO t R w g h i) (hi : i < 100) (h0 : R i = 0) : PO t R w g h (i + 1) := by
  refine ⟨by omega, H.2.1, H.2.2.1, ?_⟩
  rw [mval_suc R i, h0, Int.zero_mul, Int.add_zero]
  exact H.2.2.2
theorem po_nxt {t i : Nat} {R S : Nat → Int} {v w c : Int} {g h0 h : am_G} (H : PO t R w g h0 i) (X : PN t S (R i) i h0 h (100 - i) c) (hi : i < 100) (hR : ∀ j, j < 100 → 0 ≤ R j ∧ R j < 10000) (hS : ∀ j, j < 100 → 0 ≤ S j ∧ S j < 10000) (hv : mval R 100 = v) (hw : mval S 100 = w) (hx : 0 < R i) (ho : v * w < 10000 ^ 100) : PO t R w g h (i + 1) := by
  obtain ⟨h1, h2, h3, h4⟩ := H
  obtain ⟨x1, x2, x3, x4, x5, x6⟩ := X
  have w0 := mval_in hS
  rw [hw] at w0
  have e : mval R i * w + R i * 10000 ^ i * w = mval R (i + 1) * w := by rw [mval_suc, Int.add_mul]
  have a1 := mval_mono hR (show i + 1 ≤ 100 by omega)
  have a3 := Int.mul_le_mul_of_nonneg_right a1 w0.1
  rw [hv] at a3
  have r0 := mval_in (f := R) (n := i) fun j hj => hR j (by omega)
  have hcut : mval S (100 - i) = w := by
    rw [← hw]
    refine mval_cut hS (by omega) ?_
    rw [hw]
    by_cases hc : w < 10000 ^ (100 - i)
    · exact hc
    have b1 := Int.mul_le_mul_of_nonneg_left (show (10000 : Int) ^ (100 - i) ≤ w by omega) (Int.le_of_lt (m_pos i))
    rw [← Int.pow_add, show i + (100 - i) = 100 by omega] at b1
    have b2 := Int.mul_le_mul_of_nonneg_right (show 1 ≤ R i by omega) (Int.mul_nonneg (Int.le_of_lt (m_pos i)) w0.1)
    rw [Int.one_mul, ← Int.mul_assoc] at b2
    have b3 := Int.mul_nonneg r0.1 w0.1
    omega
  rw [show i + (100 - i) = 100 by omega, hcut, h4, e] at x6
  have a5 := mval_in (f := MG h t) (n := 100) fun j hj => x5 j hj
  have : c = 0 := by
    by_cases hc : c = 0
    · exact hc
    have := Int.mul_le_mul_of_nonneg_right (show 1 ≤ c by omega) (Int.le_of_lt (m_pos 100))
    omega
  subst this
  rw [Int.zero_mul, Int.add_zero] at x6
  exact ⟨by omega, h2.trans x3, x5, x6⟩
set_option maxHeartbeats 400000 in
set_option maxRecDepth 20000 in
theorem m_product {sn : Nat} {sx : Nat → Int} {b : Nat} {g : am_G} {r s t : Nat} {v w : Int} (hr : r < 130) (hs : s < 130) (ht : t < 130) (hn : r ≠ t) (hn2 : s ≠ t) (hB : MR g r v) (hW : MR g s w) (ho : v * w < 10000 ^ 100) : Ev sn sx 2 209 [(2, 127), (0, ((r : Nat) : Int)), (0, ((s : Nat) : Int)), (0, ((t : Nat) : Int))] (SH b) g (fun x => ∃ g', x = (none, SH b, g') ∧ MR g' t (v * w) ∧ FrM t g g') := by
  refine ev_of (K := 1) T209 (by decide) rfl rfl (Nat.le_of_ble_eq_true rfl) ?_
  refine wp_eq (L' := [(2, 127), (0, ((r : Nat) : Int)), (0, ((s : Nat) : Int)), (0, ((t : Nat) : Int)), (9, 0), (9, 0), (9, 0), (9, 0), (9, 0)]) (st' := []) (g' := g) ?_
  refine wp_n 3 (pc' := 3) (L' := [(2, 127), (0, ((r : Nat) : Int)), (0, ((s : Nat) : Int)), (0, ((t : Nat) : Int)), (9, 0), (9, 0), (9, 0), (9, 0), (9, 0)]) (st' := [(0, 0), (0, ((t : Nat) : Int)), (2, 127)]) (g' := g) rfl ?_
  refine wp_cv (as := [(2, 127), (0, ((t : Nat) : Int)), (0, 0)]) (rest := []) rfl rfl rfl (Nat.le_of_ble_eq_true rfl) rfl (m_put (r := t) (by omega) (by omega)) (by decide) (fun r1 h2 => ?_)
  obtain ⟨g3, rfl, hR3, hF3⟩ := h2
  have hB3 := hB.fr hF3 hn
  have hW3 := hW.fr hF3 hn2
  refine wp_eq (L' := [(2, 127), (0, ((r : Nat) : Int)), (0, ((s : Nat) : Int)), (0, ((t : Nat) : Int)), (9, 0), (9, 0), (9, 0), (9, 0), (9, 0)]) (st' := []) (g' := g3) ?_
  refine wp_n 2 (pc' := 9) (L' := [(2, 127), (0, ((r : Nat) : Int)), (0, ((s : Nat) : Int)), (0, ((t : Nat) : Int)), (0, 0), (9, 0), (9, 0), (9, 0), (9, 0)]) (st' := []) (g' := g3) rfl ?_
  have L9 : ∀ (lf : Nat) (i : Nat) (h : am_G) (w5 w6 w8 : am_V), 100 - i < lf → (PO t (MG g3 r) w g3 h i) → Wp sn sx 1 T209 9 [(2, 127), (0, ((r : Nat) : Int)), (0, ((s : Nat) : Int)), (0, ((t : Nat) : Int)), (0, ((i : Nat) : Int)), w5, w6, (9, 0), w8] [] (SH b) h (fun x => ∃ g', x = (none, SH b, g') ∧ MR g' t (v * w) ∧ FrM t g g') := by
    intro lf
    induction lf with
    | zero => intro i h w5 w6 w8 hlf; exact absurd hlf (Nat.not_lt_zero _)
    | succ lf ih9 =>
      intro i h w5 w6 w8 hlf hH
      have hi := hH.1
      refine wp_n 2 (pc' := 13) (L' := [(2, 127), (0, ((r : Nat) : Int)), (0, ((s : Nat) : Int)), (0, ((t : Nat) : Int)), (0, ((i : Nat) : Int)), w5, w6, (9, 0), w8]) (st' := [(0, 100), (0, ((i : Nat) : Int))]) (g' := h) rfl ?_
      refine wp_ic_ge rfl (fun c3 => ?_) (fun c3 => ?_)
      · have hi2 : i = 100 := by omega
        exact wp_ret rfl rfl rfl ⟨_, rfl, ⟨hH.2.2.1, by rw [hH.2.2.2, hi2]; exact congrArg (fun q => q * w) hB3.2⟩, hF3.trans hH.2.1⟩
      · have hxe : h 136 (100 * r + i) = MG g3 r i := hH.2.1.at hn (by omega)
        have hxb : 0 ≤ MG g3 r i ∧ MG g3 r i < 10000 := hB3.1 i (by omega)
        refine wp_n 7 (pc' := 27) (L' := [(2, 127), (0, ((r : Nat) : Int)), (0, ((s : Nat) : Int)), (0, ((t : Nat) : Int)), (0, ((i : Nat) : Int)), w5, w6, (9, 0), w8]) (st' := [(0, ((100 * ((r : Nat) : Int)) + ((i : Nat) : Int))), (2, 136)]) (g' := h) rfl ?_
        refine wp_iald (k := 136) (((100 * r) + i)) rfl rfl (by omega) (by omega) (by decide) ?_
        refine wp_eq (L' := [(2, 127), (0, ((r : Nat) : Int)), (0, ((s : Nat) : Int)), (0, ((t : Nat) : Int)), (0, ((i : Nat) : Int)), w5, w6, (9, 0), w8]) (st' := [(0, (MG g3 r i))]) (g' := h) ?_ (by rfl) (by rw [← hxe]) (by rfl)
        refine wp_n 5 (pc' := 36) (L' := [(2, 127), (0, ((r : Nat) : Int)), (0, ((s : Nat) : Int)), (0, ((t : Nat) : Int)), (0, ((i : Nat) : Int)), (0, (MG g3 r i)), (1, 0), (9, 0), (0, 0)]) (st' := []) (g' := h) rfl ?_
        have L36 : ∀ (lf : Nat) (k : Nat) (c : Int) (q : am_G), 100 - k < lf → (PN t (MG g3 s) (MG g3 r i) i h q k c) → (MG g3 r i = 0 → q = h) → Wp sn sx 1 T209 36 [(2, 127), (0, ((r : Nat) : Int)), (0, ((s : Nat) : Int)), (0, ((t : Nat) : Int)), (0, ((i : Nat) : Int)), (0, (MG g3 r i)), (1, c), (9, 0), (0, ((k : Nat) : Int))] [] (SH b) q (fun x => ∃ g', x = (none, SH b, g') ∧ MR g' t (v * w) ∧ FrM t g g') := by
          intro lf
          induction lf with
          | zero => intro k c q hlf; exact absurd hlf (Nat.not_lt_zero _)
          | succ lf ih36 =>
            intro k c q hlf hX hx0
            have hk := hX.1
            have hc := hX.2.1
            refine wp_n 1 (pc' := 38) (L' := [(2, 127), (0, ((r : Nat) : Int)), (0, ((s : Nat) : Int)), (0, ((t : Nat) : Int)), (0, ((i : Nat) : Int)), (0, (MG g3 r i)), (1, c), (9, 0), (0, ((k : Nat) : Int))]) (st' := [(0, (MG g3 r i))]) (g' := q) rfl ?_
            refine wp_if_le rfl (fun c4 => ?_) (fun c4 => ?_)
            · have hY2 : PO t (MG g3 r) w g3 q (i + 1) := by rw [hx0 (by omega)]; exact po_skip hH (by omega) (by omega)
              refine wp_n 2 (pc' := 9) (L' := [(2, 127), (0, ((r : Nat) : Int)), (0, ((s : Nat) : Int)), (0, ((t : Nat) : Int)), (0, (((i : Nat) : Int) + 1)), (0, (MG g3 r i)), (1, c), (9, 0), (0, ((k : Nat) : Int))]) (st' := []) (g' := q) rfl ?_
              refine wp_eq (ih9 (i + 1) (q) ((0, (MG g3 r i))) ((1, c)) ((0, ((k : Nat) : Int))) ?_ ?_) (by first | rfl | (simp; done) | (simp; omega)) (by rfl) (by rfl)
              · omega
              · first | exact hY | exact hY2
            · refine wp_n 4 (pc' := 48) (L' := [(2, 127), (0, ((r : Nat) : Int)), (0, ((s : Nat) : Int)), (0, ((t : Nat) : Int)), (0, ((i : Nat) : Int)), (0, (MG g3 r i)), (1, c), (9, 0), (0, ((k : Nat) : Int))]) (st' := [(0, 100), (0, (((i : Nat) : Int) + ((k : Nat) : Int)))]) (g' := q) rfl ?_
              refine wp_ic_ge rfl (fun c5 => ?_) (fun c5 => ?_)
              · have hk2 : k = 100 - i := by omega
                have hY := po_nxt hH (by rw [hk2] at hX; exact hX) (by omega) (fun j hj => hB3.1 j hj) (fun j hj => hW3.1 j hj) hB3.2 hW3.2 (by omega) ho
                refine wp_n 2 (pc' := 9) (L' := [(2, 127), (0, ((r : Nat) : Int)), (0, ((s : Nat) : Int)), (0, ((t : Nat) : Int)), (0, (((i : Nat) : Int) + 1)), (0, (MG g3 r i)), (1, c), (9, 0), (0, ((k : Nat) : Int))]) (st' := []) (g' := q) rfl ?_
                refine wp_eq (ih9 (i + 1) (q) ((0, (MG g3 r i))) ((1, c)) ((0, ((k : Nat) : Int))) ?_ ?_) (by first | rfl | (simp; done) | (simp; omega)) (by rfl) (by rfl)
                · omega
                · first | exact hY | exact hY2
              · have hl := hX.2.2.2.2.1 (i + k) (by omega)
                have hyk : q 136 (100 * s + k) = g3 136 (100 * s + k) := (hX.2.2.1.at hn2 (by omega)).trans (hH.2.1.at hn2 (by omega))
                have hyb : 0 ≤ q 136 (100 * s + k) ∧ q 136 (100 * s + k) < 10000 := by rw [hyk]; exact hW3.1 k (by omega)
                have hv := pn_v hl hxb hyb hc
                refine wp_n 10 (pc' := 67) (L' := [(2, 127), (0, ((r : Nat) : Int)), (0, ((s : Nat) : Int)), (0, ((t : Nat) : Int)), (0, ((i : Nat) : Int)), (0, (MG g3 r i)), (1, c), (9, 0), (0, ((k : Nat) : Int))]) (st' := [(0, (((100 * ((t : Nat) : Int)) + ((i : Nat) : Int)) + ((k : Nat) : Int))), (2, 136), (1, c)]) (g' := q) rfl ?_
                refine wp_iald (k := 136) ((100 * t + (i + k))) rfl rfl (by omega) (by omega) (by decide) ?_
                refine wp_i2l rfl (by omega) ?_
                refine wp_n 1 (pc' := 71) (L' := [(2, 127), (0, ((r : Nat) : Int)), (0, ((s : Nat) : Int)), (0, ((t : Nat) : Int)), (0, ((i : Nat) : Int)), (0, (MG g3 r i)), (1, c), (9, 0), (0, ((k : Nat) : Int))]) (st' := [(0, (MG g3 r i)), (1, (q 136 (100 * t + (i + k)))), (1, c)]) (g' := q) rfl ?_
                refine wp_i2l rfl (by omega) ?_
                refine wp_n 7 (pc' := 83) (L' := [(2, 127), (0, ((r : Nat) : Int)), (0, ((s : Nat) : Int)), (0, ((t : Nat) : Int)), (0, ((i : Nat) : Int)), (0, (MG g3 r i)), (1, c), (9, 0), (0, ((k : Nat) : Int))]) (st' := [(0, ((100 * ((s : Nat) : Int)) + ((k : Nat) : Int))), (2, 136), (1, (MG g3 r i)), (1, (q 136 (100 * t + (i + k)))), (1, c)]) (g' := q) rfl ?_
                refine wp_iald (k := 136) (((100 * s) + k)) rfl rfl (by omega) (by omega) (by decide) ?_
                refine wp_i2l rfl (by omega) ?_
                refine wp_n 15 (pc' := 109) (L' := [(2, 127), (0, ((r : Nat) : Int)), (0, ((s : Nat) : Int)), (0, ((t : Nat) : Int)), (0, ((i : Nat) : Int)), (0, (MG g3 r i)), (1, (c + ((q 136 (100 * t + (i + k))) + ((MG g3 r i) * (q 136 ((100 * s) + k)))))), (9, 0), (0, ((k : Nat) : Int))]) (st' := [(1, 10000), (1, (c + ((q 136 (100 * t + (i + k))) + ((MG g3 r i) * (q 136 ((100 * s) + k)))))), (0, (((100 * ((t : Nat) : Int)) + ((i : Nat) : Int)) + ((k : Nat) : Int))), (2, 136)]) (g' := q) rfl ?_
                refine wp_lrem rfl (by omega) (by omega) (by omega) ?_
                refine wp_eq (L' := [(2, 127), (0, ((r : Nat) : Int)), (0, ((s : Nat) : Int)), (0, ((t : Nat) : Int)), (0, ((i : Nat) : Int)), (0, (MG g3 r i)), (1, (c + ((q 136 (100 * t + (i + k))) + ((MG g3 r i) * (q 136 ((100 * s) + k)))))), (9, 0), (0, ((k : Nat) : Int))]) (st' := [(1, ((c + ((q 136 (100 * t + (i + k))) + ((MG g3 r i) * (q 136 ((100 * s) + k))))) % 10000)), (0, (((100 * ((t : Nat) : Int)) + ((i : Nat) : Int)) + ((k : Nat) : Int))), (2, 136)]) (g' := q) ?_ (by rfl) (by rw [Int.tmod_eq_emod_of_nonneg hv.1]) (by rfl)
                refine wp_n 1 (pc' := 111) (L' := [(2, 127), (0, ((r : Nat) : Int)), (0, ((s : Nat) : Int)), (0, ((t : Nat) : Int)), (0, ((i : Nat) : Int)), (0, (MG g3 r i)), (1, (c + ((q 136 (100 * t + (i + k))) + ((MG g3 r i) * (q 136 ((100 * s) + k)))))), (9, 0), (0, ((k : Nat) : Int))]) (st' := [(0, ((c + ((q 136 (100 * t + (i + k))) + ((MG g3 r i) * (q 136 ((100 * s) + k))))) % 10000)), (0, (((100 * ((t : Nat) : Int)) + ((i : Nat) : Int)) + ((k : Nat) : Int))), (2, 136)]) (g' := q) rfl ?_
                refine wp_iast (k := 136) ((100 * t + (i + k))) rfl rfl (by omega) (by omega) (by decide) ?_
                refine wp_n 2 (pc' := 117) (L' := [(2, 127), (0, ((r : Nat) : Int)), (0, ((s : Nat) : Int)), (0, ((t : Nat) : Int)), (0, ((i : Nat) : Int)), (0, (MG g3 r i)), (1, (c + ((q 136 (100 * t + (i + k))) + ((MG g3 r i) * (q 136 ((100 * s) + k)))))), (9, 0), (0, ((k : Nat) : Int))]) (st' := [(1, 10000), (1, (c + ((q 136 (100 * t + (i + k))) + ((MG g3 r i) * (q 136 ((100 * s) + k))))))]) (g' := (am_up q 136 ((100 * t + (i + k))) ((c + ((q 136 (100 * t + (i + k))) + ((MG g3 r i) * (q 136 ((100 * s) + k))))) % 10000))) rfl ?_
                refine wp_ldiv rfl (by omega) (by omega) (by omega) ?_
                refine wp_eq (L' := [(2, 127), (0, ((r : Nat) : Int)), (0, ((s : Nat) : Int)), (0, ((t : Nat) : Int)), (0, ((i : Nat) : Int)), (0, (MG g3 r i)), (1, (c + ((q 136 (100 * t + (i + k))) + ((MG g3 r i) * (q 136 ((100 * s) + k)))))), (9, 0), (0, ((k : Nat) : Int))]) (st' := [(1, ((c + ((q 136 (100 * t + (i + k))) + ((MG g3 r i) * (q 136 ((100 * s) + k))))) / 10000))]) (g' := (am_up q 136 ((100 * t + (i + k))) ((c + ((q 136 (100 * t + (i + k))) + ((MG g3 r i) * (q 136 ((100 * s) + k))))) % 10000))) ?_ (by rfl) (by rw [Int.tdiv_eq_ediv_of_nonneg hv.1]) (by rfl)
                refine wp_n 3 (pc' := 36) (L' := [(2, 127), (0, ((r : Nat) : Int)), (0, ((s : Nat) : Int)), (0, ((t : Nat) : Int)), (0, ((i : Nat) : Int)), (0, (MG g3 r i)), (1, ((c + ((q 136 (100 * t + (i + k))) + ((MG g3 r i) * (q 136 ((100 * s) + k))))) / 10000)), (9, 0), (0, (((k : Nat) : Int) + 1))]) (st' := []) (g' := (am_up q 136 ((100 * t + (i + k))) ((c + ((q 136 (100 * t + (i + k))) + ((MG g3 r i) * (q 136 ((100 * s) + k))))) % 10000))) rfl ?_
                refine wp_eq (ih36 (k + 1) (((c + ((q 136 (100 * t + (i + k))) + ((MG g3 r i) * (q 136 ((100 * s) + k))))) / 10000)) ((am_up q 136 ((100 * t + (i + k))) ((c + ((q 136 (100 * t + (i + k))) + ((MG g3 r i) * (q 136 ((100 * s) + k))))) % 10000))) ?_ ?_ ?_) (by first | rfl | (simp; done) | (simp; omega)) (by rfl) (by rfl)
                · omega
                · refine pn_nxt hX (by omega) hxb (hW3.1 k (by omega)) ?_
                  rw [hyk]
                  rfl
                · exact fun h => absurd h (by omega)
        refine wp_eq (L36 (_ + 1) (0) (0) (h) (Nat.lt_succ_self _) ?_ ?_) (by first | rfl | (simp; done) | (simp; omega)) (by rfl) (by rfl)
        · exact pn_zero hH.2.2.1 hi
        · exact fun _ => rfl
  refine wp_eq (L9 (_ + 1) (0) (g3) ((9, 0)) ((9, 0)) ((9, 0)) (Nat.lt_succ_self _) ?_) (by first | rfl | (simp; done) | (simp; omega)) (by rfl) (by rfl)
  · exact ⟨Nat.zero_le _, FrM.rfl, hR3.1, by rw [hR3.2]; show (0 : Int) = 0 * w; rw [Int.zero_mul]⟩
def IsInto (x w m : Int) : Prop := 0 ≤ m ∧ m ≤ 1000000 ∧ m * w ≤ x ∧ (m = 1000000 ∨ x < (m + 1) * w)
theorem into_end {v w lo hi : Int} (h0 : 0 ≤ lo) (h : lo = hi) (hh : hi ≤ 1000000) (hlw : lo * w ≤ v) (hhw : hi = 1000000 ∨ v < (hi + 1) * w) : IsInto v w lo := by
  subst h
  exact ⟨h0, hh, hlw, hhw⟩
set_option maxHeartbeats 400000 in
set_option maxRecDepth 20000 in
theorem m_into {sn : Nat} {sx : Nat → Int} {b : Nat} {g : am_G} {r s : Nat} {v w : Int} (hr : r < 126) (hs : s < 130) (hs2 : s ≠ 126) (hB : MR g r v) (hW : MR g s w) (ho : w * 1000000 < 10000 ^ 100) : Ev sn sx 2 210 [(2, 127), (0, ((r : Nat) : Int)), (0, ((s : Nat) : Int))] (SH b) g (fun x => ∃ g' m, x = (some (0, m), SH b, g') ∧ IsInto v w m ∧ FrM 126 g g') := by
  refine ev_of (K := 1) T210 (by decide) rfl rfl (Nat.le_of_ble_eq_true rfl) ?_
  refine wp_eq (L' := [(2, 127), (0, ((r : Nat) : Int)), (0, ((s : Nat) : Int)), (9, 0), (9, 0), (9, 0)]) (st' := []) (g' := g) ?_
  refine wp_n 4 (pc' := 7) (L' := [(2, 127), (0, ((r : Nat) : Int)), (0, ((s : Nat) : Int)), (0, 0), (0, 1000000), (9, 0)]) (st' := []) (g' := g) rfl ?_
  have L7 : ∀ (lf : Nat) (t : Nat) (lo hi : Int) (h : am_G) (w5 : am_V), t < lf → (hi - lo ≤ t) → (0 ≤ lo) → (lo ≤ hi) → (hi ≤ 1000000) → (lo * w ≤ v) → (hi = 1000000 ∨ v < (hi + 1) * w) → (FrM 126 g h) → Wp sn sx 1 T210 7 [(2, 127), (0, ((r : Nat) : Int)), (0, ((s : Nat) : Int)), (0, lo), (0, hi), w5] [] (SH b) h (fun x => ∃ g' m, x = (some (0, m), SH b, g') ∧ IsInto v w m ∧ FrM 126 g g') := by
    intro lf
    induction lf with
    | zero => intro t lo hi h w5 hlf; exact absurd hlf (Nat.not_lt_zero _)
    | succ lf ih7 =>
      intro t lo hi h w5 hlf hm hl0 hlh hh hlw hhw hF
      refine wp_n 2 (pc' := 10) (L' := [(2, 127), (0, ((r : Nat) : Int)), (0, ((s : Nat) : Int)), (0, lo), (0, hi), w5]) (st' := [(0, hi), (0, lo)]) (g' := h) rfl ?_
      refine wp_ic_ge rfl (fun c1 => ?_) (fun c1 => ?_)
      · refine wp_n 1 (pc' := 64) (L' := [(2, 127), (0, ((r : Nat) : Int)), (0, ((s : Nat) : Int)), (0, lo), (0, hi), w5]) (st' := [(0, lo)]) (g' := h) rfl ?_
        exact wp_ret rfl rfl rfl ⟨_, _, rfl, into_end hl0 (by omega) hh hlw hhw, hF⟩
      · refine wp_n 6 (pc' := 20) (L' := [(2, 127), (0, ((r : Nat) : Int)), (0, ((s : Nat) : Int)), (0, lo), (0, hi), w5]) (st' := [(0, 2), (0, ((lo + hi) + 1))]) (g' := h) rfl ?_
        refine wp_idiv rfl (by omega) (by omega) (by omega) ?_
        refine wp_eq (L' := [(2, 127), (0, ((r : Nat) : Int)), (0, ((s : Nat) : Int)), (0, lo), (0, hi), w5]) (st' := [(0, (((lo + hi) + 1) / 2))]) (g' := h) ?_ (by rfl) (by rw [Int.tdiv_eq_ediv_of_nonneg (show 0 ≤ lo + hi + 1 by omega)]) (by rfl)
        refine wp_n 4 (pc' := 27) (L' := [(2, 127), (0, ((r : Nat) : Int)), (0, ((s : Nat) : Int)), (0, lo), (0, hi), (0, (((lo + hi) + 1) / 2))]) (st' := [(0, 126), (0, ((s : Nat) : Int)), (2, 127)]) (g' := h) rfl ?_
        refine wp_cv (as := [(2, 127), (0, ((s : Nat) : Int)), (0, 126)]) (rest := []) rfl rfl rfl (Nat.le_of_ble_eq_true rfl) rfl (m_lay (s := s) (r := 126) (by omega) (by omega) (by omega) (hW.fr hF hs2)) (by decide) (fun r2 h3 => ?_)
        obtain ⟨g27, rfl, hR27, hF27⟩ := h3
        refine wp_eq (L' := [(2, 127), (0, ((r : Nat) : Int)), (0, ((s : Nat) : Int)), (0, lo), (0, hi), (0, (((lo + hi) + 1) / 2))]) (st' := []) (g' := g27) ?_
        refine wp_n 3 (pc' := 35) (L' := [(2, 127), (0, ((r : Nat) : Int)), (0, ((s : Nat) : Int)), (0, lo), (0, hi), (0, (((lo + hi) + 1) / 2))]) (st' := [(0, (((lo + hi) + 1) / 2)), (0, 126), (2, 127)]) (g' := g27) rfl ?_
        refine wp_cv (as := [(2, 127), (0, 126), (0, (((lo + hi) + 1) / 2))]) (rest := []) rfl rfl rfl (Nat.le_of_ble_eq_true rfl) rfl (m_times (r := 126) (by omega) hR27 (by omega) (Int.lt_of_le_of_lt (Int.mul_le_mul_of_nonneg_left (by omega) hW.nn.1) ho)) (by decide) (fun r4 h5 => ?_)
        obtain ⟨g35, rfl, hR35, hF35⟩ := h5
        refine wp_eq (L' := [(2, 127), (0, ((r : Nat) : Int)), (0, ((s : Nat) : Int)), (0, lo), (0, hi), (0, (((lo + hi) + 1) / 2))]) (st' := []) (g' := g35) ?_
        refine wp_n 3 (pc' := 42) (L' := [(2, 127), (0, ((r : Nat) : Int)), (0, ((s : Nat) : Int)), (0, lo), (0, hi), (0, (((lo + hi) + 1) / 2))]) (st' := [(0, ((r : Nat) : Int)), (0, 126), (2, 127)]) (g' := g35) rfl ?_
        refine wp_cv (as := [(2, 127), (0, 126), (0, ((r : Nat) : Int))]) (rest := []) rfl rfl rfl (Nat.le_of_ble_eq_true rfl) rfl (m_compare (r := 126) (s := r) (by omega) (by omega) hR35 (hB.fr (hF.trans (hF27.trans hF35)) (by omega))) (by decide) (fun r6 h7 => ?_)
        obtain ⟨c42, rfl, hc42⟩ := h7
        refine wp_eq (L' := [(2, 127), (0, ((r : Nat) : Int)), (0, ((s : Nat) : Int)), (0, lo), (0, hi), (0, (((lo + hi) + 1) / 2))]) (st' := [(0, c42)]) (g' := g35) ?_
        refine wp_if_gt rfl (fun c8 => ?_) (fun c8 => ?_)
        · refine wp_n 5 (pc' := 7) (L' := [(2, 127), (0, ((r : Nat) : Int)), (0, ((s : Nat) : Int)), (0, lo), (0, ((((lo + hi) + 1) / 2) - 1)), (0, (((lo + hi) + 1) / 2))]) (st' := []) (g' := g35) rfl ?_
          refine wp_eq (ih7 (t - 1) (lo) (((((lo + hi) + 1) / 2) - 1)) (g35) ((0, (((lo + hi) + 1) / 2))) ?_ ?_ ?_ ?_ ?_ ?_ ?_ ?_) (by first | rfl | (simp; done) | (simp; omega)) (by rfl) (by rfl)
          · omega
          · omega
          · omega
          · omega
          · omega
          · first | exact hlw | (rcases hc42 with ⟨_, h⟩ | ⟨_, h⟩ | ⟨_, h⟩ <;> first | omega | (rw [Int.mul_comm]; omega))
          · first | exact hhw | (refine Or.inr ?_; rcases hc42 with ⟨_, h⟩ | ⟨_, h⟩ | ⟨_, h⟩ <;> first | omega | (rw [Int.sub_add_cancel, Int.mul_comm]; omega))
          · exact hF.trans (hF27.trans hF35)
        · refine wp_n 4 (pc' := 7) (L' := [(2, 127), (0, ((r : Nat) : Int)), (0, ((s : Nat) : Int)), (0, (((lo + hi) + 1) / 2)), (0, hi), (0, (((lo + hi) + 1) / 2))]) (st' := []) (g' := g35) rfl ?_
          refine wp_eq (ih7 (t - 1) ((((lo + hi) + 1) / 2)) (hi) (g35) ((0, (((lo + hi) + 1) / 2))) ?_ ?_ ?_ ?_ ?_ ?_ ?_ ?_) (by first | rfl | (simp; done) | (simp; omega)) (by rfl) (by rfl)
          · omega
          · omega
          · omega
          · omega
          · omega
          · first | exact hlw | (rcases hc42 with ⟨_, h⟩ | ⟨_, h⟩ | ⟨_, h⟩ <;> first | omega | (rw [Int.mul_comm]; omega))
          · first | exact hhw | (refine Or.inr ?_; rcases hc42 with ⟨_, h⟩ | ⟨_, h⟩ | ⟨_, h⟩ <;> first | omega | (rw [Int.sub_add_cancel, Int.mul_comm]; omega))
          · exact hF.trans (hF27.trans hF35)
  refine wp_eq (L7 (_ + 1) (1000000) (0) (1000000) (g) ((9, 0)) (Nat.lt_succ_self _) ?_ ?_ ?_ ?_ ?_ ?_ ?_) (by first | rfl | (simp; done) | (simp; omega)) (by rfl) (by rfl)
  · decide
  · decide
  · decide
  · decide
  · rw [Int.zero_mul]; exact hB.nn.1
  · exact Or.inl rfl
  · exact FrM.rfl
