/-! WHERE: the reference's which and falls -/
theorem share_ex {v w : Int} (hv : 0 ≤ v ∧ v ≤ w) (hw : 0 < w) : IsShare v 1000 w (v * 1000 / w) := by
  have h1 := Int.ediv_mul_le (v * 1000) (show w ≠ 0 by omega)
  have h2 := Int.lt_ediv_add_one_mul_self (v * 1000) hw
  have h3 : 0 ≤ v * 1000 / w := Int.ediv_nonneg (by omega) (by omega)
  refine ⟨h3, ?_, h1, Or.inr h2⟩
  by_cases q : v * 1000 / w ≤ 1000
  · exact q
  · have := Int.mul_le_mul_of_nonneg_right (show 1001 ≤ v * 1000 / w by omega) (show 0 ≤ w by omega)
    omega
theorem into_1000 {v w m : Int} (hv : 0 ≤ v ∧ v ≤ w) (hw : 0 < w) (h : IsInto (v * 1000) w m) : IsShare v 1000 w m := by
  obtain ⟨h1, h2, h3, h4⟩ := h
  have hm : m ≤ 1000 := by
    by_cases q : m ≤ 1000
    · exact q
    · have := Int.mul_le_mul_of_nonneg_right (show 1001 ≤ m by omega) (show 0 ≤ w by omega)
      omega
  refine ⟨h1, hm, h3, ?_⟩
  rcases h4 with h4 | h4
  · omega
  · exact Or.inr h4
/-- a greatest one is there -/
theorem best_ex (p : Nat → Prop) (v : Nat → Int) : ∀ B, cntW p B = 0 ∨ ∃ k, k < B ∧ p k ∧ (∀ j, j < B → p j → v j ≤ v k) ∧ ∀ j, j < k → p j → v j < v k := by
  intro B
  induction B with
  | zero => exact Or.inl rfl
  | succ B ih =>
    by_cases hp : p B
    · rcases ih with h | ⟨k, h1, h2, h3, h4⟩
      · refine Or.inr ⟨B, by omega, hp, fun j hj hpj => ?_, fun j hj hpj => absurd hpj (cntW_0 h j hj)⟩
        by_cases q : j = B
        · subst q; exact Int.le_refl _
        · exact absurd hpj (cntW_0 h j (by omega))
      · by_cases hv : v B ≤ v k
        · refine Or.inr ⟨k, by omega, h2, fun j hj hpj => ?_, h4⟩
          by_cases q : j = B
          · subst q; exact hv
          · exact h3 j (by omega) hpj
        · refine Or.inr ⟨B, by omega, hp, fun j hj hpj => ?_, fun j hj hpj => ?_⟩
          · by_cases q : j = B
            · subst q; exact Int.le_refl _
            · have := h3 j (by omega) hpj; omega
          · have := h3 j hj hpj; omega
    · rcases ih with h | ⟨k, h1, h2, h3, h4⟩
      · exact Or.inl (by rw [cntW_n hp]; exact h)
      · refine Or.inr ⟨k, by omega, h2, fun j hj hpj => ?_, h4⟩
        by_cases q : j = B
        · subst q; exact absurd hpj hp
        · exact h3 j (by omega) hpj
theorem wa_ex {P n e : Nat} {l ev tb fl sc : Nat → Int} (H : BkH P n l ev tb fl sc) (he : e < 4) : ∃ a u s, WA P l ev tb fl sc n e a u s := by
  rcases best_ex (fun k => okw ev tb fl sc n e (wy k)) (fun k => lkw P l ev tb fl e (wy k) n) 125 with h | ⟨k, h1, h2, h3, h4⟩
  · exact ⟨_, -1, fun _ => -1, rfl, Or.inl ⟨h, rfl, fun _ _ => rfl⟩⟩
  · by_cases h0 : 0 < spn ev tb fl e 0 n + spn ev tb fl e 1 n + spn ev tb fl e 2 n
    · have hp := sumW_ge (p := fun k => okw ev tb fl sc n e (wy k)) (v := fun k => lkw P l ev tb fl e (wy k) n) (fun k hk => (lk_in H he hk).1) 125 (Nat.le_refl _) k h1 h2
      have hq := (lk_in H he h1).1
      exact ⟨_, _, fun t => wy k t, rfl, Or.inr ⟨k, h1, h2, h3, h4, fun _ _ => rfl, Or.inr ⟨h0, share_ex ⟨by omega, hp⟩ (by omega)⟩⟩⟩
    · exact ⟨_, -1, fun t => wy k t, rfl, Or.inr ⟨k, h1, h2, h3, h4, fun _ _ => rfl, Or.inl ⟨by omega, rfl⟩⟩⟩
theorem sta_ex {P : Nat} {c : am_G} (hI : CInv P c) : ∃ S, StA P c S := by
  obtain ⟨a0, u0, s0, h0⟩ := wa_ex hI.bk (e := 0) (by decide)
  obtain ⟨a1, u1, s1, h1⟩ := wa_ex hI.bk (e := 1) (by decide)
  obtain ⟨a2, u2, s2, h2⟩ := wa_ex hI.bk (e := 2) (by decide)
  obtain ⟨a3, u3, s3, h3⟩ := wa_ex hI.bk (e := 3) (by decide)
  refine ⟨fun j => if j < 3 then s0 j else if j < 6 then s1 (j - 3) else if j < 9 then s2 (j - 6) else s3 (j - 9), fun e he => ?_⟩
  rcases (show e = 0 ∨ e = 1 ∨ e = 2 ∨ e = 3 by omega) with q | q | q | q <;> subst q
  · exact ⟨a0, u0, h0.s3 fun t ht => by show (if _ then _ else _) = _; rw [if_pos (by omega), show 3 * 0 + t = t by omega]⟩
  · exact ⟨a1, u1, h1.s3 fun t ht => by show (if _ then _ else _) = _; rw [if_neg (by omega), if_pos (by omega), show 3 * 1 + t - 3 = t by omega]⟩
  · exact ⟨a2, u2, h2.s3 fun t ht => by show (if _ then _ else _) = _; rw [if_neg (by omega), if_neg (by omega), if_pos (by omega), show 3 * 2 + t - 6 = t by omega]⟩
  · exact ⟨a3, u3, h3.s3 fun t ht => by show (if _ then _ else _) = _; rw [if_neg (by omega), if_neg (by omega), if_neg (by omega), show 3 * 3 + t - 9 = t by omega]⟩
theorem WM.wa {P n e : Nat} {l ev tb fl sc : Nat → Int} {g : am_G} (H : BkH P n l ev tb fl sc) (he : e < 4) (hW : WM (fun k => okw ev tb fl sc n e (wy k)) (fun k => lkw P l ev tb fl e (wy k) n) 125 g) : ∃ u, WA P l ev tb fl sc n e (g 127 31) u (g 138) ∧ (g 127 31 = 0 → u = -1 ∧ ∀ t, t < 3 → g 138 t = -1) ∧ (spn ev tb fl e 0 n + spn ev tb fl e 1 n + spn ev tb fl e 2 n = 0 → u = -1) ∧ (g 127 31 ≠ 0 → ∃ x, MR g 127 x ∧ (1 ≤ x ∧ x ≤ 8796093022208 ^ 24) ∧ (0 < spn ev tb fl e 0 n + spn ev tb fl e 1 n + spn ev tb fl e 2 n → ∀ m, IsInto (x * 1000) (sumW (fun k => okw ev tb fl sc n e (wy k)) (fun k => lkw P l ev tb fl e (wy k) n) 125) m → m = u)) := by
  obtain ⟨w1, w2, w3⟩ := hW
  rcases w3 with ⟨q1, q2, q3⟩ | ⟨k, q1, q2, q3, q4, q5, q6⟩
  · refine ⟨-1, ⟨w1, Or.inl ⟨q1, rfl, q3⟩⟩, fun _ => ⟨rfl, q3⟩, fun _ => rfl, fun h => absurd ?_ h⟩
    rw [w1, q1]; rfl
  · have hc : ¬ cntW (fun k => okw ev tb fl sc n e (wy k)) 125 = 0 := fun h => absurd q2 (cntW_0 h k q1)
    have hp := sumW_ge (p := fun k => okw ev tb fl sc n e (wy k)) (v := fun k => lkw P l ev tb fl e (wy k) n) (fun k hk => (lk_in H he hk).1) 125 (Nat.le_refl _) k q1 q2
    have hq := lk_in H he q1
    by_cases h0 : 0 < spn ev tb fl e 0 n + spn ev tb fl e 1 n + spn ev tb fl e 2 n
    · refine ⟨_, ⟨w1, Or.inr ⟨k, q1, q2, q4, q5, q6, Or.inr ⟨h0, share_ex ⟨by omega, hp⟩ (by omega)⟩⟩⟩, fun h => absurd h (by omega), fun h => absurd h (by omega), fun _ => ⟨_, q3, hq, fun _ m hm => ?_⟩⟩
      exact (into_1000 ⟨by omega, hp⟩ (by omega) hm).uniq (by omega) (share_ex ⟨by omega, hp⟩ (by omega))
    · exact ⟨-1, ⟨w1, Or.inr ⟨k, q1, q2, q4, q5, q6, Or.inl ⟨by omega, rfl⟩⟩⟩, fun h => absurd h (by omega), fun _ => rfl, fun _ => ⟨_, q3, hq, fun h => absurd h h0⟩⟩
set_option maxHeartbeats 400000 in
set_option maxRecDepth 20000 in
theorem m_into2 {sn : Nat} {sx : Nat → Int} {b : Nat} {g : am_G} {r s : Nat} {v w : Int} (hr : r < 130) (hr2 : r ≠ 126) (hs : s < 130) (hs2 : s ≠ 126) (hB : MR g r v) (hW : MR g s w) (ho : w * 1000000 < 10000 ^ 100) : Ev sn sx 2 210 [(2, 127), (0, ((r : Nat) : Int)), (0, ((s : Nat) : Int))] (SH b) g (fun x => ∃ g' m, x = (some (0, m), SH b, g') ∧ IsInto v w m ∧ FrM 126 g g') := by
  refine ev_of (K := 1) T210 (by decide) rfl rfl (Nat.le_of_ble_eq_true rfl) ?_
  refine wp_eq (L' := [(2, 127), (0, ((r : Nat) : Int)), (0, ((s : Nat) : Int)), (9, 0), (9, 0), (9, 0)]) (st' := []) (g' := g) ?_
  refine wp_n 4 (pc' := 7) (L' := [(2, 127), (0, ((r : Nat) : Int)), (0, ((s : Nat) : Int)), (0, 0), (0, 1000000), (9, 0)]) (st' := []) (g' := g) rfl ?_
  have L7 : ∀ (lf : Nat) (t : Nat) (lo hi : Int) (h : am_G) (w5 : am_V), t < lf → (hi - lo ≤ t) → (0 ≤ lo) → (lo ≤ hi) → (hi ≤ 1000000) → (lo * w ≤ v) → (hi = 1000000 ∨ v < (hi + 1) * w) → (FrM 126 g h) → Wp sn sx 1 T210 7 [(2, 127), (0, ((r : Nat) : Int)), (0, ((s : Nat) : Int)), (0, lo), (0, hi), w5] [] (SH b) h (fun x => ∃ g' m, x = (some (0, m), SH b, g') ∧ IsInto v w m ∧ FrM 126 g g') := by
    intro lf
    induction lf with
    | zero => intro t lo hi h w5 hlf; exact absurd hlf (Nat.not_lt_zero _)
    | succ lf ih7 =>
      intro t lo hi h w5 hlf hm hl0 hlh hh hlw hhw hF
      refine wp_n 2 (pc' := 10) (L' := [(2, 127), (0, ((r : Nat) : Int)), (0, ((s : Nat) : Int)), (0, lo), (0, hi), w5]) (st' := [(0, hi), (0, lo)]) (g' := h) rfl ?_
      refine wp_ic_ge rfl (fun c1 => ?_) (fun c1 => ?_)
      · refine wp_n 1 (pc' := 64) (L' := [(2, 127), (0, ((r : Nat) : Int)), (0, ((s : Nat) : Int)), (0, lo), (0, hi), w5]) (st' := [(0, lo)]) (g' := h) rfl ?_
        exact wp_ret rfl rfl rfl ⟨_, _, rfl, into_end hl0 (by omega) hh hlw hhw, hF⟩
      · refine wp_n 6 (pc' := 20) (L' := [(2, 127), (0, ((r : Nat) : Int)), (0, ((s : Nat) : Int)), (0, lo), (0, hi), w5]) (st' := [(0, 2), (0, ((lo + hi) + 1))]) (g' := h) rfl ?_
        refine wp_idiv rfl (by omega) (by omega) (by omega) ?_
        refine wp_eq (L' := [(2, 127), (0, ((r : Nat) : Int)), (0, ((s : Nat) : Int)), (0, lo), (0, hi), w5]) (st' := [(0, (((lo + hi) + 1) / 2))]) (g' := h) ?_ (by rfl) (by rw [Int.tdiv_eq_ediv_of_nonneg (show 0 ≤ lo + hi + 1 by omega)]) (by rfl)
        refine wp_n 4 (pc' := 27) (L' := [(2, 127), (0, ((r : Nat) : Int)), (0, ((s : Nat) : Int)), (0, lo), (0, hi), (0, (((lo + hi) + 1) / 2))]) (st' := [(0, 126), (0, ((s : Nat) : Int)), (2, 127)]) (g' := h) rfl ?_
        refine wp_cv (as := [(2, 127), (0, ((s : Nat) : Int)), (0, 126)]) (rest := []) rfl rfl rfl (Nat.le_of_ble_eq_true rfl) rfl (m_lay (s := s) (r := 126) (by omega) (by omega) (by omega) (hW.fr hF hs2)) (by decide) (fun r2 h3 => ?_)
        obtain ⟨g27, rfl, hR27, hF27⟩ := h3
        refine wp_eq (L' := [(2, 127), (0, ((r : Nat) : Int)), (0, ((s : Nat) : Int)), (0, lo), (0, hi), (0, (((lo + hi) + 1) / 2))]) (st' := []) (g' := g27) ?_
        refine wp_n 3 (pc' := 35) (L' := [(2, 127), (0, ((r : Nat) : Int)), (0, ((s : Nat) : Int)), (0, lo), (0, hi), (0, (((lo + hi) + 1) / 2))]) (st' := [(0, (((lo + hi) + 1) / 2)), (0, 126), (2, 127)]) (g' := g27) rfl ?_
        refine wp_cv (as := [(2, 127), (0, 126), (0, (((lo + hi) + 1) / 2))]) (rest := []) rfl rfl rfl (Nat.le_of_ble_eq_true rfl) rfl (m_times (r := 126) (by omega) hR27 (by omega) (Int.lt_of_le_of_lt (Int.mul_le_mul_of_nonneg_left (by omega) hW.nn.1) ho)) (by decide) (fun r4 h5 => ?_)
        obtain ⟨g35, rfl, hR35, hF35⟩ := h5
        refine wp_eq (L' := [(2, 127), (0, ((r : Nat) : Int)), (0, ((s : Nat) : Int)), (0, lo), (0, hi), (0, (((lo + hi) + 1) / 2))]) (st' := []) (g' := g35) ?_
        refine wp_n 3 (pc' := 42) (L' := [(2, 127), (0, ((r : Nat) : Int)), (0, ((s : Nat) : Int)), (0, lo), (0, hi), (0, (((lo + hi) + 1) / 2))]) (st' := [(0, ((r : Nat) : Int)), (0, 126), (2, 127)]) (g' := g35) rfl ?_
        refine wp_cv (as := [(2, 127), (0, 126), (0, ((r : Nat) : Int))]) (rest := []) rfl rfl rfl (Nat.le_of_ble_eq_true rfl) rfl (m_compare (r := 126) (s := r) (by omega) (by omega) hR35 (hB.fr (hF.trans (hF27.trans hF35)) (by omega))) (by decide) (fun r6 h7 => ?_)
        obtain ⟨c42, rfl, hc42⟩ := h7
        refine wp_eq (L' := [(2, 127), (0, ((r : Nat) : Int)), (0, ((s : Nat) : Int)), (0, lo), (0, hi), (0, (((lo + hi) + 1) / 2))]) (st' := [(0, c42)]) (g' := g35) ?_
        refine wp_if_gt rfl (fun c8 => ?_) (fun c8 => ?_)
        · refine wp_n 5 (pc' := 7) (L' := [(2, 127), (0, ((r : Nat) : Int)), (0, ((s : Nat) : Int)), (0, lo), (0, ((((lo + hi) + 1) / 2) - 1)), (0, (((lo + hi) + 1) / 2))]) (st' := []) (g' := g35) rfl ?_
          refine wp_eq (ih7 (t - 1) (lo) (((((lo + hi) + 1) / 2) - 1)) (g35) ((0, (((lo + hi) + 1) / 2))) ?_ ?_ ?_ ?_ ?_ ?_ ?_ ?_) (by first | rfl | (simp; done) | (simp; omega)) (by rfl) (by rfl)
          · omega
          · omega
          · omega
          · omega
          · omega
          · first | exact hlw | (rcases hc42 with ⟨_, h⟩ | ⟨_, h⟩ | ⟨_, h⟩ <;> first | omega | (rw [Int.mul_comm]; omega))
          · first | exact hhw | (refine Or.inr ?_; rcases hc42 with ⟨_, h⟩ | ⟨_, h⟩ | ⟨_, h⟩ <;> first | omega | (rw [Int.sub_add_cancel, Int.mul_comm]; omega))
          · exact hF.trans (hF27.trans hF35)
        · refine wp_n 4 (pc' := 7) (L' := [(2, 127), (0, ((r : Nat) : Int)), (0, ((s : Nat) : Int)), (0, (((lo + hi) + 1) / 2)), (0, hi), (0, (((lo + hi) + 1) / 2))]) (st' := []) (g' := g35) rfl ?_
          refine wp_eq (ih7 (t - 1) ((((lo + hi) + 1) / 2)) (hi) (g35) ((0, (((lo + hi) + 1) / 2))) ?_ ?_ ?_ ?_ ?_ ?_ ?_ ?_) (by first | rfl | (simp; done) | (simp; omega)) (by rfl) (by rfl)
          · omega
          · omega
          · omega
          · omega
          · omega
          · first | exact hlw | (rcases hc42 with ⟨_, h⟩ | ⟨_, h⟩ | ⟨_, h⟩ <;> first | omega | (rw [Int.mul_comm]; omega))
          · first | exact hhw | (refine Or.inr ?_; rcases hc42 with ⟨_, h⟩ | ⟨_, h⟩ | ⟨_, h⟩ <;> first | omega | (rw [Int.sub_add_cancel, Int.mul_comm]; omega))
          · exact hF.trans (hF27.trans hF35)
  refine wp_eq (L7 (_ + 1) (1000000) (0) (1000000) (g) ((9, 0)) (Nat.lt_succ_self _) ?_ ?_ ?_ ?_ ?_ ?_ ?_) (by first | rfl | (simp; done) | (simp; omega)) (by rfl) (by rfl)
  · decide
  · decide
  · decide
  · decide
  · rw [Int.zero_mul]; exact hB.nn.1
  · exact Or.inl rfl
  · exact FrM.rfl
set_option maxHeartbeats 400000 in
set_option maxRecDepth 20000 in
theorem m_which {sn : Nat} {sx : Nat → Int} {b : Nat} {g : am_G} {c : am_G} {P : Nat} {x t : Int} (h_x : R32 x) (h_t : R32 t) (hI : CInv P c) (hM : MRel c g) : Ev sn sx 6 234 [(2, 127), (0, x), (0, t)] (SH b) g (fun y => ∃ g' v, y = (some (0, v), SH b, g') ∧ WhA P c x t v ∧ FrN g g') := by
  have h5 := hI.ck.1
  have hP : g 127 0 = (P : Int) := hM.n.trans hI.ck.2.1
  have hx1 : -2147483648 ≤ x ∧ x < 2147483648 := h_x
  have ht1 : -2147483648 ≤ t ∧ t < 2147483648 := h_t
  have hn := hI.rg.r10_6 4 rfl
  have hBk := hI.bk
  refine ev_of (K := 5) T234 (by decide) rfl rfl (Nat.le_of_ble_eq_true rfl) ?_
  refine wp_eq (L' := [(2, 127), (0, x), (0, t)]) (st' := []) (g' := g) ?_
  refine wp_n 3 (pc' := 3) (L' := [(2, 127), (0, x), (0, t)]) (st' := [(0, 3), (0, 0), (0, x)]) (g' := g) rfl ?_
  refine wp_cs (as := [(0, x), (0, 0), (0, 3)]) (rest := []) rfl (by decide) rfl (Nat.le_of_ble_eq_true rfl) (e_isIn (by omega) (by omega) (by omega)) (by decide) (fun r2 h3 => ?_)
  rcases h3 with ⟨rfl, p1⟩ | ⟨rfl, p1⟩
  · refine wp_eq (L' := [(2, 127), (0, x), (0, t)]) (st' := [(0, 1)]) (g' := g) ?_
    refine wp_n 4 (pc' := 13) (L' := [(2, 127), (0, x), (0, t)]) (st' := [(0, 2), (0, (-2)), (0, t)]) (g' := g) rfl ?_
    refine wp_cs (as := [(0, t), (0, (-2)), (0, 2)]) (rest := []) rfl (by decide) rfl (Nat.le_of_ble_eq_true rfl) (e_isIn (by omega) (by omega) (by omega)) (by decide) (fun r5 h6 => ?_)
    rcases h6 with ⟨rfl, p4⟩ | ⟨rfl, p4⟩
    · refine wp_eq (L' := [(2, 127), (0, x), (0, t)]) (st' := [(0, 1)]) (g' := g) ?_
      refine wp_n 3 (pc' := 23) (L' := [(2, 127), (0, x), (0, t)]) (st' := [(0, x), (2, 127)]) (g' := g) rfl ?_
      refine wp_eq (L' := [(2, 127), (0, x), (0, t)]) (st' := [(0, ((x.toNat : Nat) : Int)), (2, 127)]) (g' := g) ?_ (by rfl) (by rw [Int.toNat_of_nonneg (by omega)]) (by rfl)
      refine wp_cv (as := [(2, 127), (0, ((x.toNat : Nat) : Int))]) (rest := []) rfl rfl rfl (Nat.le_of_ble_eq_true rfl) rfl (m_findWays (c := c) (P := P) (e := (x.toNat)) hI hM (by omega)) (by decide) (fun r7 h8 => ?_)
      obtain ⟨g23, rfl, hW23, hF23⟩ := h8
      obtain ⟨u, hA, h0, h00_, hx_⟩ := hW23.wa hBk (by omega)
      have h00 : (spn (c 11) (c 12) (c 14) (x.toNat : Int) ((0 : Nat) : Int) (c 10 4).toNat + spn (c 11) (c 12) (c 14) (x.toNat : Int) ((1 : Nat) : Int) (c 10 4).toNat + spn (c 11) (c 12) (c 14) (x.toNat : Int) ((2 : Nat) : Int) (c 10 4).toNat = 0 → u = -1) := h00_
      have hx : g23 127 31 ≠ 0 → ∃ y, MR g23 127 y ∧ (1 ≤ y ∧ y ≤ 8796093022208 ^ 24) ∧ (0 < spn (c 11) (c 12) (c 14) (x.toNat : Int) ((0 : Nat) : Int) (c 10 4).toNat + spn (c 11) (c 12) (c 14) (x.toNat : Int) ((1 : Nat) : Int) (c 10 4).toNat + spn (c 11) (c 12) (c 14) (x.toNat : Int) ((2 : Nat) : Int) (c 10 4).toNat → ∀ m, IsInto (y * 1000) (sumW (fun k => okw (c 11) (c 12) (c 14) (c 15) (c 10 4).toNat x.toNat (wy k)) (fun k => lkw P (c 3) (c 11) (c 12) (c 14) (x.toNat : Int) (wy k) (c 10 4).toNat) 125) m → m = u) := hx_
      have hM23 := hM.g_same hF23.n
      have hwc := cntW_le (fun k => okw (c 11) (c 12) (c 14) (c 15) (c 10 4).toNat x.toNat (wy k)) 125
      have hw1 := hW23.1
      have hsl (t : Int) := spn_le (ev := c 11) (tb := c 12) (fl := c 14) (e := (x.toNat : Int)) (t := t) (c 10 4).toNat
      have hsl0 := hsl ((0 : Nat) : Int)
      have hsl1 := hsl ((1 : Nat) : Int)
      have hsl2 := hsl ((2 : Nat) : Int)
      have hsum := sumW_in (p := (fun k => okw (c 11) (c 12) (c 14) (c 15) (c 10 4).toNat x.toNat (wy k))) (v := (fun k => lkw P (c 3) (c 11) (c 12) (c 14) (x.toNat : Int) (wy k) (c 10 4).toNat)) (fun k hk => lk_in hBk (show x.toNat < 4 by omega) hk) 125 (Nat.le_refl _)
      have hsmm : sumW (fun k => okw (c 11) (c 12) (c 14) (c 15) (c 10 4).toNat x.toNat (wy k)) (fun k => lkw P (c 3) (c 11) (c 12) (c 14) (x.toNat : Int) (wy k) (c 10 4).toNat) 125 * 1000000 < 10000 ^ 100 := Int.lt_of_le_of_lt (Int.mul_le_mul_of_nonneg_right hsum.2 (by decide)) (by decide)
      refine wp_eq (L' := [(2, 127), (0, x), (0, t)]) (st' := []) (g' := g23) ?_
      refine wp_n 2 (pc' := 29) (L' := [(2, 127), (0, x), (0, t)]) (st' := [(0, (-2)), (0, t)]) (g' := g23) rfl ?_
      refine wp_ic_ne rfl (fun c9 => ?_) (fun c9 => ?_)
      · refine wp_n 2 (pc' := 41) (L' := [(2, 127), (0, x), (0, t)]) (st' := [(0, (g23 127 31))]) (g' := g23) rfl ?_
        refine wp_if_ne rfl (fun c10 => ?_) (fun c10 => ?_)
        · obtain ⟨xx, hx1, hx2, hx3⟩ := hx (by omega)
          refine wp_n 1 (pc' := 47) (L' := [(2, 127), (0, x), (0, t)]) (st' := [(0, t)]) (g' := g23) rfl ?_
          refine wp_if_lt rfl (fun c11 => ?_) (fun c11 => ?_)
          · refine wp_n 2 (pc' := 59) (L' := [(2, 127), (0, x), (0, t)]) (st' := [(0, x), (2, 127)]) (g' := g23) rfl ?_
            refine wp_eq (L' := [(2, 127), (0, x), (0, t)]) (st' := [(0, ((x.toNat : Nat) : Int)), (2, 127)]) (g' := g23) ?_ (by rfl) (by rw [Int.toNat_of_nonneg (by omega)]) (by rfl)
            refine wp_n 1 (pc' := 60) (L' := [(2, 127), (0, x), (0, t)]) (st' := [(0, 0), (0, ((x.toNat : Nat) : Int)), (2, 127)]) (g' := g23) rfl ?_
            refine wp_cv (as := [(2, 127), (0, ((x.toNat : Nat) : Int)), (0, 0)]) (rest := []) rfl rfl rfl (Nat.le_of_ble_eq_true rfl) rfl (m_spins (c := c) (P := P) (e := (x.toNat)) (t := 0) hI hM23 (by omega) (by omega)) (by decide) (fun r12 h13 => ?_)
            obtain rfl := h13
            refine wp_eq (L' := [(2, 127), (0, x), (0, t)]) (st' := [(0, (((spn (c 11) (c 12) (c 14) ((x.toNat) : Int) ((0 : Nat) : Int) (c 10 4).toNat) : Nat) : Int))]) (g' := g23) ?_
            refine wp_n 2 (pc' := 65) (L' := [(2, 127), (0, x), (0, t)]) (st' := [(0, x), (2, 127), (0, (((spn (c 11) (c 12) (c 14) ((x.toNat) : Int) ((0 : Nat) : Int) (c 10 4).toNat) : Nat) : Int))]) (g' := g23) rfl ?_
            refine wp_eq (L' := [(2, 127), (0, x), (0, t)]) (st' := [(0, ((x.toNat : Nat) : Int)), (2, 127), (0, (((spn (c 11) (c 12) (c 14) ((x.toNat) : Int) ((0 : Nat) : Int) (c 10 4).toNat) : Nat) : Int))]) (g' := g23) ?_ (by rfl) (by rw [Int.toNat_of_nonneg (by omega)]) (by rfl)
            refine wp_n 1 (pc' := 66) (L' := [(2, 127), (0, x), (0, t)]) (st' := [(0, 1), (0, ((x.toNat : Nat) : Int)), (2, 127), (0, (((spn (c 11) (c 12) (c 14) ((x.toNat) : Int) ((0 : Nat) : Int) (c 10 4).toNat) : Nat) : Int))]) (g' := g23) rfl ?_
            refine wp_cv (as := [(2, 127), (0, ((x.toNat : Nat) : Int)), (0, 1)]) (rest := [(0, (((spn (c 11) (c 12) (c 14) ((x.toNat) : Int) ((0 : Nat) : Int) (c 10 4).toNat) : Nat) : Int))]) rfl rfl rfl (Nat.le_of_ble_eq_true rfl) rfl (m_spins (c := c) (P := P) (e := (x.toNat)) (t := 1) hI hM23 (by omega) (by omega)) (by decide) (fun r14 h15 => ?_)
            obtain rfl := h15
            refine wp_eq (L' := [(2, 127), (0, x), (0, t)]) (st' := [(0, (((spn (c 11) (c 12) (c 14) ((x.toNat) : Int) ((1 : Nat) : Int) (c 10 4).toNat) : Nat) : Int)), (0, (((spn (c 11) (c 12) (c 14) ((x.toNat) : Int) ((0 : Nat) : Int) (c 10 4).toNat) : Nat) : Int))]) (g' := g23) ?_
            refine wp_n 3 (pc' := 72) (L' := [(2, 127), (0, x), (0, t)]) (st' := [(0, x), (2, 127), (0, ((((spn (c 11) (c 12) (c 14) ((x.toNat) : Int) ((0 : Nat) : Int) (c 10 4).toNat) : Nat) : Int) + (((spn (c 11) (c 12) (c 14) ((x.toNat) : Int) ((1 : Nat) : Int) (c 10 4).toNat) : Nat) : Int)))]) (g' := g23) rfl ?_
            refine wp_eq (L' := [(2, 127), (0, x), (0, t)]) (st' := [(0, ((x.toNat : Nat) : Int)), (2, 127), (0, ((((spn (c 11) (c 12) (c 14) ((x.toNat) : Int) ((0 : Nat) : Int) (c 10 4).toNat) : Nat) : Int) + (((spn (c 11) (c 12) (c 14) ((x.toNat) : Int) ((1 : Nat) : Int) (c 10 4).toNat) : Nat) : Int)))]) (g' := g23) ?_ (by rfl) (by rw [Int.toNat_of_nonneg (by omega)]) (by rfl)
            refine wp_n 1 (pc' := 73) (L' := [(2, 127), (0, x), (0, t)]) (st' := [(0, 2), (0, ((x.toNat : Nat) : Int)), (2, 127), (0, ((((spn (c 11) (c 12) (c 14) ((x.toNat) : Int) ((0 : Nat) : Int) (c 10 4).toNat) : Nat) : Int) + (((spn (c 11) (c 12) (c 14) ((x.toNat) : Int) ((1 : Nat) : Int) (c 10 4).toNat) : Nat) : Int)))]) (g' := g23) rfl ?_
            refine wp_cv (as := [(2, 127), (0, ((x.toNat : Nat) : Int)), (0, 2)]) (rest := [(0, ((((spn (c 11) (c 12) (c 14) ((x.toNat) : Int) ((0 : Nat) : Int) (c 10 4).toNat) : Nat) : Int) + (((spn (c 11) (c 12) (c 14) ((x.toNat) : Int) ((1 : Nat) : Int) (c 10 4).toNat) : Nat) : Int)))]) rfl rfl rfl (Nat.le_of_ble_eq_true rfl) rfl (m_spins (c := c) (P := P) (e := (x.toNat)) (t := 2) hI hM23 (by omega) (by omega)) (by decide) (fun r16 h17 => ?_)
            obtain rfl := h17
            refine wp_eq (L' := [(2, 127), (0, x), (0, t)]) (st' := [(0, (((spn (c 11) (c 12) (c 14) ((x.toNat) : Int) ((2 : Nat) : Int) (c 10 4).toNat) : Nat) : Int)), (0, ((((spn (c 11) (c 12) (c 14) ((x.toNat) : Int) ((0 : Nat) : Int) (c 10 4).toNat) : Nat) : Int) + (((spn (c 11) (c 12) (c 14) ((x.toNat) : Int) ((1 : Nat) : Int) (c 10 4).toNat) : Nat) : Int)))]) (g' := g23) ?_
            refine wp_n 1 (pc' := 77) (L' := [(2, 127), (0, x), (0, t)]) (st' := [(0, (((((spn (c 11) (c 12) (c 14) ((x.toNat) : Int) ((0 : Nat) : Int) (c 10 4).toNat) : Nat) : Int) + (((spn (c 11) (c 12) (c 14) ((x.toNat) : Int) ((1 : Nat) : Int) (c 10 4).toNat) : Nat) : Int)) + (((spn (c 11) (c 12) (c 14) ((x.toNat) : Int) ((2 : Nat) : Int) (c 10 4).toNat) : Nat) : Int)))]) (g' := g23) rfl ?_
            refine wp_if_ne rfl (fun c18 => ?_) (fun c18 => ?_)
            · refine wp_n 3 (pc' := 88) (L' := [(2, 127), (0, x), (0, t)]) (st' := [(0, 1000), (0, 127), (2, 127)]) (g' := g23) rfl ?_
              refine wp_cv (as := [(2, 127), (0, 127), (0, 1000)]) (rest := []) rfl rfl rfl (Nat.le_of_ble_eq_true rfl) rfl (m_times (r := 127) (by omega) hx1 (by omega) (Int.lt_of_le_of_lt (Int.mul_le_mul_of_nonneg_right hx2.2 (by decide)) (by decide))) (by decide) (fun r19 h20 => ?_)
              obtain ⟨g88, rfl, hR88, hF88⟩ := h20
              refine wp_eq (L' := [(2, 127), (0, x), (0, t)]) (st' := []) (g' := g88) ?_
              refine wp_n 3 (pc' := 97) (L' := [(2, 127), (0, x), (0, t)]) (st' := [(0, 128), (0, 127), (2, 127)]) (g' := g88) rfl ?_
              refine wp_cv (as := [(2, 127), (0, 127), (0, 128)]) (rest := []) rfl rfl rfl (Nat.le_of_ble_eq_true rfl) rfl (m_into2 (r := 127) (s := 128) (by omega) (by omega) (by omega) (by omega) hR88 (hW23.2.1.fr hF88 (by decide)) hsmm) (by decide) (fun r21 h22 => ?_)
              obtain ⟨g97, m97, rfl, hm97, hF97⟩ := h22
              refine wp_eq (L' := [(2, 127), (0, x), (0, t)]) (st' := [(0, m97)]) (g' := g97) ?_
              exact wp_ret rfl rfl rfl ⟨_, _, rfl, Or.inl ⟨by unfold WhD; omega, _, _, _, hA, by rw [if_neg (by omega), if_pos (by omega)]; exact hx3 (by omega) _ hm97⟩, (hF23.n.trans (hF88.f.n)).trans hF97.f.n⟩
            · refine wp_n 1 (pc' := 81) (L' := [(2, 127), (0, x), (0, t)]) (st' := [(0, (-1))]) (g' := g23) rfl ?_
              first
              | exact wp_ret rfl rfl rfl ⟨_, _, rfl, Or.inl ⟨by unfold WhD; omega, _, _, _, hA, by rw [if_neg (by omega), if_pos (by omega)]; exact (h00 (by omega)).symm⟩, hF23.n⟩
              | exact wp_ret rfl rfl rfl ⟨_, _, rfl, Or.inl ⟨by unfold WhD; omega, _, _, _, hA, by
                  rw [if_neg (by omega)]
                  split
                  · exact hz0.1.symm
                  · exact (hz0.2 _ (by omega)).symm⟩, hF23.n⟩
          · refine wp_n 3 (pc' := 55) (L' := [(2, 127), (0, x), (0, t)]) (st' := [(0, t), (2, 138)]) (g' := g23) rfl ?_
            refine wp_iald (k := 138) (t.toNat) rfl rfl (by omega) (by omega) (by decide) ?_
            first
            | exact wp_ret rfl rfl rfl ⟨_, _, rfl, Or.inl ⟨by unfold WhD; omega, _, _, _, hA, by rw [if_pos (by omega)]⟩, hF23.n⟩
            | exact wp_ret rfl rfl rfl ⟨_, _, rfl, Or.inl ⟨by unfold WhD; omega, _, _, _, hA, by rw [if_neg (by omega), if_neg (by omega)]⟩, hF23.n⟩
        · have hz0 := h0 (by omega)
          refine wp_n 1 (pc' := 45) (L' := [(2, 127), (0, x), (0, t)]) (st' := [(0, (-1))]) (g' := g23) rfl ?_
          first
          | exact wp_ret rfl rfl rfl ⟨_, _, rfl, Or.inl ⟨by unfold WhD; omega, _, _, _, hA, by rw [if_neg (by omega), if_pos (by omega)]; exact (h00 (by omega)).symm⟩, hF23.n⟩
          | exact wp_ret rfl rfl rfl ⟨_, _, rfl, Or.inl ⟨by unfold WhD; omega, _, _, _, hA, by
              rw [if_neg (by omega)]
              split
              · exact hz0.1.symm
              · exact (hz0.2 _ (by omega)).symm⟩, hF23.n⟩
      · refine wp_n 2 (pc' := 36) (L' := [(2, 127), (0, x), (0, t)]) (st' := [(0, (g23 127 31))]) (g' := g23) rfl ?_
        first
        | exact wp_ret rfl rfl rfl ⟨_, _, rfl, Or.inl ⟨by unfold WhD; omega, _, _, _, hA, by rw [if_pos (by omega)]⟩, hF23.n⟩
        | exact wp_ret rfl rfl rfl ⟨_, _, rfl, Or.inl ⟨by unfold WhD; omega, _, _, _, hA, by rw [if_neg (by omega), if_neg (by omega)]⟩, hF23.n⟩
    · refine wp_eq (L' := [(2, 127), (0, x), (0, t)]) (st' := [(0, 0)]) (g' := g) ?_
      refine wp_n 2 (pc' := 20) (L' := [(2, 127), (0, x), (0, t)]) (st' := [(0, (-1))]) (g' := g) rfl ?_
      exact wp_ret rfl rfl rfl ⟨_, _, rfl, Or.inr ⟨by unfold WhD; omega, rfl⟩, FrN.rfl⟩
  · refine wp_eq (L' := [(2, 127), (0, x), (0, t)]) (st' := [(0, 0)]) (g' := g) ?_
    refine wp_n 2 (pc' := 20) (L' := [(2, 127), (0, x), (0, t)]) (st' := [(0, (-1))]) (g' := g) rfl ?_
    exact wp_ret rfl rfl rfl ⟨_, _, rfl, Or.inr ⟨by unfold WhD; omega, rfl⟩, FrN.rfl⟩
theorem M_which {sn : Nat} {sx : Nat → Int} {b : Nat} {g c : am_G} {P : Nat} {x t : Int} (h_x : R32 x) (h_t : R32 t) (hI : CInv P c) (hM : MRel c g) : Ev sn sx 6 234 [(2, 127), (0, x), (0, t)] (SH b) g (MPost b g (fun c1 v1 => WhA P c x t v1 ∧ CoE c c1)) := (m_which h_x h_t hI hM).mono fun r hh => mpost_n (A := WhA P c x t) hM (fun _ _ => WhA.uniq hI) hh
/-! falls: counting slot by slot -/
def pX (sl : Nat → Nat) (Z : Nat → Prop) (x i : Nat) : Nat → Prop := fun k => Z k ∧ (sl k < x ∨ (sl k = x ∧ k < i))
theorem cntW_iff {p q : Nat → Prop} {n : Nat} (h : ∀ k, k < n → (p k ↔ q k)) : cntW p n = cntW q n := by
  induction n with
  | zero => rfl
  | succ n ih =>
    have h1 := ih fun k hk => h k (by omega)
    by_cases e : p n
    · rw [cntW_y e, cntW_y ((h n (by omega)).mp e), h1]
    · rw [cntW_n e, cntW_n fun q => e ((h n (by omega)).mpr q), h1]
theorem cntW_add {p q : Nat → Prop} {i n : Nat} (hi : i < n) (hp : ¬ p i) (hq : q i) (h : ∀ k, k < n → k ≠ i → (p k ↔ q k)) : cntW q n = cntW p n + 1 := by
  induction n with
  | zero => omega
  | succ n ih =>
    by_cases e : i = n
    · subst e
      rw [cntW_y hq, cntW_n hp, cntW_iff fun k hk => h k (by omega) (by omega)]
    · have h1 := ih (by omega) fun k hk => h k (by omega)
      by_cases e2 : p n
      · rw [cntW_y e2, cntW_y ((h n (by omega) (by omega)).mp e2), h1]
      · rw [cntW_n e2, cntW_n fun q => e2 ((h n (by omega) (by omega)).mpr q), h1]
theorem px_end {sl : Nat → Nat} {Z : Nat → Prop} {x n : Nat} : cntW (pX sl Z x n) n = cntW (pX sl Z (x + 1) 0) n := cntW_iff fun k hk => ⟨fun h => ⟨h.1, by rcases h.2 with q | q <;> omega⟩, fun h => ⟨h.1, by rcases h.2 with q | q <;> omega⟩⟩
theorem px_non {sl : Nat → Nat} {Z : Nat → Prop} {x i n : Nat} (h0 : ∀ k, k < n → sl k = x → ¬ Z k) : cntW (pX sl Z x i) n = cntW (pX sl Z (x + 1) 0) n := cntW_iff fun k hk => ⟨fun h => ⟨h.1, by rcases h.2 with q | q <;> omega⟩, fun h => ⟨h.1, by
  by_cases q : sl k = x
  · exact absurd h.1 (h0 k hk q)
  · rcases h.2 with r | r <;> omega⟩⟩
theorem px_add {sl : Nat → Nat} {Z : Nat → Prop} {x i n : Nat} (hi : i < n) (hz : Z i) (hs : sl i = x) : cntW (pX sl Z x (i + 1)) n = cntW (pX sl Z x i) n + 1 := cntW_add hi (fun h => by rcases h.2 with q | q <;> omega) ⟨hz, by omega⟩ fun k hk hn => ⟨fun h => ⟨h.1, by rcases h.2 with q | q <;> omega⟩, fun h => ⟨h.1, by rcases h.2 with q | q <;> omega⟩⟩
theorem px_same {sl : Nat → Nat} {Z : Nat → Prop} {x i n : Nat} (hz : ¬ (Z i ∧ sl i = x)) : cntW (pX sl Z x (i + 1)) n = cntW (pX sl Z x i) n := cntW_iff fun k hk => ⟨fun h => ⟨h.1, by
  by_cases q : k = i
  · subst q
    rcases h.2 with r | r
    · exact Or.inl r
    · exact absurd ⟨h.1, r.1⟩ hz
  · rcases h.2 with r | r <;> omega⟩, fun h => ⟨h.1, by rcases h.2 with q | q <;> omega⟩⟩
theorem px_0 {sl : Nat → Nat} {Z : Nat → Prop} {n : Nat} : cntW (pX sl Z 0 0) n = 0 := cntW_no fun k _ h => by rcases h.2 with q | q <;> omega
theorem px_all {sl : Nat → Nat} {Z : Nat → Prop} {n : Nat} (h0 : ∀ k, k < n → sl k < 12) : cntW (pX sl Z 12 0) n = cntW Z n := cntW_iff fun k hk => ⟨fun h => h.1, fun h => ⟨h, Or.inl (h0 k hk)⟩⟩
def sL (ev tb : Nat → Int) (k : Nat) : Nat := (3 * ev k + tb k).toNat
def zT (ev tb fl S : Nat → Int) (w : Int) (p : Nat) : Nat → Prop := fun k => fl k ≠ -1 ∧ S (3 * ev k + tb k).toNat = w ∧ (fl k).toNat = p
def zN (ev tb fl S : Nat → Int) (w : Int) : Nat → Prop := fun k => fl k ≠ -1 ∧ S (3 * ev k + tb k).toNat = w
theorem fallT_c {ev tb fl S : Nat → Int} {w : Int} {p n : Nat} : fallT ev tb fl S w p n = (cntW (zT ev tb fl S w p) n : Int) := by
  induction n with
  | zero => rfl
  | succ n ih =>
    rw [fallT, ih]
    by_cases h : zT ev tb fl S w p n
    · rw [cntW_y h, if_pos (show fl n ≠ -1 ∧ S (3 * ev n + tb n).toNat = w ∧ (fl n).toNat = p from h)]; rfl
    · rw [cntW_n h, if_neg (show ¬ (fl n ≠ -1 ∧ S (3 * ev n + tb n).toNat = w ∧ (fl n).toNat = p) from h), Int.add_zero]
theorem fallN_c {ev tb fl S : Nat → Int} {w : Int} {n : Nat} : fallN ev tb fl S w n = cntW (zN ev tb fl S w) n := by
  induction n with
  | zero => rfl
  | succ n ih =>
    rw [fallN, ih]
    by_cases h : zN ev tb fl S w n
    · rw [cntW_y h, if_pos (show fl n ≠ -1 ∧ S (3 * ev n + tb n).toNat = w from h)]
    · rw [cntW_n h, if_neg (show ¬ (fl n ≠ -1 ∧ S (3 * ev n + tb n).toNat = w) from h), Nat.add_zero]
set_option maxHeartbeats 400000 in
set_option maxRecDepth 20000 in
theorem m_fall {sn : Nat} {sx : Nat → Int} {b : Nat} {g : am_G} {c : am_G} {P : Nat} {w : Int} (hw : R32 w) (hI : CInv P c) (hM : MRel c g) : Ev sn sx 6 235 [(2, 127), (0, w)] (SH b) g (fun r => ∃ g' N, r = (none, SH b, g') ∧ g' 127 33 = ((N : Nat) : Int) ∧ N ≤ 200 ∧ FaC P c w N (g' 139) ∧ FrN g g') := by
  have h5 := hI.ck.1
  have hn := hI.rg.r10_6 4 rfl
  have hBk := hI.bk
  obtain ⟨S, hS⟩ := sta_ex hI
  have hw1 : -2147483648 ≤ w ∧ w < 2147483648 := hw
  have hsl : ∀ k, k < (c 10 4).toNat → sL (c 11) (c 12) k < 12 := fun k hk => by have := hBk.2.2.1 k hk; unfold sL; omega
  refine ev_of (K := 5) T235 (by decide) rfl rfl (Nat.le_of_ble_eq_true rfl) ?_
  refine wp_eq (L' := [(2, 127), (0, w), (9, 0), (9, 0), (9, 0)]) (st' := []) (g' := g) ?_
  refine wp_n 5 (pc' := 7) (L' := [(2, 127), (0, w), (0, 0), (9, 0), (9, 0)]) (st' := []) (g' := (am_up g 127 33 0)) rfl ?_
  have L7 : ∀ (lf : Nat) (p : Nat) (h : am_G) (w3 w4 : am_V), 37 - p < lf → (p ≤ 37) → (∀ q : Nat, q < p → h 139 q = 0) → (h 127 33 = 0) → (FrN g h) → Wp sn sx 5 T235 7 [(2, 127), (0, w), (0, ((p : Nat) : Int)), w3, w4] [] (SH b) h (fun r => ∃ g' N, r = (none, SH b, g') ∧ g' 127 33 = ((N : Nat) : Int) ∧ N ≤ 200 ∧ FaC P c w N (g' 139) ∧ FrN g g') := by
    intro lf
    induction lf with
    | zero => intro p h w3 w4 hlf; exact absurd hlf (Nat.not_lt_zero _)
    | succ lf ih7 =>
      intro p h w3 w4 hlf hp hz h33 hF0
      refine wp_n 2 (pc' := 10) (L' := [(2, 127), (0, w), (0, ((p : Nat) : Int)), w3, w4]) (st' := [(0, 37), (0, ((p : Nat) : Int))]) (g' := h) rfl ?_
      refine wp_ic_ge rfl (fun c1 => ?_) (fun c1 => ?_)
      · obtain rfl : p = 37 := by omega
        refine wp_n 2 (pc' := 28) (L' := [(2, 127), (0, w), (0, 0), w3, w4]) (st' := []) (g' := h) rfl ?_
        have L28 : ∀ (lf : Nat) (e : Nat) (h : am_G) (w3 w4 : am_V), 4 - e < lf → (e ≤ 4) → (∀ p : Nat, p < 37 → h 139 p = ((cntW (pX (sL (c 11) (c 12)) (zT (c 11) (c 12) (c 14) S w p) (3 * e) 0) (c 10 4).toNat : Nat) : Int)) → (h 127 33 = ((cntW (pX (sL (c 11) (c 12)) (zN (c 11) (c 12) (c 14) S w) (3 * e) 0) (c 10 4).toNat : Nat) : Int)) → (FrN g h) → Wp sn sx 5 T235 28 [(2, 127), (0, w), (0, ((e : Nat) : Int)), w3, w4] [] (SH b) h (fun r => ∃ g' N, r = (none, SH b, g') ∧ g' 127 33 = ((N : Nat) : Int) ∧ N ≤ 200 ∧ FaC P c w N (g' 139) ∧ FrN g g') := by
          intro lf
          induction lf with
          | zero => intro e h w3 w4 hlf; exact absurd hlf (Nat.not_lt_zero _)
          | succ lf ih28 =>
            intro e h w3 w4 hlf he hT hN hF
            refine wp_n 2 (pc' := 30) (L' := [(2, 127), (0, w), (0, ((e : Nat) : Int)), w3, w4]) (st' := [(0, 4), (0, ((e : Nat) : Int))]) (g' := h) rfl ?_
            refine wp_ic_ge rfl (fun c2 => ?_) (fun c2 => ?_)
            · obtain rfl : e = 4 := by omega
              have hN12 := hN
              exact wp_ret rfl rfl rfl ⟨_, _, rfl, hN12, Nat.le_trans (cntW_le _ _) (by omega), ⟨S, hS, by rw [px_all hsl, fallN_c], fun p hp => by rw [hT p (by omega), px_all hsl, fallT_c]⟩, hF⟩
            · have hMh := hM.g_same hF
              refine wp_n 2 (pc' := 35) (L' := [(2, 127), (0, w), (0, ((e : Nat) : Int)), w3, w4]) (st' := [(0, ((e : Nat) : Int)), (2, 127)]) (g' := h) rfl ?_
              refine wp_cv (as := [(2, 127), (0, ((e : Nat) : Int))]) (rest := []) rfl rfl rfl (Nat.le_of_ble_eq_true rfl) rfl (m_findWays (c := c) (P := P) (e := e) hI hMh (by omega)) (by decide) (fun r3 h4 => ?_)
              obtain ⟨g35, rfl, hW35, hF35⟩ := h4
              obtain ⟨u35, hA35, -, -, -⟩ := hW35.wa hBk (show e < 4 by omega)
              obtain ⟨a9, u9, hA9⟩ := hS e (by omega)
              have hL35 : ∀ u : Nat, u < 3 → g35 138 u = S (3 * e + u) := (hA35.uniq hBk (by omega) hA9).2.2
              refine wp_eq (L' := [(2, 127), (0, w), (0, ((e : Nat) : Int)), w3, w4]) (st' := []) (g' := g35) ?_
              refine wp_n 2 (pc' := 40) (L' := [(2, 127), (0, w), (0, ((e : Nat) : Int)), (0, 0), w4]) (st' := []) (g' := g35) rfl ?_
              have L40 : ∀ (lf : Nat) (t : Nat) (k : am_G) (w4 : am_V), 3 - t < lf → (t ≤ 3) → (∀ p : Nat, p < 37 → k 139 p = ((cntW (pX (sL (c 11) (c 12)) (zT (c 11) (c 12) (c 14) S w p) (3 * e + t) 0) (c 10 4).toNat : Nat) : Int)) → (k 127 33 = ((cntW (pX (sL (c 11) (c 12)) (zN (c 11) (c 12) (c 14) S w) (3 * e + t) 0) (c 10 4).toNat : Nat) : Int)) → (∀ u : Nat, u < 3 → k 138 u = S (3 * e + u)) → (FrN g k) → Wp sn sx 5 T235 40 [(2, 127), (0, w), (0, ((e : Nat) : Int)), (0, ((t : Nat) : Int)), w4] [] (SH b) k (fun r => ∃ g' N, r = (none, SH b, g') ∧ g' 127 33 = ((N : Nat) : Int) ∧ N ≤ 200 ∧ FaC P c w N (g' 139) ∧ FrN g g') := by
                intro lf
                induction lf with
                | zero => intro t k w4 hlf; exact absurd hlf (Nat.not_lt_zero _)
                | succ lf ih40 =>
                  intro t k w4 hlf ht hTt hNt hL hFt
                  refine wp_n 2 (pc' := 42) (L' := [(2, 127), (0, w), (0, ((e : Nat) : Int)), (0, ((t : Nat) : Int)), w4]) (st' := [(0, 3), (0, ((t : Nat) : Int))]) (g' := k) rfl ?_
                  refine wp_ic_ge rfl (fun c5 => ?_) (fun c5 => ?_)
                  · have ht3 : t = 3 := by omega
                    rw [ht3] at hTt hNt
                    refine wp_n 2 (pc' := 28) (L' := [(2, 127), (0, w), (0, (((e : Nat) : Int) + 1)), (0, ((t : Nat) : Int)), w4]) (st' := []) (g' := k) rfl ?_
                    refine wp_eq (ih28 (e + 1) (k) ((0, ((t : Nat) : Int))) (w4) ?_ ?_ ?_ ?_ ?_) (by first | rfl | (simp; done) | (simp; omega)) (by rfl) (by rfl)
                    · omega
                    · omega
                    · rw [show 3 * (e + 1) = 3 * e + 3 by omega]; exact hTt
                    · rw [show 3 * (e + 1) = 3 * e + 3 by omega]; exact hNt
                    · exact hFt
                  · refine wp_n 2 (pc' := 48) (L' := [(2, 127), (0, w), (0, ((e : Nat) : Int)), (0, ((t : Nat) : Int)), (0, 0)]) (st' := []) (g' := k) rfl ?_
                    have L48 : ∀ (lf : Nat) (i : Nat) (m : am_G), (c 10 4).toNat - i < lf → (i ≤ (c 10 4).toNat) → (∀ p : Nat, p < 37 → m 139 p = ((cntW (pX (sL (c 11) (c 12)) (zT (c 11) (c 12) (c 14) S w p) (3 * e + t) i) (c 10 4).toNat : Nat) : Int)) → (m 127 33 = ((cntW (pX (sL (c 11) (c 12)) (zN (c 11) (c 12) (c 14) S w) (3 * e + t) i) (c 10 4).toNat : Nat) : Int)) → (∀ u : Nat, u < 3 → m 138 u = S (3 * e + u)) → (FrN g m) → Wp sn sx 5 T235 48 [(2, 127), (0, w), (0, ((e : Nat) : Int)), (0, ((t : Nat) : Int)), (0, ((i : Nat) : Int))] [] (SH b) m (fun r => ∃ g' N, r = (none, SH b, g') ∧ g' 127 33 = ((N : Nat) : Int) ∧ N ≤ 200 ∧ FaC P c w N (g' 139) ∧ FrN g g') := by
                      intro lf
                      induction lf with
                      | zero => intro i m hlf; exact absurd hlf (Nat.not_lt_zero _)
                      | succ lf ih48 =>
                        intro i m hlf hi hTm hNm hLm hFm
                        refine wp_n 4 (pc' := 55) (L' := [(2, 127), (0, w), (0, ((e : Nat) : Int)), (0, ((t : Nat) : Int)), (0, ((i : Nat) : Int))]) (st' := [(0, 2), (2, 128), (0, ((i : Nat) : Int))]) (g' := m) rfl ?_
                        refine wp_iald (k := 128) (2) rfl rfl (by omega) (by omega) (by decide) ?_
                        refine wp_eq (L' := [(2, 127), (0, w), (0, ((e : Nat) : Int)), (0, ((t : Nat) : Int)), (0, ((i : Nat) : Int))]) (st' := [(0, (c 10 4)), (0, ((i : Nat) : Int))]) (g' := m) ?_ (by rfl) (by rw [(hM.g_same hFm).written]) (by rfl)
                        refine wp_ic_ge rfl (fun c6 => ?_) (fun c6 => ?_)
                        · have hie : i = (c 10 4).toNat := by omega
                          rw [hie] at hTm hNm
                          have hTe : ∀ p : Nat, p < 37 → m 139 p = ((cntW (pX (sL (c 11) (c 12)) (zT (c 11) (c 12) (c 14) S w p) (3 * e + (t + 1)) 0) (c 10 4).toNat : Nat) : Int) := fun p hp => by rw [← show 3 * e + t + 1 = 3 * e + (t + 1) from rfl, ← px_end]; exact hTm p hp
                          have hNe : m 127 33 = ((cntW (pX (sL (c 11) (c 12)) (zN (c 11) (c 12) (c 14) S w) (3 * e + (t + 1)) 0) (c 10 4).toNat : Nat) : Int) := by rw [← show 3 * e + t + 1 = 3 * e + (t + 1) from rfl, ← px_end]; exact hNm
                          refine wp_n 2 (pc' := 40) (L' := [(2, 127), (0, w), (0, ((e : Nat) : Int)), (0, (((t : Nat) : Int) + 1)), (0, ((i : Nat) : Int))]) (st' := []) (g' := m) rfl ?_
                          refine wp_eq (ih40 (t + 1) (m) ((0, ((i : Nat) : Int))) ?_ ?_ ?_ ?_ ?_ ?_) (by first | rfl | (simp; done) | (simp; omega)) (by rfl) (by rfl)
                          · omega
                          · omega
                          · exact hTe
                          · exact hNe
                          · exact hLm
                          · exact hFm
                        · have hMm := hM.g_same hFm
                          have hb := hBk.2.2.1 i (by omega)
                          obtain ⟨s5, hs5⟩ : ∃ s5, s5 = S (3 * e + t) := ⟨_, rfl⟩
                          obtain ⟨a8, u8, hA8⟩ := hS e (by omega)
                          have hsp : c 14 i ≠ -1 → sL (c 11) (c 12) i = 3 * e + t → c 11 i = ((e : Nat) : Int) ∧ c 12 i = ((t : Nat) : Int) ∧ c 14 i ≠ -1 := fun a b => by unfold sL at b; omega
                          have hs5r : -1 ≤ s5 ∧ s5 ≤ 3 := by
                            rw [hs5]
                            rcases hA8.2 with ⟨_, _, q⟩ | ⟨k, q1, _, _, _, q, _⟩
                            · have := q t (by omega); simp only at this; omega
                            · have := q t (by omega); have := wy_in k t q1; simp only at *; omega
                          refine wp_n 3 (pc' := 64) (L' := [(2, 127), (0, w), (0, ((e : Nat) : Int)), (0, ((t : Nat) : Int)), (0, ((i : Nat) : Int))]) (st' := [(0, ((t : Nat) : Int)), (2, 138)]) (g' := m) rfl ?_
                          refine wp_iald (k := 138) (t) rfl rfl (by omega) (by omega) (by decide) ?_
                          refine wp_eq (L' := [(2, 127), (0, w), (0, ((e : Nat) : Int)), (0, ((t : Nat) : Int)), (0, ((i : Nat) : Int))]) (st' := [(0, s5)]) (g' := m) ?_ (by rfl) (by rw [hLm t (by omega), hs5]) (by rfl)
                          refine wp_n 1 (pc' := 66) (L' := [(2, 127), (0, w), (0, ((e : Nat) : Int)), (0, ((t : Nat) : Int)), (0, ((i : Nat) : Int))]) (st' := [(0, w), (0, s5)]) (g' := m) rfl ?_
                          refine wp_ic_ne rfl (fun c7 => ?_) (fun c7 => ?_)
                          · have hno : ∀ k, k < (c 10 4).toNat → sL (c 11) (c 12) k = 3 * e + t → S (3 * c 11 k + c 12 k).toNat ≠ w := fun k _ q r => by
                              unfold sL at q
                              rw [q, ← hs5] at r
                              omega
                            have hTe : ∀ p : Nat, p < 37 → m 139 p = ((cntW (pX (sL (c 11) (c 12)) (zT (c 11) (c 12) (c 14) S w p) (3 * e + (t + 1)) 0) (c 10 4).toNat : Nat) : Int) := fun p hp => by rw [← show 3 * e + t + 1 = 3 * e + (t + 1) from rfl, ← px_non (i := i) fun k hk q r => hno k hk q r.2.1]; exact hTm p hp
                            have hNe : m 127 33 = ((cntW (pX (sL (c 11) (c 12)) (zN (c 11) (c 12) (c 14) S w) (3 * e + (t + 1)) 0) (c 10 4).toNat : Nat) : Int) := by rw [← show 3 * e + t + 1 = 3 * e + (t + 1) from rfl, ← px_non (i := i) fun k hk q r => hno k hk q r.2]; exact hNm
                            refine wp_n 2 (pc' := 40) (L' := [(2, 127), (0, w), (0, ((e : Nat) : Int)), (0, (((t : Nat) : Int) + 1)), (0, ((i : Nat) : Int))]) (st' := []) (g' := m) rfl ?_
                            refine wp_eq (ih40 (t + 1) (m) ((0, ((i : Nat) : Int))) ?_ ?_ ?_ ?_ ?_ ?_) (by first | rfl | (simp; done) | (simp; omega)) (by rfl) (by rfl)
                            · omega
                            · omega
                            · exact hTe
                            · exact hNe
                            · exact hLm
                            · exact hFm
                          · refine wp_n 4 (pc' := 74) (L' := [(2, 127), (0, w), (0, ((e : Nat) : Int)), (0, ((t : Nat) : Int)), (0, ((i : Nat) : Int))]) (st' := [(0, ((t : Nat) : Int)), (0, ((e : Nat) : Int)), (0, ((i : Nat) : Int)), (2, 127)]) (g' := m) rfl ?_
                            refine wp_cv (as := [(2, 127), (0, ((i : Nat) : Int)), (0, ((e : Nat) : Int)), (0, ((t : Nat) : Int))]) (rest := []) rfl rfl rfl (Nat.le_of_ble_eq_true rfl) rfl (m_isSpin (c := c) (P := P) (i := i) hI.rg hMm h5 (by omega) (by omega) (by omega)) (by decide) (fun r8 h9 => ?_)
                            rcases h9 with ⟨rfl, p74⟩ | ⟨rfl, p74⟩
                            · have hsi : sL (c 11) (c 12) i = 3 * e + t := by unfold sL; omega
                              have hSi : S (3 * c 11 i + c 12 i).toNat = w := by
                                unfold sL at hsi
                                rw [hsi, ← hs5]
                                omega
                              have hcb := cntW_le (pX (sL (c 11) (c 12)) (zT (c 11) (c 12) (c 14) S w (c 14 i).toNat) (3 * e + t) i) (c 10 4).toNat
                              have hcn := cntW_le (pX (sL (c 11) (c 12)) (zN (c 11) (c 12) (c 14) S w) (3 * e + t) i) (c 10 4).toNat
                              refine wp_eq (L' := [(2, 127), (0, w), (0, ((e : Nat) : Int)), (0, ((t : Nat) : Int)), (0, ((i : Nat) : Int))]) (st' := [(0, 1)]) (g' := m) ?_
                              refine wp_n 12 (pc' := 101) (L' := [(2, 127), (0, w), (0, ((e : Nat) : Int)), (0, ((t : Nat) : Int)), (0, ((i : Nat) : Int))]) (st' := [(0, ((580 + (4 * ((i : Nat) : Int))) + 3)), (2, 128), (2, 139)]) (g' := m) rfl ?_
                              refine wp_iald (k := 128) ((580 + 4 * i + 3)) rfl rfl (by omega) (by omega) (by decide) ?_
                              refine wp_eq (L' := [(2, 127), (0, w), (0, ((e : Nat) : Int)), (0, ((t : Nat) : Int)), (0, ((i : Nat) : Int))]) (st' := [(0, (c 14 i)), (2, 139)]) (g' := m) ?_ (by rfl) (by rw [hMm.fl i (by omega)]) (by rfl)
                              refine wp_n 1 (pc' := 103) (L' := [(2, 127), (0, w), (0, ((e : Nat) : Int)), (0, ((t : Nat) : Int)), (0, ((i : Nat) : Int))]) (st' := [(0, (c 14 i)), (2, 139), (0, (c 14 i)), (2, 139)]) (g' := m) rfl ?_
                              refine wp_iald (k := 139) ((c 14 i).toNat) rfl rfl (by omega) (by omega) (by decide) ?_
                              refine wp_n 2 (pc' := 106) (L' := [(2, 127), (0, w), (0, ((e : Nat) : Int)), (0, ((t : Nat) : Int)), (0, ((i : Nat) : Int))]) (st' := [(0, ((m 139 (c 14 i).toNat) + 1)), (0, (c 14 i)), (2, 139)]) (g' := m) rfl ?_
                              refine wp_iast (k := 139) ((c 14 i).toNat) rfl rfl (by omega) (by omega) (by decide) ?_
                              refine wp_n 8 (pc' := 48) (L' := [(2, 127), (0, w), (0, ((e : Nat) : Int)), (0, ((t : Nat) : Int)), (0, (((i : Nat) : Int) + 1))]) (st' := []) (g' := (am_up (am_up m 139 ((c 14 i).toNat) ((m 139 (c 14 i).toNat) + 1)) 127 33 ((m 127 33) + 1))) rfl ?_
                              refine wp_eq (ih48 (i + 1) ((am_up (am_up m 139 ((c 14 i).toNat) ((m 139 (c 14 i).toNat) + 1)) 127 33 ((m 127 33) + 1))) ?_ ?_ ?_ ?_ ?_ ?_) (by first | rfl | (simp; done) | (simp; omega)) (by rfl) (by rfl)
                              · omega
                              · omega
                              · intro q hq
                                rw [up_ne (by decide)]
                                by_cases r : q = (c 14 i).toNat
                                · subst r; rw [up_eq, hTm _ hq, px_add (by omega) ⟨by omega, hSi, rfl⟩ hsi]; rfl
                                · rw [up_nj r, hTm q hq, px_same fun k => r k.1.2.2.symm]
                              · rw [up_eq, hNm, px_add (by omega) ⟨by omega, hSi⟩ hsi]; rfl
                              · exact fun u hu => by rw [up_ne (by decide), up_ne (by decide)]; exact hLm u hu
                              · exact (hFm.up (by unfold Sm; omega)).up (by unfold Sm; omega)
                            · refine wp_eq (L' := [(2, 127), (0, w), (0, ((e : Nat) : Int)), (0, ((t : Nat) : Int)), (0, ((i : Nat) : Int))]) (st' := [(0, 0)]) (g' := m) ?_
                              refine wp_n 4 (pc' := 48) (L' := [(2, 127), (0, w), (0, ((e : Nat) : Int)), (0, ((t : Nat) : Int)), (0, (((i : Nat) : Int) + 1))]) (st' := []) (g' := m) rfl ?_
                              refine wp_eq (ih48 (i + 1) (m) ?_ ?_ ?_ ?_ ?_ ?_) (by first | rfl | (simp; done) | (simp; omega)) (by rfl) (by rfl)
                              · omega
                              · omega
                              · intro q hq; rw [px_same (fun k => p74 (hsp k.1.1 k.2))]; exact hTm q hq
                              · rw [px_same (fun k => p74 (hsp k.1.1 k.2))]; exact hNm
                              · exact hLm
                              · exact hFm
                    refine wp_eq (L48 (_ + 1) (0) (k) (Nat.lt_succ_self _) ?_ ?_ ?_ ?_ ?_) (by first | rfl | (simp; done) | (simp; omega)) (by rfl) (by rfl)
                    · exact Nat.zero_le _
                    · exact hTt
                    · exact hNt
                    · exact hL
                    · exact hFt
              refine wp_eq (L40 (_ + 1) (0) (g35) (w4) (Nat.lt_succ_self _) ?_ ?_ ?_ ?_ ?_) (by first | rfl | (simp; done) | (simp; omega)) (by rfl) (by rfl)
              · exact Nat.zero_le _
              · exact fun q hq => (hF35 139 q (Or.inl (by decide)) (by decide) (by decide) (by decide)).trans (hT q hq)
              · exact (hF35 127 33 (by decide) (by decide) (by decide) (by decide)).trans hN
              · exact hL35
              · exact hF.trans hF35.n
        refine wp_eq (L28 (_ + 1) (0) (h) (w3) (w4) (Nat.lt_succ_self _) ?_ ?_ ?_ ?_) (by first | rfl | (simp; done) | (simp; omega)) (by rfl) (by rfl)
        · exact Nat.zero_le _
        · exact fun q hq => (hz q (by omega)).trans (by rw [px_0]; rfl)
        · exact h33.trans (by rw [px_0]; rfl)
        · exact hF0
      · refine wp_n 4 (pc' := 19) (L' := [(2, 127), (0, w), (0, ((p : Nat) : Int)), w3, w4]) (st' := [(0, 0), (0, ((p : Nat) : Int)), (2, 139)]) (g' := h) rfl ?_
        refine wp_iast (k := 139) (p) rfl rfl (by omega) (by omega) (by decide) ?_
        refine wp_n 2 (pc' := 7) (L' := [(2, 127), (0, w), (0, (((p : Nat) : Int) + 1)), w3, w4]) (st' := []) (g' := (am_up h 139 p 0)) rfl ?_
        refine wp_eq (ih7 (p + 1) ((am_up h 139 p 0)) (w3) (w4) ?_ ?_ ?_ ?_ ?_) (by first | rfl | (simp; done) | (simp; omega)) (by rfl) (by rfl)
        · omega
        · omega
        · intro u hu
          by_cases q : u = p
          · subst q; exact up_eq
          · rw [up_nj q]; exact hz u (by omega)
        · rw [up_ne (by decide)]; exact h33
        · exact hF0.up (by unfold Sm; omega)
  refine wp_eq (L7 (_ + 1) (0) ((am_up g 127 33 0)) ((9, 0)) ((9, 0)) (Nat.lt_succ_self _) ?_ ?_ ?_ ?_) (by first | rfl | (simp; done) | (simp; omega)) (by rfl) (by rfl)
  · exact Nat.zero_le _
  · exact fun u hu => absurd hu (Nat.not_lt_zero _)
  · exact up_eq
  · exact FrN.rfl.up (by unfold Sm; omega)
set_option maxHeartbeats 400000 in
set_option maxRecDepth 20000 in
theorem m_falls {sn : Nat} {sx : Nat → Int} {b : Nat} {g : am_G} {c : am_G} {P : Nat} {w p : Int} (h_w : R32 w) (h_p : R32 p) (hI : CInv P c) (hM : MRel c g) : Ev sn sx 7 236 [(2, 127), (0, w), (0, p)] (SH b) g (fun y => ∃ g' v, y = (some (0, v), SH b, g') ∧ FaA P c w p v ∧ FrN g g') := by
  have h5 := hI.ck.1
  have hP : g 127 0 = (P : Int) := hM.n.trans hI.ck.2.1
  have hw1 : -2147483648 ≤ w ∧ w < 2147483648 := h_w
  have hp1 : -2147483648 ≤ p ∧ p < 2147483648 := h_p
  refine ev_of (K := 6) T236 (by decide) rfl rfl (Nat.le_of_ble_eq_true rfl) ?_
  refine wp_eq (L' := [(2, 127), (0, w), (0, p)]) (st' := []) (g' := g) ?_
  refine wp_n 1 (pc' := 1) (L' := [(2, 127), (0, w), (0, p)]) (st' := [(0, w)]) (g' := g) rfl ?_
  refine wp_cs (as := [(0, w)]) (rest := []) rfl (by decide) rfl (Nat.le_of_ble_eq_true rfl) (e_MisWheel (by omega)) (by decide) (fun r2 h3 => ?_)
  rcases h3 with ⟨rfl, p1⟩ | ⟨rfl, p1⟩
  · refine wp_eq (L' := [(2, 127), (0, w), (0, p)]) (st' := [(0, 1)]) (g' := g) ?_
    refine wp_n 3 (pc' := 9) (L' := [(2, 127), (0, w), (0, p)]) (st' := [(0, (-1)), (0, p)]) (g' := g) rfl ?_
    refine wp_ic_eq rfl (fun c4 => ?_) (fun c4 => ?_)
    · refine wp_n 2 (pc' := 24) (L' := [(2, 127), (0, w), (0, p)]) (st' := [(0, w), (2, 127)]) (g' := g) rfl ?_
      refine wp_cv (as := [(2, 127), (0, w)]) (rest := []) rfl rfl rfl (Nat.le_of_ble_eq_true rfl) rfl (m_fall (c := c) (P := P) (w := w) (by assumption) hI hM) (by decide) (fun r5 h6 => ?_)
      obtain ⟨g24, N24, rfl, hN24, hb24, hA24, hF24⟩ := h6
      refine wp_eq (L' := [(2, 127), (0, w), (0, p)]) (st' := []) (g' := g24) ?_
      refine wp_n 2 (pc' := 29) (L' := [(2, 127), (0, w), (0, p)]) (st' := [(0, (-1)), (0, p)]) (g' := g24) rfl ?_
      refine wp_ic_ne rfl (fun c7 => ?_) (fun c7 => ?_)
      · refine wp_n 3 (pc' := 44) (L' := [(2, 127), (0, w), (0, p)]) (st' := [(0, p), (2, 139)]) (g' := g24) rfl ?_
        refine wp_iald (k := 139) (p.toNat) rfl rfl (by omega) (by omega) (by decide) ?_
        exact wp_ret rfl rfl rfl ⟨_, _, rfl, Or.inl ⟨by unfold FaD; omega, _, _, hA24, by first | (rw [if_pos (by omega)]; exact hN24) | (rw [if_neg (by omega)])⟩, hF24⟩
      · refine wp_n 3 (pc' := 45) (L' := [(2, 127), (0, w), (0, p)]) (st' := [(0, (g24 127 33))]) (g' := g24) rfl ?_
        exact wp_ret rfl rfl rfl ⟨_, _, rfl, Or.inl ⟨by unfold FaD; omega, _, _, hA24, by first | (rw [if_pos (by omega)]; exact hN24) | (rw [if_neg (by omega)])⟩, hF24⟩
    · refine wp_n 2 (pc' := 14) (L' := [(2, 127), (0, w), (0, p)]) (st' := [(0, p), (2, 127)]) (g' := g) rfl ?_
      refine wp_cv (as := [(2, 127), (0, p)]) (rest := []) rfl rfl rfl (Nat.le_of_ble_eq_true rfl) rfl (m_isPocket (by omega) (by assumption) (by omega)) (by decide) (fun r8 h9 => ?_)
      rcases h9 with ⟨rfl, p14⟩ | ⟨rfl, p14⟩
      · refine wp_eq (L' := [(2, 127), (0, w), (0, p)]) (st' := [(0, 1)]) (g' := g) ?_
        refine wp_n 3 (pc' := 24) (L' := [(2, 127), (0, w), (0, p)]) (st' := [(0, w), (2, 127)]) (g' := g) rfl ?_
        refine wp_cv (as := [(2, 127), (0, w)]) (rest := []) rfl rfl rfl (Nat.le_of_ble_eq_true rfl) rfl (m_fall (c := c) (P := P) (w := w) (by assumption) hI hM) (by decide) (fun r10 h11 => ?_)
        obtain ⟨g24, N24, rfl, hN24, hb24, hA24, hF24⟩ := h11
        refine wp_eq (L' := [(2, 127), (0, w), (0, p)]) (st' := []) (g' := g24) ?_
        refine wp_n 2 (pc' := 29) (L' := [(2, 127), (0, w), (0, p)]) (st' := [(0, (-1)), (0, p)]) (g' := g24) rfl ?_
        refine wp_ic_ne rfl (fun c12 => ?_) (fun c12 => ?_)
        · refine wp_n 3 (pc' := 44) (L' := [(2, 127), (0, w), (0, p)]) (st' := [(0, p), (2, 139)]) (g' := g24) rfl ?_
          refine wp_iald (k := 139) (p.toNat) rfl rfl (by omega) (by omega) (by decide) ?_
          exact wp_ret rfl rfl rfl ⟨_, _, rfl, Or.inl ⟨by unfold FaD; omega, _, _, hA24, by first | (rw [if_pos (by omega)]; exact hN24) | (rw [if_neg (by omega)])⟩, hF24⟩
        · refine wp_n 3 (pc' := 45) (L' := [(2, 127), (0, w), (0, p)]) (st' := [(0, (g24 127 33))]) (g' := g24) rfl ?_
          exact wp_ret rfl rfl rfl ⟨_, _, rfl, Or.inl ⟨by unfold FaD; omega, _, _, hA24, by first | (rw [if_pos (by omega)]; exact hN24) | (rw [if_neg (by omega)])⟩, hF24⟩
      · refine wp_eq (L' := [(2, 127), (0, w), (0, p)]) (st' := [(0, 0)]) (g' := g) ?_
        refine wp_n 2 (pc' := 21) (L' := [(2, 127), (0, w), (0, p)]) (st' := [(0, (-1))]) (g' := g) rfl ?_
        exact wp_ret rfl rfl rfl ⟨_, _, rfl, Or.inr ⟨by unfold FaD; omega, rfl⟩, FrN.rfl⟩
  · refine wp_eq (L' := [(2, 127), (0, w), (0, p)]) (st' := [(0, 0)]) (g' := g) ?_
    refine wp_n 2 (pc' := 21) (L' := [(2, 127), (0, w), (0, p)]) (st' := [(0, (-1))]) (g' := g) rfl ?_
    exact wp_ret rfl rfl rfl ⟨_, _, rfl, Or.inr ⟨by unfold FaD; omega, rfl⟩, FrN.rfl⟩
theorem M_falls {sn : Nat} {sx : Nat → Int} {b : Nat} {g c : am_G} {P : Nat} {w p : Int} (h_w : R32 w) (h_p : R32 p) (hI : CInv P c) (hM : MRel c g) : Ev sn sx 7 236 [(2, 127), (0, w), (0, p)] (SH b) g (MPost b g (fun c1 v1 => FaA P c w p v1 ∧ CoE c c1)) := (m_falls h_w h_p hI hM).mono fun r hh => mpost_n (A := FaA P c w p) hM (fun _ _ => FaA.uniq hI) hh
