/-! WHERE: the reference's ways -/
def okA (ev tb fl : Nat → Int) (n e : Nat) (w : Nat → Int) (t : Nat) : Prop := (0 < spn ev tb fl e t n ↔ 0 ≤ w t) ∧ ∀ u : Nat, u < t → 0 ≤ w t → w t ≠ w u
def okB (ev tb fl sc : Nat → Int) (n e : Nat) (w : Nat → Int) (t : Nat) : Prop := 0 ≤ sc (3 * e + t) → ((0 < spn ev tb fl e t n → w t = sc (3 * e + t)) ∧ ∀ u : Nat, u < 3 → u ≠ t → w u ≠ sc (3 * e + t) ∧ sc (3 * e + u) ≠ sc (3 * e + t))
theorem okw_def {ev tb fl sc : Nat → Int} {n e : Nat} {w : Nat → Int} : okw ev tb fl sc n e w ↔ (∀ t : Nat, t < 3 → okA ev tb fl n e w t) ∧ ∀ t : Nat, t < 3 → okB ev tb fl sc n e w t := Iff.rfl
theorem okw_eq {ev tb fl sc : Nat → Int} {n e : Nat} {w w' : Nat → Int} (h : ∀ t : Nat, t < 3 → w t = w' t) (H : okw ev tb fl sc n e w) : okw ev tb fl sc n e w' := by
  refine ⟨fun t ht => ?_, fun t ht => ?_⟩
  · rw [← h t ht]
    exact ⟨(H.1 t ht).1, fun u hu => by rw [← h u (by omega)]; exact (H.1 t ht).2 u hu⟩
  · intro h0
    have h2 := H.2 t ht h0
    rw [← h t ht]
    exact ⟨h2.1, fun u hu hn => by rw [← h u hu]; exact h2.2 u hu hn⟩
theorem spn_le {ev tb fl : Nat → Int} {e t : Int} (n : Nat) : spn ev tb fl e t n ≤ n := by
  induction n with
  | zero => exact Nat.le_refl _
  | succ n ih => rw [spn]; split <;> omega
set_option maxHeartbeats 400000 in
set_option maxRecDepth 20000 in
theorem m_spins {sn : Nat} {sx : Nat → Int} {b : Nat} {g : am_G} {c : am_G} {P e t : Nat} (hI : CInv P c) (hM : MRel c g) (he : e < 4) (ht : t < 3) : Ev sn sx 2 228 [(2, 127), (0, ((e : Nat) : Int)), (0, ((t : Nat) : Int))] (SH b) g (fun r => r = (some (0, (((spn (c 11) (c 12) (c 14) (e : Int) (t : Int) (c 10 4).toNat) : Nat) : Int)), SH b, g)) := by
  have h5 := hI.ck.1
  have hn := hI.rg.r10_6 4 rfl
  have hBk := hI.bk
  refine ev_of (K := 1) T228 (by decide) rfl rfl (Nat.le_of_ble_eq_true rfl) ?_
  refine wp_eq (L' := [(2, 127), (0, ((e : Nat) : Int)), (0, ((t : Nat) : Int)), (9, 0), (9, 0)]) (st' := []) (g' := g) ?_
  refine wp_n 4 (pc' := 5) (L' := [(2, 127), (0, ((e : Nat) : Int)), (0, ((t : Nat) : Int)), (0, 0), (0, 0)]) (st' := []) (g' := g) rfl ?_
  have L5 : ∀ (lf : Nat) (i : Nat), (c 10 4).toNat - i < lf → (i ≤ (c 10 4).toNat) → ((spn (c 11) (c 12) (c 14) (e : Int) (t : Int) i) ≤ i) → Wp sn sx 1 T228 5 [(2, 127), (0, ((e : Nat) : Int)), (0, ((t : Nat) : Int)), (0, (((spn (c 11) (c 12) (c 14) (e : Int) (t : Int) i) : Nat) : Int)), (0, ((i : Nat) : Int))] [] (SH b) g (fun r => r = (some (0, (((spn (c 11) (c 12) (c 14) (e : Int) (t : Int) (c 10 4).toNat) : Nat) : Int)), SH b, g)) := by
    intro lf
    induction lf with
    | zero => intro i hlf; exact absurd hlf (Nat.not_lt_zero _)
    | succ lf ih5 =>
      intro i hlf hi hs
      refine wp_n 4 (pc' := 12) (L' := [(2, 127), (0, ((e : Nat) : Int)), (0, ((t : Nat) : Int)), (0, (((spn (c 11) (c 12) (c 14) (e : Int) (t : Int) i) : Nat) : Int)), (0, ((i : Nat) : Int))]) (st' := [(0, 2), (2, 128), (0, ((i : Nat) : Int))]) (g' := g) rfl ?_
      refine wp_iald (k := 128) (2) rfl rfl (by omega) (by omega) (by decide) ?_
      refine wp_eq (L' := [(2, 127), (0, ((e : Nat) : Int)), (0, ((t : Nat) : Int)), (0, (((spn (c 11) (c 12) (c 14) (e : Int) (t : Int) i) : Nat) : Int)), (0, ((i : Nat) : Int))]) (st' := [(0, (c 10 4)), (0, ((i : Nat) : Int))]) (g' := g) ?_ (by rfl) (by rw [hM.written]) (by rfl)
      refine wp_ic_ge rfl (fun c1 => ?_) (fun c1 => ?_)
      · have hk2 : i = (c 10 4).toNat := by omega
        refine wp_n 1 (pc' := 42) (L' := [(2, 127), (0, ((e : Nat) : Int)), (0, ((t : Nat) : Int)), (0, (((spn (c 11) (c 12) (c 14) (e : Int) (t : Int) i) : Nat) : Int)), (0, ((i : Nat) : Int))]) (st' := [(0, (((spn (c 11) (c 12) (c 14) (e : Int) (t : Int) i) : Nat) : Int))]) (g' := g) rfl ?_
        exact wp_ret rfl rfl rfl (by rw [hk2])
      · refine wp_n 5 (pc' := 22) (L' := [(2, 127), (0, ((e : Nat) : Int)), (0, ((t : Nat) : Int)), (0, (((spn (c 11) (c 12) (c 14) (e : Int) (t : Int) i) : Nat) : Int)), (0, ((i : Nat) : Int))]) (st' := [(0, ((t : Nat) : Int)), (0, ((e : Nat) : Int)), (0, ((i : Nat) : Int)), (2, 127), (0, (((spn (c 11) (c 12) (c 14) (e : Int) (t : Int) i) : Nat) : Int))]) (g' := g) rfl ?_
        refine wp_cv (as := [(2, 127), (0, ((i : Nat) : Int)), (0, ((e : Nat) : Int)), (0, ((t : Nat) : Int))]) (rest := [(0, (((spn (c 11) (c 12) (c 14) (e : Int) (t : Int) i) : Nat) : Int))]) rfl rfl rfl (Nat.le_of_ble_eq_true rfl) rfl (m_isSpin (c := c) (P := P) (i := i) hI.rg hM h5 (by omega) (by omega) (by omega)) (by decide) (fun r2 h3 => ?_)
        rcases h3 with ⟨rfl, p22⟩ | ⟨rfl, p22⟩
        · refine wp_eq (L' := [(2, 127), (0, ((e : Nat) : Int)), (0, ((t : Nat) : Int)), (0, (((spn (c 11) (c 12) (c 14) (e : Int) (t : Int) i) : Nat) : Int)), (0, ((i : Nat) : Int))]) (st' := [(0, 1), (0, (((spn (c 11) (c 12) (c 14) (e : Int) (t : Int) i) : Nat) : Int))]) (g' := g) ?_
          refine wp_n 7 (pc' := 5) (L' := [(2, 127), (0, ((e : Nat) : Int)), (0, ((t : Nat) : Int)), (0, ((((spn (c 11) (c 12) (c 14) (e : Int) (t : Int) i) : Nat) : Int) + 1)), (0, (((i : Nat) : Int) + 1))]) (st' := []) (g' := g) rfl ?_
          refine wp_eq (ih5 (i + 1) ?_ ?_ ?_) (by first | (rw [spn, if_pos p22]; rfl) | (rw [spn, if_neg p22]; rfl)) (by rfl) (by rfl)
          · omega
          · omega
          · rw [spn]; split <;> omega
        · refine wp_eq (L' := [(2, 127), (0, ((e : Nat) : Int)), (0, ((t : Nat) : Int)), (0, (((spn (c 11) (c 12) (c 14) (e : Int) (t : Int) i) : Nat) : Int)), (0, ((i : Nat) : Int))]) (st' := [(0, 0), (0, (((spn (c 11) (c 12) (c 14) (e : Int) (t : Int) i) : Nat) : Int))]) (g' := g) ?_
          refine wp_n 6 (pc' := 5) (L' := [(2, 127), (0, ((e : Nat) : Int)), (0, ((t : Nat) : Int)), (0, ((((spn (c 11) (c 12) (c 14) (e : Int) (t : Int) i) : Nat) : Int) + 0)), (0, (((i : Nat) : Int) + 1))]) (st' := []) (g' := g) rfl ?_
          refine wp_eq (ih5 (i + 1) ?_ ?_ ?_) (by first | (rw [spn, if_pos p22]; rfl) | (rw [spn, if_neg p22]; rfl)) (by rfl) (by rfl)
          · omega
          · omega
          · rw [spn]; split <;> omega
  refine wp_eq (L5 (_ + 1) (0) (Nat.lt_succ_self _) ?_ ?_) (by first | rfl | (simp; done) | (simp; omega)) (by rfl) (by rfl)
  · exact Nat.zero_le _
  · exact Nat.le_refl _
set_option maxHeartbeats 400000 in
set_option maxRecDepth 20000 in
theorem m_isScratched {sn : Nat} {sx : Nat → Int} {b : Nat} {g : am_G} {c : am_G} {P e : Nat} (hI : CInv P c) (hM : MRel c g) (he : e < 4) (hw : ∀ t : Nat, t < 3 → -1 ≤ g 137 t ∧ g 137 t ≤ 3) : Ev sn sx 3 230 [(2, 127), (0, ((e : Nat) : Int))] (SH b) g (fun r => Is1 r (SH b) g (∀ t : Nat, t < 3 → okB (c 11) (c 12) (c 14) (c 15) (c 10 4).toNat e (g 137) t)) := by
  have h5 := hI.ck.1
  have hn := hI.rg.r10_6 4 rfl
  have hBk := hI.bk
  refine ev_of (K := 2) T230 (by decide) rfl rfl (Nat.le_of_ble_eq_true rfl) ?_
  refine wp_eq (L' := [(2, 127), (0, ((e : Nat) : Int)), (9, 0), (9, 0), (9, 0)]) (st' := []) (g' := g) ?_
  refine wp_n 2 (pc' := 2) (L' := [(2, 127), (0, ((e : Nat) : Int)), (0, 0), (9, 0), (9, 0)]) (st' := []) (g' := g) rfl ?_
  have L2 : ∀ (lf : Nat) (t : Nat) (w3 w4 : am_V), 3 - t < lf → (t ≤ 3) → (∀ x : Nat, x < t → okB (c 11) (c 12) (c 14) (c 15) (c 10 4).toNat e (g 137) x) → Wp sn sx 2 T230 2 [(2, 127), (0, ((e : Nat) : Int)), (0, ((t : Nat) : Int)), w3, w4] [] (SH b) g (fun r => Is1 r (SH b) g (∀ t : Nat, t < 3 → okB (c 11) (c 12) (c 14) (c 15) (c 10 4).toNat e (g 137) t)) := by
    intro lf
    induction lf with
    | zero => intro t w3 w4 hlf; exact absurd hlf (Nat.not_lt_zero _)
    | succ lf ih2 =>
      intro t w3 w4 hlf ht hN
      refine wp_n 2 (pc' := 4) (L' := [(2, 127), (0, ((e : Nat) : Int)), (0, ((t : Nat) : Int)), w3, w4]) (st' := [(0, 3), (0, ((t : Nat) : Int))]) (g' := g) rfl ?_
      refine wp_ic_ge rfl (fun c1 => ?_) (fun c1 => ?_)
      · refine wp_n 1 (pc' := 110) (L' := [(2, 127), (0, ((e : Nat) : Int)), (0, ((t : Nat) : Int)), w3, w4]) (st' := [(0, 1)]) (g' := g) rfl ?_
        exact wp_ret rfl rfl rfl (Or.inl ⟨rfl, fun x hx => hN x (by omega)⟩)
      · have hsc := hBk.2.2.2.2.1 (3 * e + t) (by omega)
        have hwt := hw t (by omega)
        have hsl := spn_le (ev := c 11) (tb := c 12) (fl := c 14) (e := (e : Int)) (t := ((t : Nat) : Int)) (c 10 4).toNat
        refine wp_n 9 (pc' := 20) (L' := [(2, 127), (0, ((e : Nat) : Int)), (0, ((t : Nat) : Int)), w3, w4]) (st' := [(0, ((1380 + (3 * ((e : Nat) : Int))) + ((t : Nat) : Int))), (2, 128)]) (g' := g) rfl ?_
        refine wp_iald (k := 128) ((1380 + (3 * e + t))) rfl rfl (by omega) (by omega) (by decide) ?_
        refine wp_eq (L' := [(2, 127), (0, ((e : Nat) : Int)), (0, ((t : Nat) : Int)), w3, w4]) (st' := [(0, (c 15 (3 * e + t)))]) (g' := g) ?_ (by rfl) (by rw [hM.scr _ (by omega)]) (by rfl)
        refine wp_n 2 (pc' := 23) (L' := [(2, 127), (0, ((e : Nat) : Int)), (0, ((t : Nat) : Int)), (0, (c 15 (3 * e + t))), w4]) (st' := [(0, (c 15 (3 * e + t)))]) (g' := g) rfl ?_
        refine wp_if_ge rfl (fun c2 => ?_) (fun c2 => ?_)
        · refine wp_n 3 (pc' := 32) (L' := [(2, 127), (0, ((e : Nat) : Int)), (0, ((t : Nat) : Int)), (0, (c 15 (3 * e + t))), w4]) (st' := [(0, ((t : Nat) : Int)), (0, ((e : Nat) : Int)), (2, 127)]) (g' := g) rfl ?_
          refine wp_cv (as := [(2, 127), (0, ((e : Nat) : Int)), (0, ((t : Nat) : Int))]) (rest := []) rfl rfl rfl (Nat.le_of_ble_eq_true rfl) rfl (m_spins (c := c) (P := P) (e := e) (t := t) hI hM (by omega) (by omega)) (by decide) (fun r3 h4 => ?_)
          obtain rfl := h4
          refine wp_eq (L' := [(2, 127), (0, ((e : Nat) : Int)), (0, ((t : Nat) : Int)), (0, (c 15 (3 * e + t))), w4]) (st' := [(0, (((spn (c 11) (c 12) (c 14) (e : Int) ((t : Nat) : Int) (c 10 4).toNat) : Nat) : Int))]) (g' := g) ?_
          refine wp_if_le rfl (fun c5 => ?_) (fun c5 => ?_)
          · refine wp_n 2 (pc' := 53) (L' := [(2, 127), (0, ((e : Nat) : Int)), (0, ((t : Nat) : Int)), (0, (c 15 (3 * e + t))), (0, 0)]) (st' := []) (g' := g) rfl ?_
            have L53 : ∀ (lf : Nat) (u : Nat), 3 - u < lf → (u ≤ 3) → (0 < (spn (c 11) (c 12) (c 14) (e : Int) ((t : Nat) : Int) (c 10 4).toNat) → g 137 t = (c 15 (3 * e + t))) → (∀ x : Nat, x < u → x ≠ t → g 137 x ≠ (c 15 (3 * e + t)) ∧ c 15 (3 * e + x) ≠ (c 15 (3 * e + t))) → Wp sn sx 2 T230 53 [(2, 127), (0, ((e : Nat) : Int)), (0, ((t : Nat) : Int)), (0, (c 15 (3 * e + t))), (0, ((u : Nat) : Int))] [] (SH b) g (fun r => Is1 r (SH b) g (∀ t : Nat, t < 3 → okB (c 11) (c 12) (c 14) (c 15) (c 10 4).toNat e (g 137) t)) := by
              intro lf
              induction lf with
              | zero => intro u hlf; exact absurd hlf (Nat.not_lt_zero _)
              | succ lf ih53 =>
                intro u hlf hu hq hN2
                refine wp_n 2 (pc' := 56) (L' := [(2, 127), (0, ((e : Nat) : Int)), (0, ((t : Nat) : Int)), (0, (c 15 (3 * e + t))), (0, ((u : Nat) : Int))]) (st' := [(0, 3), (0, ((u : Nat) : Int))]) (g' := g) rfl ?_
                refine wp_ic_ge rfl (fun c6 => ?_) (fun c6 => ?_)
                · refine wp_n 2 (pc' := 2) (L' := [(2, 127), (0, ((e : Nat) : Int)), (0, (((t : Nat) : Int) + 1)), (0, (c 15 (3 * e + t))), (0, ((u : Nat) : Int))]) (st' := []) (g' := g) rfl ?_
                  refine wp_eq (ih2 (t + 1) ((0, (c 15 (3 * e + t)))) ((0, ((u : Nat) : Int))) ?_ ?_ ?_) (by first | rfl | (simp; done) | (simp; omega)) (by rfl) (by rfl)
                  · omega
                  · omega
                  · intro x hx
                    by_cases q : x = t
                    · subst q; first | exact fun h0 => absurd h0 (by omega) | exact fun _ => ⟨hq, fun v hv hvn => hN2 v (by omega) hvn⟩
                    · exact hN x (by omega)
                · have hsu := hBk.2.2.2.2.1 (3 * e + u) (by omega)
                  have hwu := hw u (by omega)
                  refine wp_n 2 (pc' := 62) (L' := [(2, 127), (0, ((e : Nat) : Int)), (0, ((t : Nat) : Int)), (0, (c 15 (3 * e + t))), (0, ((u : Nat) : Int))]) (st' := [(0, ((t : Nat) : Int)), (0, ((u : Nat) : Int))]) (g' := g) rfl ?_
                  refine wp_ic_eq rfl (fun c7 => ?_) (fun c7 => ?_)
                  · refine wp_n 2 (pc' := 53) (L' := [(2, 127), (0, ((e : Nat) : Int)), (0, ((t : Nat) : Int)), (0, (c 15 (3 * e + t))), (0, (((u : Nat) : Int) + 1))]) (st' := []) (g' := g) rfl ?_
                    refine wp_eq (ih53 (u + 1) ?_ ?_ ?_ ?_) (by first | rfl | (simp; done) | (simp; omega)) (by rfl) (by rfl)
                    · omega
                    · omega
                    · exact hq
                    · intro x hx hxt
                      by_cases q : x = u
                      · subst q; first | (exfalso; omega) | (refine ⟨?_, ?_⟩ <;> omega)
                      · exact hN2 x (by omega) hxt
                  · refine wp_n 3 (pc' := 71) (L' := [(2, 127), (0, ((e : Nat) : Int)), (0, ((t : Nat) : Int)), (0, (c 15 (3 * e + t))), (0, ((u : Nat) : Int))]) (st' := [(0, ((u : Nat) : Int)), (2, 137)]) (g' := g) rfl ?_
                    refine wp_iald (k := 137) (u) rfl rfl (by omega) (by omega) (by decide) ?_
                    refine wp_n 1 (pc' := 73) (L' := [(2, 127), (0, ((e : Nat) : Int)), (0, ((t : Nat) : Int)), (0, (c 15 (3 * e + t))), (0, ((u : Nat) : Int))]) (st' := [(0, (c 15 (3 * e + t))), (0, (g 137 u))]) (g' := g) rfl ?_
                    refine wp_ic_eq rfl (fun c8 => ?_) (fun c8 => ?_)
                    · refine wp_n 1 (pc' := 96) (L' := [(2, 127), (0, ((e : Nat) : Int)), (0, ((t : Nat) : Int)), (0, (c 15 (3 * e + t))), (0, ((u : Nat) : Int))]) (st' := [(0, 0)]) (g' := g) rfl ?_
                      exact wp_ret rfl rfl rfl (Or.inr ⟨rfl, fun hh => by
                        have q := hh t (by omega) (by omega)
                        first
                        | (have := q.1 (by omega); omega)
                        | (have := q.2 u (by omega) (by omega); omega)⟩)
                    · refine wp_n 9 (pc' := 90) (L' := [(2, 127), (0, ((e : Nat) : Int)), (0, ((t : Nat) : Int)), (0, (c 15 (3 * e + t))), (0, ((u : Nat) : Int))]) (st' := [(0, ((1380 + (3 * ((e : Nat) : Int))) + ((u : Nat) : Int))), (2, 128)]) (g' := g) rfl ?_
                      refine wp_iald (k := 128) ((1380 + (3 * e + u))) rfl rfl (by omega) (by omega) (by decide) ?_
                      refine wp_eq (L' := [(2, 127), (0, ((e : Nat) : Int)), (0, ((t : Nat) : Int)), (0, (c 15 (3 * e + t))), (0, ((u : Nat) : Int))]) (st' := [(0, (c 15 (3 * e + u)))]) (g' := g) ?_ (by rfl) (by rw [hM.scr _ (by omega)]) (by rfl)
                      refine wp_n 1 (pc' := 92) (L' := [(2, 127), (0, ((e : Nat) : Int)), (0, ((t : Nat) : Int)), (0, (c 15 (3 * e + t))), (0, ((u : Nat) : Int))]) (st' := [(0, (c 15 (3 * e + t))), (0, (c 15 (3 * e + u)))]) (g' := g) rfl ?_
                      refine wp_ic_ne rfl (fun c9 => ?_) (fun c9 => ?_)
                      · refine wp_n 2 (pc' := 53) (L' := [(2, 127), (0, ((e : Nat) : Int)), (0, ((t : Nat) : Int)), (0, (c 15 (3 * e + t))), (0, (((u : Nat) : Int) + 1))]) (st' := []) (g' := g) rfl ?_
                        refine wp_eq (ih53 (u + 1) ?_ ?_ ?_ ?_) (by first | rfl | (simp; done) | (simp; omega)) (by rfl) (by rfl)
                        · omega
                        · omega
                        · exact hq
                        · intro x hx hxt
                          by_cases q : x = u
                          · subst q; first | (exfalso; omega) | (refine ⟨?_, ?_⟩ <;> omega)
                          · exact hN2 x (by omega) hxt
                      · refine wp_n 1 (pc' := 96) (L' := [(2, 127), (0, ((e : Nat) : Int)), (0, ((t : Nat) : Int)), (0, (c 15 (3 * e + t))), (0, ((u : Nat) : Int))]) (st' := [(0, 0)]) (g' := g) rfl ?_
                        exact wp_ret rfl rfl rfl (Or.inr ⟨rfl, fun hh => by
                          have q := hh t (by omega) (by omega)
                          first
                          | (have := q.1 (by omega); omega)
                          | (have := q.2 u (by omega) (by omega); omega)⟩)
            refine wp_eq (L53 (_ + 1) (0) (Nat.lt_succ_self _) ?_ ?_ ?_) (by first | rfl | (simp; done) | (simp; omega)) (by rfl) (by rfl)
            · exact Nat.zero_le _
            · omega
            · exact fun x hx => absurd hx (Nat.not_lt_zero _)
          · refine wp_n 3 (pc' := 43) (L' := [(2, 127), (0, ((e : Nat) : Int)), (0, ((t : Nat) : Int)), (0, (c 15 (3 * e + t))), w4]) (st' := [(0, ((t : Nat) : Int)), (2, 137)]) (g' := g) rfl ?_
            refine wp_iald (k := 137) (t) rfl rfl (by omega) (by omega) (by decide) ?_
            refine wp_n 1 (pc' := 45) (L' := [(2, 127), (0, ((e : Nat) : Int)), (0, ((t : Nat) : Int)), (0, (c 15 (3 * e + t))), w4]) (st' := [(0, (c 15 (3 * e + t))), (0, (g 137 t))]) (g' := g) rfl ?_
            refine wp_ic_eq rfl (fun c10 => ?_) (fun c10 => ?_)
            · refine wp_n 2 (pc' := 53) (L' := [(2, 127), (0, ((e : Nat) : Int)), (0, ((t : Nat) : Int)), (0, (c 15 (3 * e + t))), (0, 0)]) (st' := []) (g' := g) rfl ?_
              have L53 : ∀ (lf : Nat) (u : Nat), 3 - u < lf → (u ≤ 3) → (0 < (spn (c 11) (c 12) (c 14) (e : Int) ((t : Nat) : Int) (c 10 4).toNat) → g 137 t = (c 15 (3 * e + t))) → (∀ x : Nat, x < u → x ≠ t → g 137 x ≠ (c 15 (3 * e + t)) ∧ c 15 (3 * e + x) ≠ (c 15 (3 * e + t))) → Wp sn sx 2 T230 53 [(2, 127), (0, ((e : Nat) : Int)), (0, ((t : Nat) : Int)), (0, (c 15 (3 * e + t))), (0, ((u : Nat) : Int))] [] (SH b) g (fun r => Is1 r (SH b) g (∀ t : Nat, t < 3 → okB (c 11) (c 12) (c 14) (c 15) (c 10 4).toNat e (g 137) t)) := by
                intro lf
                induction lf with
                | zero => intro u hlf; exact absurd hlf (Nat.not_lt_zero _)
                | succ lf ih53 =>
                  intro u hlf hu hq hN2
                  refine wp_n 2 (pc' := 56) (L' := [(2, 127), (0, ((e : Nat) : Int)), (0, ((t : Nat) : Int)), (0, (c 15 (3 * e + t))), (0, ((u : Nat) : Int))]) (st' := [(0, 3), (0, ((u : Nat) : Int))]) (g' := g) rfl ?_
                  refine wp_ic_ge rfl (fun c11 => ?_) (fun c11 => ?_)
                  · refine wp_n 2 (pc' := 2) (L' := [(2, 127), (0, ((e : Nat) : Int)), (0, (((t : Nat) : Int) + 1)), (0, (c 15 (3 * e + t))), (0, ((u : Nat) : Int))]) (st' := []) (g' := g) rfl ?_
                    refine wp_eq (ih2 (t + 1) ((0, (c 15 (3 * e + t)))) ((0, ((u : Nat) : Int))) ?_ ?_ ?_) (by first | rfl | (simp; done) | (simp; omega)) (by rfl) (by rfl)
                    · omega
                    · omega
                    · intro x hx
                      by_cases q : x = t
                      · subst q; first | exact fun h0 => absurd h0 (by omega) | exact fun _ => ⟨hq, fun v hv hvn => hN2 v (by omega) hvn⟩
                      · exact hN x (by omega)
                  · have hsu := hBk.2.2.2.2.1 (3 * e + u) (by omega)
                    have hwu := hw u (by omega)
                    refine wp_n 2 (pc' := 62) (L' := [(2, 127), (0, ((e : Nat) : Int)), (0, ((t : Nat) : Int)), (0, (c 15 (3 * e + t))), (0, ((u : Nat) : Int))]) (st' := [(0, ((t : Nat) : Int)), (0, ((u : Nat) : Int))]) (g' := g) rfl ?_
                    refine wp_ic_eq rfl (fun c12 => ?_) (fun c12 => ?_)
                    · refine wp_n 2 (pc' := 53) (L' := [(2, 127), (0, ((e : Nat) : Int)), (0, ((t : Nat) : Int)), (0, (c 15 (3 * e + t))), (0, (((u : Nat) : Int) + 1))]) (st' := []) (g' := g) rfl ?_
                      refine wp_eq (ih53 (u + 1) ?_ ?_ ?_ ?_) (by first | rfl | (simp; done) | (simp; omega)) (by rfl) (by rfl)
                      · omega
                      · omega
                      · exact hq
                      · intro x hx hxt
                        by_cases q : x = u
                        · subst q; first | (exfalso; omega) | (refine ⟨?_, ?_⟩ <;> omega)
                        · exact hN2 x (by omega) hxt
                    · refine wp_n 3 (pc' := 71) (L' := [(2, 127), (0, ((e : Nat) : Int)), (0, ((t : Nat) : Int)), (0, (c 15 (3 * e + t))), (0, ((u : Nat) : Int))]) (st' := [(0, ((u : Nat) : Int)), (2, 137)]) (g' := g) rfl ?_
                      refine wp_iald (k := 137) (u) rfl rfl (by omega) (by omega) (by decide) ?_
                      refine wp_n 1 (pc' := 73) (L' := [(2, 127), (0, ((e : Nat) : Int)), (0, ((t : Nat) : Int)), (0, (c 15 (3 * e + t))), (0, ((u : Nat) : Int))]) (st' := [(0, (c 15 (3 * e + t))), (0, (g 137 u))]) (g' := g) rfl ?_
                      refine wp_ic_eq rfl (fun c13 => ?_) (fun c13 => ?_)
                      · refine wp_n 1 (pc' := 96) (L' := [(2, 127), (0, ((e : Nat) : Int)), (0, ((t : Nat) : Int)), (0, (c 15 (3 * e + t))), (0, ((u : Nat) : Int))]) (st' := [(0, 0)]) (g' := g) rfl ?_
                        exact wp_ret rfl rfl rfl (Or.inr ⟨rfl, fun hh => by
                          have q := hh t (by omega) (by omega)
                          first
                          | (have := q.1 (by omega); omega)
                          | (have := q.2 u (by omega) (by omega); omega)⟩)
                      · refine wp_n 9 (pc' := 90) (L' := [(2, 127), (0, ((e : Nat) : Int)), (0, ((t : Nat) : Int)), (0, (c 15 (3 * e + t))), (0, ((u : Nat) : Int))]) (st' := [(0, ((1380 + (3 * ((e : Nat) : Int))) + ((u : Nat) : Int))), (2, 128)]) (g' := g) rfl ?_
                        refine wp_iald (k := 128) ((1380 + (3 * e + u))) rfl rfl (by omega) (by omega) (by decide) ?_
                        refine wp_eq (L' := [(2, 127), (0, ((e : Nat) : Int)), (0, ((t : Nat) : Int)), (0, (c 15 (3 * e + t))), (0, ((u : Nat) : Int))]) (st' := [(0, (c 15 (3 * e + u)))]) (g' := g) ?_ (by rfl) (by rw [hM.scr _ (by omega)]) (by rfl)
                        refine wp_n 1 (pc' := 92) (L' := [(2, 127), (0, ((e : Nat) : Int)), (0, ((t : Nat) : Int)), (0, (c 15 (3 * e + t))), (0, ((u : Nat) : Int))]) (st' := [(0, (c 15 (3 * e + t))), (0, (c 15 (3 * e + u)))]) (g' := g) rfl ?_
                        refine wp_ic_ne rfl (fun c14 => ?_) (fun c14 => ?_)
                        · refine wp_n 2 (pc' := 53) (L' := [(2, 127), (0, ((e : Nat) : Int)), (0, ((t : Nat) : Int)), (0, (c 15 (3 * e + t))), (0, (((u : Nat) : Int) + 1))]) (st' := []) (g' := g) rfl ?_
                          refine wp_eq (ih53 (u + 1) ?_ ?_ ?_ ?_) (by first | rfl | (simp; done) | (simp; omega)) (by rfl) (by rfl)
                          · omega
                          · omega
                          · exact hq
                          · intro x hx hxt
                            by_cases q : x = u
                            · subst q; first | (exfalso; omega) | (refine ⟨?_, ?_⟩ <;> omega)
                            · exact hN2 x (by omega) hxt
                        · refine wp_n 1 (pc' := 96) (L' := [(2, 127), (0, ((e : Nat) : Int)), (0, ((t : Nat) : Int)), (0, (c 15 (3 * e + t))), (0, ((u : Nat) : Int))]) (st' := [(0, 0)]) (g' := g) rfl ?_
                          exact wp_ret rfl rfl rfl (Or.inr ⟨rfl, fun hh => by
                            have q := hh t (by omega) (by omega)
                            first
                            | (have := q.1 (by omega); omega)
                            | (have := q.2 u (by omega) (by omega); omega)⟩)
              refine wp_eq (L53 (_ + 1) (0) (Nat.lt_succ_self _) ?_ ?_ ?_) (by first | rfl | (simp; done) | (simp; omega)) (by rfl) (by rfl)
              · exact Nat.zero_le _
              · omega
              · exact fun x hx => absurd hx (Nat.not_lt_zero _)
            · refine wp_n 1 (pc' := 49) (L' := [(2, 127), (0, ((e : Nat) : Int)), (0, ((t : Nat) : Int)), (0, (c 15 (3 * e + t))), w4]) (st' := [(0, 0)]) (g' := g) rfl ?_
              exact wp_ret rfl rfl rfl (Or.inr ⟨rfl, fun hh => by
                have q := hh t (by omega) (by omega)
                first
                | (have := q.1 (by omega); omega)
                | (have := q.2 u (by omega) (by omega); omega)⟩)
        · refine wp_n 3 (pc' := 2) (L' := [(2, 127), (0, ((e : Nat) : Int)), (0, (((t : Nat) : Int) + 1)), (0, (c 15 (3 * e + t))), w4]) (st' := []) (g' := g) rfl ?_
          refine wp_eq (ih2 (t + 1) ((0, (c 15 (3 * e + t)))) (w4) ?_ ?_ ?_) (by first | rfl | (simp; done) | (simp; omega)) (by rfl) (by rfl)
          · omega
          · omega
          · intro x hx
            by_cases q : x = t
            · subst q; first | exact fun h0 => absurd h0 (by omega) | exact fun _ => ⟨hq, fun v hv hvn => hN2 v (by omega) hvn⟩
            · exact hN x (by omega)
  refine wp_eq (L2 (_ + 1) (0) ((9, 0)) ((9, 0)) (Nat.lt_succ_self _) ?_ ?_) (by first | rfl | (simp; done) | (simp; omega)) (by rfl) (by rfl)
  · exact Nat.zero_le _
  · exact fun x hx => absurd hx (Nat.not_lt_zero _)
set_option maxHeartbeats 400000 in
set_option maxRecDepth 20000 in
theorem m_isWay {sn : Nat} {sx : Nat → Int} {b : Nat} {g : am_G} {c : am_G} {P e : Nat} (hI : CInv P c) (hM : MRel c g) (he : e < 4) (hw : ∀ t : Nat, t < 3 → -1 ≤ g 137 t ∧ g 137 t ≤ 3) : Ev sn sx 4 231 [(2, 127), (0, ((e : Nat) : Int))] (SH b) g (fun r => Is1 r (SH b) g (okw (c 11) (c 12) (c 14) (c 15) (c 10 4).toNat e (g 137))) := by
  have h5 := hI.ck.1
  have hn := hI.rg.r10_6 4 rfl
  have hBk := hI.bk
  refine ev_of (K := 3) T231 (by decide) rfl rfl (Nat.le_of_ble_eq_true rfl) ?_
  refine wp_eq (L' := [(2, 127), (0, ((e : Nat) : Int)), (9, 0), (9, 0)]) (st' := []) (g' := g) ?_
  refine wp_n 2 (pc' := 2) (L' := [(2, 127), (0, ((e : Nat) : Int)), (0, 0), (9, 0)]) (st' := []) (g' := g) rfl ?_
  have L2 : ∀ (lf : Nat) (t : Nat) (w3 : am_V), 3 - t < lf → (t ≤ 3) → (∀ x : Nat, x < t → okA (c 11) (c 12) (c 14) (c 10 4).toNat e (g 137) x) → Wp sn sx 3 T231 2 [(2, 127), (0, ((e : Nat) : Int)), (0, ((t : Nat) : Int)), w3] [] (SH b) g (fun r => Is1 r (SH b) g (okw (c 11) (c 12) (c 14) (c 15) (c 10 4).toNat e (g 137))) := by
    intro lf
    induction lf with
    | zero => intro t w3 hlf; exact absurd hlf (Nat.not_lt_zero _)
    | succ lf ih2 =>
      intro t w3 hlf ht hN
      refine wp_n 2 (pc' := 4) (L' := [(2, 127), (0, ((e : Nat) : Int)), (0, ((t : Nat) : Int)), w3]) (st' := [(0, 3), (0, ((t : Nat) : Int))]) (g' := g) rfl ?_
      refine wp_ic_ge rfl (fun c1 => ?_) (fun c1 => ?_)
      · refine wp_n 2 (pc' := 87) (L' := [(2, 127), (0, ((e : Nat) : Int)), (0, ((t : Nat) : Int)), w3]) (st' := [(0, ((e : Nat) : Int)), (2, 127)]) (g' := g) rfl ?_
        refine wp_cv (as := [(2, 127), (0, ((e : Nat) : Int))]) (rest := []) rfl rfl rfl (Nat.le_of_ble_eq_true rfl) rfl (m_isScratched (c := c) (P := P) (e := e) hI hM he hw) (by decide) (fun r2 h3 => ?_)
        rcases h3 with ⟨rfl, p87⟩ | ⟨rfl, p87⟩
        · refine wp_eq (L' := [(2, 127), (0, ((e : Nat) : Int)), (0, ((t : Nat) : Int)), w3]) (st' := [(0, 1)]) (g' := g) ?_
          exact wp_ret rfl rfl rfl (Or.inl ⟨rfl, fun x hx => hN x (by omega), p87⟩)
        · refine wp_eq (L' := [(2, 127), (0, ((e : Nat) : Int)), (0, ((t : Nat) : Int)), w3]) (st' := [(0, 0)]) (g' := g) ?_
          exact wp_ret rfl rfl rfl (Or.inr ⟨rfl, fun hh => by
            first
            | exact p87 hh.2
            | (have q := (hh.1 t (by omega)).1; omega)
            | exact (hh.1 t (by omega)).2 u (by omega) (by omega) (by omega)⟩)
      · have hwt := hw t (by omega)
        have hsl := spn_le (ev := c 11) (tb := c 12) (fl := c 14) (e := (e : Int)) (t := ((t : Nat) : Int)) (c 10 4).toNat
        refine wp_n 3 (pc' := 10) (L' := [(2, 127), (0, ((e : Nat) : Int)), (0, ((t : Nat) : Int)), w3]) (st' := [(0, ((t : Nat) : Int)), (0, ((e : Nat) : Int)), (2, 127)]) (g' := g) rfl ?_
        refine wp_cv (as := [(2, 127), (0, ((e : Nat) : Int)), (0, ((t : Nat) : Int))]) (rest := []) rfl rfl rfl (Nat.le_of_ble_eq_true rfl) rfl (m_spins (c := c) (P := P) (e := e) (t := t) hI hM (by omega) (by omega)) (by decide) (fun r4 h5 => ?_)
        obtain rfl := h5
        refine wp_eq (L' := [(2, 127), (0, ((e : Nat) : Int)), (0, ((t : Nat) : Int)), w3]) (st' := [(0, (((spn (c 11) (c 12) (c 14) (e : Int) ((t : Nat) : Int) (c 10 4).toNat) : Nat) : Int))]) (g' := g) ?_
        refine wp_if_le rfl (fun c6 => ?_) (fun c6 => ?_)
        · refine wp_n 4 (pc' := 26) (L' := [(2, 127), (0, ((e : Nat) : Int)), (0, ((t : Nat) : Int)), w3]) (st' := [(0, ((t : Nat) : Int)), (2, 137), (0, 0)]) (g' := g) rfl ?_
          refine wp_iald (k := 137) (t) rfl rfl (by omega) (by omega) (by decide) ?_
          refine wp_if_lt rfl (fun c7 => ?_) (fun c7 => ?_)
          · refine wp_n 4 (pc' := 42) (L' := [(2, 127), (0, ((e : Nat) : Int)), (0, ((t : Nat) : Int)), (0, 0)]) (st' := []) (g' := g) rfl ?_
            have L42 : ∀ (lf : Nat) (u : Nat), t - u < lf → (u ≤ t) → (∀ x : Nat, x < u → 0 ≤ g 137 t → g 137 t ≠ g 137 x) → Wp sn sx 3 T231 42 [(2, 127), (0, ((e : Nat) : Int)), (0, ((t : Nat) : Int)), (0, ((u : Nat) : Int))] [] (SH b) g (fun r => Is1 r (SH b) g (okw (c 11) (c 12) (c 14) (c 15) (c 10 4).toNat e (g 137))) := by
              intro lf
              induction lf with
              | zero => intro u hlf; exact absurd hlf (Nat.not_lt_zero _)
              | succ lf ih42 =>
                intro u hlf hu hN2
                refine wp_n 2 (pc' := 44) (L' := [(2, 127), (0, ((e : Nat) : Int)), (0, ((t : Nat) : Int)), (0, ((u : Nat) : Int))]) (st' := [(0, ((t : Nat) : Int)), (0, ((u : Nat) : Int))]) (g' := g) rfl ?_
                refine wp_ic_ge rfl (fun c8 => ?_) (fun c8 => ?_)
                · refine wp_n 2 (pc' := 2) (L' := [(2, 127), (0, ((e : Nat) : Int)), (0, (((t : Nat) : Int) + 1)), (0, ((u : Nat) : Int))]) (st' := []) (g' := g) rfl ?_
                  refine wp_eq (ih2 (t + 1) ((0, ((u : Nat) : Int))) ?_ ?_ ?_) (by first | rfl | (simp; done) | (simp; omega)) (by rfl) (by rfl)
                  · omega
                  · omega
                  · intro x hx
                    by_cases q : x = t
                    · subst q; exact ⟨by omega, fun v hv h0 => hN2 v (by omega) h0⟩
                    · exact hN x (by omega)
                · have hwu := hw u (by omega)
                  refine wp_n 3 (pc' := 52) (L' := [(2, 127), (0, ((e : Nat) : Int)), (0, ((t : Nat) : Int)), (0, ((u : Nat) : Int))]) (st' := [(0, ((t : Nat) : Int)), (2, 137)]) (g' := g) rfl ?_
                  refine wp_iald (k := 137) (t) rfl rfl (by omega) (by omega) (by decide) ?_
                  refine wp_if_lt rfl (fun c9 => ?_) (fun c9 => ?_)
                  · refine wp_n 2 (pc' := 42) (L' := [(2, 127), (0, ((e : Nat) : Int)), (0, ((t : Nat) : Int)), (0, (((u : Nat) : Int) + 1))]) (st' := []) (g' := g) rfl ?_
                    refine wp_eq (ih42 (u + 1) ?_ ?_ ?_) (by first | rfl | (simp; done) | (simp; omega)) (by rfl) (by rfl)
                    · omega
                    · omega
                    · intro x hx h0
                      by_cases q : x = u
                      · subst q; omega
                      · exact hN2 x (by omega) h0
                  · refine wp_n 3 (pc' := 61) (L' := [(2, 127), (0, ((e : Nat) : Int)), (0, ((t : Nat) : Int)), (0, ((u : Nat) : Int))]) (st' := [(0, ((t : Nat) : Int)), (2, 137)]) (g' := g) rfl ?_
                    refine wp_iald (k := 137) (t) rfl rfl (by omega) (by omega) (by decide) ?_
                    refine wp_n 3 (pc' := 67) (L' := [(2, 127), (0, ((e : Nat) : Int)), (0, ((t : Nat) : Int)), (0, ((u : Nat) : Int))]) (st' := [(0, ((u : Nat) : Int)), (2, 137), (0, (g 137 t))]) (g' := g) rfl ?_
                    refine wp_iald (k := 137) (u) rfl rfl (by omega) (by omega) (by decide) ?_
                    refine wp_ic_ne rfl (fun c10 => ?_) (fun c10 => ?_)
                    · refine wp_n 2 (pc' := 42) (L' := [(2, 127), (0, ((e : Nat) : Int)), (0, ((t : Nat) : Int)), (0, (((u : Nat) : Int) + 1))]) (st' := []) (g' := g) rfl ?_
                      refine wp_eq (ih42 (u + 1) ?_ ?_ ?_) (by first | rfl | (simp; done) | (simp; omega)) (by rfl) (by rfl)
                      · omega
                      · omega
                      · intro x hx h0
                        by_cases q : x = u
                        · subst q; omega
                        · exact hN2 x (by omega) h0
                    · refine wp_n 1 (pc' := 72) (L' := [(2, 127), (0, ((e : Nat) : Int)), (0, ((t : Nat) : Int)), (0, ((u : Nat) : Int))]) (st' := [(0, 0)]) (g' := g) rfl ?_
                      exact wp_ret rfl rfl rfl (Or.inr ⟨rfl, fun hh => by
                        first
                        | exact p87 hh.2
                        | (have q := (hh.1 t (by omega)).1; omega)
                        | exact (hh.1 t (by omega)).2 u (by omega) (by omega) (by omega)⟩)
            refine wp_eq (L42 (_ + 1) (0) (Nat.lt_succ_self _) ?_ ?_) (by first | rfl | (simp; done) | (simp; omega)) (by rfl) (by rfl)
            · exact Nat.zero_le _
            · exact fun x hx => absurd hx (Nat.not_lt_zero _)
          · refine wp_n 4 (pc' := 39) (L' := [(2, 127), (0, ((e : Nat) : Int)), (0, ((t : Nat) : Int)), w3]) (st' := [(0, 0)]) (g' := g) rfl ?_
            exact wp_ret rfl rfl rfl (Or.inr ⟨rfl, fun hh => by
              first
              | exact p87 hh.2
              | (have q := (hh.1 t (by omega)).1; omega)
              | exact (hh.1 t (by omega)).2 u (by omega) (by omega) (by omega)⟩)
        · refine wp_n 5 (pc' := 26) (L' := [(2, 127), (0, ((e : Nat) : Int)), (0, ((t : Nat) : Int)), w3]) (st' := [(0, ((t : Nat) : Int)), (2, 137), (0, 1)]) (g' := g) rfl ?_
          refine wp_iald (k := 137) (t) rfl rfl (by omega) (by omega) (by decide) ?_
          refine wp_if_lt rfl (fun c11 => ?_) (fun c11 => ?_)
          · refine wp_n 3 (pc' := 39) (L' := [(2, 127), (0, ((e : Nat) : Int)), (0, ((t : Nat) : Int)), w3]) (st' := [(0, 0)]) (g' := g) rfl ?_
            exact wp_ret rfl rfl rfl (Or.inr ⟨rfl, fun hh => by
              first
              | exact p87 hh.2
              | (have q := (hh.1 t (by omega)).1; omega)
              | exact (hh.1 t (by omega)).2 u (by omega) (by omega) (by omega)⟩)
          · refine wp_n 5 (pc' := 42) (L' := [(2, 127), (0, ((e : Nat) : Int)), (0, ((t : Nat) : Int)), (0, 0)]) (st' := []) (g' := g) rfl ?_
            have L42 : ∀ (lf : Nat) (u : Nat), t - u < lf → (u ≤ t) → (∀ x : Nat, x < u → 0 ≤ g 137 t → g 137 t ≠ g 137 x) → Wp sn sx 3 T231 42 [(2, 127), (0, ((e : Nat) : Int)), (0, ((t : Nat) : Int)), (0, ((u : Nat) : Int))] [] (SH b) g (fun r => Is1 r (SH b) g (okw (c 11) (c 12) (c 14) (c 15) (c 10 4).toNat e (g 137))) := by
              intro lf
              induction lf with
              | zero => intro u hlf; exact absurd hlf (Nat.not_lt_zero _)
              | succ lf ih42 =>
                intro u hlf hu hN2
                refine wp_n 2 (pc' := 44) (L' := [(2, 127), (0, ((e : Nat) : Int)), (0, ((t : Nat) : Int)), (0, ((u : Nat) : Int))]) (st' := [(0, ((t : Nat) : Int)), (0, ((u : Nat) : Int))]) (g' := g) rfl ?_
                refine wp_ic_ge rfl (fun c12 => ?_) (fun c12 => ?_)
                · refine wp_n 2 (pc' := 2) (L' := [(2, 127), (0, ((e : Nat) : Int)), (0, (((t : Nat) : Int) + 1)), (0, ((u : Nat) : Int))]) (st' := []) (g' := g) rfl ?_
                  refine wp_eq (ih2 (t + 1) ((0, ((u : Nat) : Int))) ?_ ?_ ?_) (by first | rfl | (simp; done) | (simp; omega)) (by rfl) (by rfl)
                  · omega
                  · omega
                  · intro x hx
                    by_cases q : x = t
                    · subst q; exact ⟨by omega, fun v hv h0 => hN2 v (by omega) h0⟩
                    · exact hN x (by omega)
                · have hwu := hw u (by omega)
                  refine wp_n 3 (pc' := 52) (L' := [(2, 127), (0, ((e : Nat) : Int)), (0, ((t : Nat) : Int)), (0, ((u : Nat) : Int))]) (st' := [(0, ((t : Nat) : Int)), (2, 137)]) (g' := g) rfl ?_
                  refine wp_iald (k := 137) (t) rfl rfl (by omega) (by omega) (by decide) ?_
                  refine wp_if_lt rfl (fun c13 => ?_) (fun c13 => ?_)
                  · refine wp_n 2 (pc' := 42) (L' := [(2, 127), (0, ((e : Nat) : Int)), (0, ((t : Nat) : Int)), (0, (((u : Nat) : Int) + 1))]) (st' := []) (g' := g) rfl ?_
                    refine wp_eq (ih42 (u + 1) ?_ ?_ ?_) (by first | rfl | (simp; done) | (simp; omega)) (by rfl) (by rfl)
                    · omega
                    · omega
                    · intro x hx h0
                      by_cases q : x = u
                      · subst q; omega
                      · exact hN2 x (by omega) h0
                  · refine wp_n 3 (pc' := 61) (L' := [(2, 127), (0, ((e : Nat) : Int)), (0, ((t : Nat) : Int)), (0, ((u : Nat) : Int))]) (st' := [(0, ((t : Nat) : Int)), (2, 137)]) (g' := g) rfl ?_
                    refine wp_iald (k := 137) (t) rfl rfl (by omega) (by omega) (by decide) ?_
                    refine wp_n 3 (pc' := 67) (L' := [(2, 127), (0, ((e : Nat) : Int)), (0, ((t : Nat) : Int)), (0, ((u : Nat) : Int))]) (st' := [(0, ((u : Nat) : Int)), (2, 137), (0, (g 137 t))]) (g' := g) rfl ?_
                    refine wp_iald (k := 137) (u) rfl rfl (by omega) (by omega) (by decide) ?_
                    refine wp_ic_ne rfl (fun c14 => ?_) (fun c14 => ?_)
                    · refine wp_n 2 (pc' := 42) (L' := [(2, 127), (0, ((e : Nat) : Int)), (0, ((t : Nat) : Int)), (0, (((u : Nat) : Int) + 1))]) (st' := []) (g' := g) rfl ?_
                      refine wp_eq (ih42 (u + 1) ?_ ?_ ?_) (by first | rfl | (simp; done) | (simp; omega)) (by rfl) (by rfl)
                      · omega
                      · omega
                      · intro x hx h0
                        by_cases q : x = u
                        · subst q; omega
                        · exact hN2 x (by omega) h0
                    · refine wp_n 1 (pc' := 72) (L' := [(2, 127), (0, ((e : Nat) : Int)), (0, ((t : Nat) : Int)), (0, ((u : Nat) : Int))]) (st' := [(0, 0)]) (g' := g) rfl ?_
                      exact wp_ret rfl rfl rfl (Or.inr ⟨rfl, fun hh => by
                        first
                        | exact p87 hh.2
                        | (have q := (hh.1 t (by omega)).1; omega)
                        | exact (hh.1 t (by omega)).2 u (by omega) (by omega) (by omega)⟩)
            refine wp_eq (L42 (_ + 1) (0) (Nat.lt_succ_self _) ?_ ?_) (by first | rfl | (simp; done) | (simp; omega)) (by rfl) (by rfl)
            · exact Nat.zero_le _
            · exact fun x hx => absurd hx (Nat.not_lt_zero _)
  refine wp_eq (L2 (_ + 1) (0) ((9, 0)) (Nat.lt_succ_self _) ?_ ?_) (by first | rfl | (simp; done) | (simp; omega)) (by rfl) (by rfl)
  · exact Nat.zero_le _
  · exact fun x hx => absurd hx (Nat.not_lt_zero _)
