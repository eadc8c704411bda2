/-! THE REFERENCE'S READER: a text -/
def FrRx (t : Nat) (g h : am_G) : Prop := ∀ c j, (c ≠ 127 ∨ j < 6 ∨ j = 7 ∨ j = 8 ∨ j = 15 ∨ j = 18 ∨ 22 ≤ j) → (c ≠ 130 ∨ j < 800 * t ∨ 800 * t + 800 ≤ j) → c ≠ 132 → h c j = g c j
theorem FrRx.rfl {t : Nat} {g : am_G} : FrRx t g g := fun _ _ _ _ _ => Eq.refl _
theorem FrRx.trans {t : Nat} {g h i : am_G} (h1 : FrRx t g h) (h2 : FrRx t h i) : FrRx t g i := fun c j a b x => (h2 c j a b x).trans (h1 c j a b x)
theorem FrRx.up {t k i : Nat} {x : Int} {g h : am_G} (h1 : FrRx t g h) (hk : (k = 127 ∧ (i = 6 ∨ (9 ≤ i ∧ i ≤ 14) ∨ i = 16 ∨ i = 17 ∨ i = 20)) ∨ (k = 130 ∧ 800 * t ≤ i ∧ i < 800 * t + 800)) : FrRx t g (am_up h k i x) := fun c j a b y => (up_no (by omega)).trans (h1 c j a b y)
theorem FrTx.r {t W : Nat} {g h : am_G} (hF : FrTx t W g h) : FrRx t g h := fun c j a b x => hF c j (by omega) (by omega) x
theorem FrTm.r {t : Nat} {g h : am_G} (hF : FrTm g h) : FrRx t g h := fun c j a _ _ => hF c j (by omega)
theorem RdM.r {T : Nat → Int} {L t : Nat} {g h : am_G} (hR : RdM T L g) (hF : FrRx t g h) : RdM T L h := ⟨fun j hj => (hF 131 j (by omega) (by omega) (by omega)).trans (hR.1 j hj), (hF 127 5 (by omega) (by omega) (by omega)).trans hR.2.1, hR.2.2⟩
/-- what the reference's row holds of a clause -/
def ClMm (t : Nat) (h : am_G) (k : Nat) : Option (Nat × List Int) → Prop
  | none => h 130 (800 * t + 2 * k) = 0 ∧ h 130 (800 * t + 1 + 2 * k) = 0
  | some y => h 130 (800 * t + 2 * k) = (y.1 : Int) ∧ h 130 (800 * t + 1 + 2 * k) = ((y.1 + y.2.length : Nat) : Int) ∧ OtR t y.1 h y.2
theorem ClMm.keep {t k F : Nat} {g h : am_G} {x : Option (Nat × List Int)} (hc : ClMm t g k x) (hF : ∀ j, 800 * t + 30 ≤ j → j < 800 * t + 30 + 2 * F → h 130 j = g 130 j) (h0 : h 130 (800 * t + 2 * k) = g 130 (800 * t + 2 * k)) (h1 : h 130 (800 * t + 1 + 2 * k) = g 130 (800 * t + 1 + 2 * k)) (hl : ∀ y, x = some y → y.1 + y.2.length ≤ F) : ClMm t h k x := by
  cases x with
  | none => exact ⟨h0.trans hc.1, h1.trans hc.2⟩
  | some y =>
    have := hl y rfl
    exact ⟨h0.trans hc.1, h1.trans hc.2.1, hc.2.2.same fun j a1 a2 => hF j (by omega) (by omega)⟩
theorem lnC_snoc {c p1 : Nat} {C : List Int} : ∀ cs : List (Nat × List Int × Nat), lnC (cs ++ [(c, C, p1)]) = lnC cs + C.length := by
  intro cs
  induction cs with
  | nil => show C.length + 0 = 0 + C.length; omega
  | cons x r ih => show x.2.1.length + lnC (r ++ [(c, C, p1)]) = x.2.1.length + lnC r + C.length; rw [ih]; omega
theorem nd_mid {c p1 : Nat} {C : List Int} {pre r : List (Nat × List Int × Nat)} (h : ((pre ++ (c, C, p1) :: r).map Prod.fst).Nodup) : ¬ c ∈ pre.map Prod.fst := by
  rw [List.map_append, List.nodup_append] at h
  intro hc
  exact h.2.2 c hc c (by rw [List.map_cons]; exact List.mem_cons_self) rfl
set_option maxHeartbeats 400000 in
set_option maxRecDepth 20000 in
theorem m_readText {sn : Nat} {sx : Nat → Int} {b : Nat} {g : am_G} {T : Nat → Int} {L t p9 F9 f q : Nat} {cs : List (Nat × List Int × Nat)} (hR : RdM T L g) (ht : g 128 0 = (t : Int)) (ht6 : t < 6) (hTr : TrN T L (sk T L 0) 0 cs p9 F9) (hE : (tK T L p9 = -1 ∧ f = 0) ∨ ((1 ≤ f ∧ f ≤ 5) ∧ PClF T L p9 (fun c => fnd cs 0 c ≠ none) f q)) : Ev sn sx 8 185 [(2, 127)] (SH b) g (fun r => ∃ g', r = (some (0, (f : Int)), SH b, g') ∧ FrRx t g g' ∧ (f ≠ 0 → g' 127 10 = (q : Int)) ∧ (f = 0 → ∀ k, k < 4 → ClMm t g' k (fnd cs 0 k))) := by
  have hL3 := hR.2.2.1
  have hf5 : f ≤ 5 := hE.elim (fun h => by omega) (fun h => h.1.2)
  refine ev_of (K := 7) T185 (by decide) rfl rfl (Nat.le_of_ble_eq_true rfl) ?_
  refine wp_eq (L' := [(2, 127), (9, 0)]) (st' := []) (g' := g) ?_
  refine wp_n 5 (pc' := 9) (L' := [(2, 127), (9, 0)]) (st' := [(0, 0), (2, 128), (0, 800), (2, 127)]) (g' := g) rfl ?_
  refine wp_iald (k := 128) (0) rfl rfl (by omega) (by omega) (by decide) ?_
  refine wp_eq (L' := [(2, 127), (9, 0)]) (st' := [(0, ((t : Nat) : Int)), (0, 800), (2, 127)]) (g' := g) ?_ (by rfl) (by rw [ht]) (by rfl)
  refine wp_n 1 (pc' := 11) (L' := [(2, 127), (9, 0)]) (st' := [(0, (800 * ((t : Nat) : Int))), (2, 127)]) (g' := g) rfl ?_
  refine wp_eq (L' := [(2, 127), (9, 0)]) (st' := [(0, (((800 * t) : Nat) : Int)), (2, 127)]) (g' := g) ?_ (by rfl) (by rw [show ((800 * t : Nat) : Int) = 800 * (t : Int) by omega]) (by rfl)
  refine wp_n 3 (pc' := 16) (L' := [(2, 127), (0, 0)]) (st' := []) (g' := (am_up g 127 14 (((800 * t) : Nat) : Int))) rfl ?_
  have L16 : ∀ (lf : Nat) (i : Nat) (h : am_G), 8 - i < lf → (i ≤ 8) → (∀ u : Nat, u < i → h 130 (800 * t + u) = 0) → (FrRx t g h) → (h 127 14 = ((800 * t : Nat) : Int)) → Wp sn sx 7 T185 16 [(2, 127), (0, ((i : Nat) : Int))] [] (SH b) h (fun r => ∃ g', r = (some (0, (f : Int)), SH b, g') ∧ FrRx t g g' ∧ (f ≠ 0 → g' 127 10 = (q : Int)) ∧ (f = 0 → ∀ k, k < 4 → ClMm t g' k (fnd cs 0 k))) := by
    intro lf
    induction lf with
    | zero => intro i h hlf; exact absurd hlf (Nat.not_lt_zero _)
    | succ lf ih16 =>
      intro i h hlf hi hz hF h14
      refine wp_n 2 (pc' := 19) (L' := [(2, 127), (0, ((i : Nat) : Int))]) (st' := [(0, 8), (0, ((i : Nat) : Int))]) (g' := h) rfl ?_
      refine wp_ic_ge rfl (fun c1 => ?_) (fun c1 => ?_)
      · have hi8 : i = 8 := by omega
        refine wp_n 13 (pc' := 61) (L' := [(2, 127), (0, ((i : Nat) : Int))]) (st' := [(2, 127)]) (g' := (am_up (am_up (am_up (am_up h 127 16 0) 127 20 0) 127 17 0) 127 9 0)) rfl ?_
        refine wp_cv (as := [(2, 127)]) (rest := []) rfl rfl rfl (Nat.le_of_ble_eq_true rfl) rfl (m_nextToken (T := T) (L := L) (a := 0) (hR.r (t := t) ((((hF.up (by omega)).up (by omega)).up (by omega)).up (by omega))) up_eq (Nat.zero_le _)) (by decide) (fun r2 h3 => ?_)
        obtain ⟨g61, rfl, hT61, hF61⟩ := h3
        have hsk := sk_in (T := T) (L - 0) 0 rfl (Nat.zero_le _)
        refine wp_eq (L' := [(2, 127), (0, ((i : Nat) : Int))]) (st' := []) (g' := g61) ?_
        have L64 : ∀ (lf : Nat) (pre rest : List (Nat × List Int × Nat)) (p F v : Nat) (h2 : am_G) (w1 : am_V), rest.length < lf → (cs = pre ++ rest) → (Trc T L p F rest p9 F9) → (TkM T L h2 p) → (p ≤ L) → (F ≤ p) → (v < 16) → (∀ c, c < 4 → (cbt v c = 1 ↔ c ∈ pre.map Prod.fst)) → (h2 127 20 = 0) → (h2 127 16 = (F : Int)) → (h2 127 14 = ((800 * t : Nat) : Int)) → (h2 127 17 = (v : Int)) → (FrRx t g h2) → (F = lnC pre) → (∀ k, k < 4 → ClMm t h2 k (fnd pre 0 k)) → Wp sn sx 7 T185 64 [(2, 127), w1] [] (SH b) h2 (fun r => ∃ g', r = (some (0, (f : Int)), SH b, g') ∧ FrRx t g g' ∧ (f ≠ 0 → g' 127 10 = (q : Int)) ∧ (f = 0 → ∀ k, k < 4 → ClMm t g' k (fnd cs 0 k))) := by
          intro lf
          induction lf with
          | zero => intro pre rest p F v h2 w1 hlf; exact absurd hlf (Nat.not_lt_zero _)
          | succ lf ih64 =>
            intro pre rest p F v h2 w1 hlf hcs hTrr hT hp hFp hv hbits h20 h16 h14 h17 hF hlen hrows
            have hto := tkM_or (p := p) hR.2.2.2
            have hRh := hR.r hF
            refine wp_n 2 (pc' := 68) (L' := [(2, 127), w1]) (st' := [(0, (h2 127 11))]) (g' := h2) rfl ?_
            refine wp_eq (L' := [(2, 127), w1]) (st' := [(0, (tkM (tK T L p)))]) (g' := h2) ?_ (by rfl) (by rw [hT.2.1]) (by rfl)
            refine wp_if_eq rfl (fun c4 => ?_) (fun c4 => ?_)
            · have hk1 : tK T L p = -1 := by omega
              have hpe : cs = pre ∧ p = p9 := by
                cases hrx : rest with
                | nil => rw [hrx] at hTrr hcs; exact ⟨by rw [hcs, List.append_nil], hTrr.1⟩
                | cons x r => rw [hrx] at hTrr; have := hTrr.1.2.1; exfalso; omega
              have hf0 : f = 0 := by
                rcases hE with h | ⟨_, h⟩
                · exact h.2
                · exfalso
                  rcases h with h | ⟨c, _, h, _⟩
                  · exact h.1 (by rw [← hpe.2]; exact hk1)
                  · rw [← hpe.2] at h; omega
              refine wp_n 1 (pc' := 86) (L' := [(2, 127), w1]) (st' := [(0, 0)]) (g' := h2) rfl ?_
              exact wp_ret rfl rfl rfl (by rw [show ((f : Nat) : Int) = 0 by omega]; exact ⟨_, rfl, hF, fun q => by omega, fun _ => by rw [hpe.1]; exact hrows⟩)
            · have hD : (∃ c C p1, (∃ r2, rest = (c, C, p1) :: r2 ∧ Trc T L (nx T L p1) (F + C.length) r2 p9 F9) ∧ PCl T L p c p1 C ∧ cbt v c = 0) ∨ (rest = [] ∧ (1 ≤ f ∧ f ≤ 5) ∧ PClF T L p (fun c => cbt v c = 1) f q) := by
                cases hrx : rest with
                | nil =>
                  rw [hrx] at hTrr hcs
                  rw [List.append_nil] at hcs
                  rcases hE with h | ⟨h1, h2⟩
                  · exfalso; have := hTrr.1; rw [← this] at h; omega
                  · refine Or.inr ⟨rfl, h1, ?_⟩
                    rw [hTrr.1]
                    exact pclf_mono (fun c hc => by rw [hbits c hc, hcs, Ne, fnd_none, Classical.not_not]) h2
                | cons x r =>
                  rw [hrx] at hTrr hcs
                  refine Or.inl ⟨x.1, x.2.1, x.2.2, ⟨r, rfl, hTrr.2⟩, hTrr.1, ?_⟩
                  have hnn : ¬ x.1 ∈ pre.map Prod.fst := nd_mid (c := x.1) (C := x.2.1) (p1 := x.2.2) (r := r) (by have h9 := hTr.2; rw [hcs] at h9; exact h9)
                  exact (cbt_01 v x.1).resolve_right fun k => hnn ((hbits x.1 hTrr.1.1).mp k)
              have hff : rest = [] → 1 ≤ f := fun e => by
                rcases hD with ⟨c, C, p1, ⟨r2, h, _⟩, _⟩ | ⟨_, h, _⟩
                · rw [e] at h; cases h
                · exact h.1
              refine wp_n 1 (pc' := 72) (L' := [(2, 127), w1]) (st' := [(2, 127)]) (g' := h2) rfl ?_
              refine wp_cv (as := [(2, 127)]) (rest := []) rfl rfl rfl (Nat.le_of_ble_eq_true rfl) rfl (m_clauseD (t := t) (X := fun c C p1 => ∃ r2, rest = (c, C, p1) :: r2 ∧ Trc T L (nx T L p1) (F + C.length) r2 p9 F9) (Y := rest = []) hRh hT hp h20 h16 hFp h14 ht6 h17 hv hD) (by decide) (fun r5 h6 => ?_)
              rcases h6 with ⟨g72, c, C, p1, rfl, hF72, ⟨r2, hr2, hTr2⟩, hPC, hb72, hN72⟩ | ⟨x72, rfl, hF72, hY72, h10_⟩
              · have hnx72 := nx_in (T := T) hN72.2.1
                have hFl72 := hN72.2.2.2.2.1
                have hba := bit_all v hv c hPC.1
                have hnin : ¬ c ∈ pre.map Prod.fst := fun k => by
                  have := (hbits c hPC.1).mpr k
                  omega
                refine wp_eq (L' := [(2, 127), w1]) (st' := [(0, 0)]) (g' := g72) ?_
                refine wp_n 4 (pc' := 64) (L' := [(2, 127), (0, 0)]) (st' := []) (g' := g72) rfl ?_
                refine wp_eq (ih64 ((pre ++ [(c, C, p1)])) (r2) ((nx T L p1)) ((F + C.length)) ((v ||| 2 ^ c)) (g72) ((0, 0)) ?_ ?_ ?_ ?_ ?_ ?_ ?_ ?_ ?_ ?_ ?_ ?_ ?_ ?_ ?_) (by first | rfl | (simp; done) | (simp; omega)) (by rfl) (by rfl)
                · (have h9 : ((c, C, p1) :: r2).length < lf + 1 := by rw [← hr2]; assumption); exact Nat.lt_of_succ_lt_succ h9
                · rw [hcs, hr2, List.append_assoc]; rfl
                · exact hTr2
                · exact hN72.1
                · exact hnx72.2.1
                · omega
                · exact hba.1
                · intro d hd
                  rw [hba.2 d hd, List.map_append, List.mem_append, List.map_cons, List.map_nil, List.mem_singleton]
                  by_cases e : d = c
                  · rw [if_pos e]; exact ⟨fun _ => Or.inr e, fun _ => rfl⟩
                  · rw [if_neg e, hbits d hd]; exact ⟨Or.inl, fun k => k.resolve_right e⟩
                · exact hN72.2.2.1
                · exact hN72.2.2.2.1
                · exact (hF72 127 14 (by omega) (by omega) (by omega)).trans h14
                · exact hN72.2.2.2.2.2.1
                · exact hF.trans hF72.r
                · rw [lnC_snoc, ← hlen]
                · intro k hk
                  rw [fnd_snoc pre 0 ((fnd_none pre 0).mpr hnin)]
                  by_cases e : c = k
                  · subst e
                    rw [if_pos rfl, Nat.zero_add, ← hlen]
                    exact ⟨hN72.2.2.2.2.2.2.1, hN72.2.2.2.2.2.2.2.1, hN72.2.2.2.2.2.2.2.2.1⟩
                  · rw [if_neg e]
                    have e2 := hN72.2.2.2.2.2.2.2.2.2 k hk (fun x => e x.symm)
                    exact (hrows k hk).keep (F := F) (fun j a1 a2 => hF72 130 j (by omega) (by omega) (by omega)) e2.1 e2.2 fun y hy => by have := fnd_len pre 0 hy; omega
              · have hf1 := hff hY72
                refine wp_eq (L' := [(2, 127), w1]) (st' := [(0, ((f : Nat) : Int))]) (g' := x72) ?_
                refine wp_n 2 (pc' := 77) (L' := [(2, 127), (0, ((f : Nat) : Int))]) (st' := [(0, ((f : Nat) : Int))]) (g' := x72) rfl ?_
                refine wp_if_eq rfl (fun c7 => ?_) (fun c7 => ?_)
                · exfalso; omega
                · refine wp_n 1 (pc' := 81) (L' := [(2, 127), (0, ((f : Nat) : Int))]) (st' := [(0, ((f : Nat) : Int))]) (g' := x72) rfl ?_
                  exact wp_ret rfl rfl rfl ⟨_, rfl, hF.trans hF72.r, fun _ => h10_, fun q => by omega⟩
        refine wp_eq (L64 (_ + 1) ([]) (cs) ((sk T L 0)) (0) (0) (g61) ((0, ((i : Nat) : Int))) (Nat.lt_succ_self _) ?_ ?_ ?_ ?_ ?_ ?_ ?_ ?_ ?_ ?_ ?_ ?_ ?_ ?_) (by first | rfl | (simp; done) | (simp; omega)) (by rfl) (by rfl)
        · rfl
        · exact hTr.1
        · exact hT61
        · exact hsk.2
        · exact Nat.zero_le _
        · decide
        · intro c hc
          refine ⟨fun k => ?_, fun k => by cases k⟩
          exfalso
          unfold cbt at k
          rw [Nat.zero_div] at k
          omega
        · rw [hF61 127 20 (by omega), up_nj (by decide), up_nj (by decide), up_eq]
        · rw [hF61 127 16 (by omega), up_nj (by decide), up_nj (by decide), up_nj (by decide), up_eq]; rfl
        · rw [hF61 127 14 (by omega), up_nj (by decide), up_nj (by decide), up_nj (by decide), up_nj (by decide)]; exact h14
        · rw [hF61 127 17 (by omega), up_nj (by decide), up_eq]; rfl
        · exact ((((hF.up (by omega)).up (by omega)).up (by omega)).up (by omega)).trans hF61.r
        · rfl
        · intro k hk
          have e := fun j (hj : j < 8) => show g61 130 (800 * t + j) = 0 by rw [hF61 130 _ (by omega), up_ne (by decide), up_ne (by decide), up_ne (by decide), up_ne (by decide)]; exact hz j (by omega)
          exact ⟨e (2 * k) (by omega), by rw [Nat.add_assoc]; exact e (1 + 2 * k) (by omega)⟩
      · refine wp_n 4 (pc' := 30) (L' := [(2, 127), (0, ((i : Nat) : Int))]) (st' := [(0, (h 127 14)), (2, 130)]) (g' := h) rfl ?_
        refine wp_eq (L' := [(2, 127), (0, ((i : Nat) : Int))]) (st' := [(0, (((800 * t) : Nat) : Int)), (2, 130)]) (g' := h) ?_ (by rfl) (by rw [h14]) (by rfl)
        refine wp_n 3 (pc' := 33) (L' := [(2, 127), (0, ((i : Nat) : Int))]) (st' := [(0, 0), (0, ((((800 * t) : Nat) : Int) + ((i : Nat) : Int))), (2, 130)]) (g' := h) rfl ?_
        refine wp_iast (k := 130) ((800 * t + i)) rfl rfl (by omega) (by omega) (by decide) ?_
        refine wp_n 2 (pc' := 16) (L' := [(2, 127), (0, (((i : Nat) : Int) + 1))]) (st' := []) (g' := (am_up h 130 ((800 * t + i)) 0)) rfl ?_
        refine wp_eq (ih16 (i + 1) ((am_up h 130 ((800 * t + i)) 0)) ?_ ?_ ?_ ?_ ?_) (by first | rfl | (simp; done) | (simp; omega)) (by rfl) (by rfl)
        · omega
        · omega
        · intro u hu
          by_cases e : u = i
          · subst e; exact up_eq
          · rw [up_nj (by omega)]; exact hz u (by omega)
        · exact hF.up (by omega)
        · exact (up_ne (by decide)).trans h14
  refine wp_eq (L16 (_ + 1) (0) ((am_up g 127 14 (((800 * t) : Nat) : Int))) (Nat.lt_succ_self _) ?_ ?_ ?_ ?_) (by first | rfl | (simp; done) | (simp; omega)) (by rfl) (by rfl)
  · exact Nat.zero_le _
  · exact fun u hu => absurd hu (Nat.not_lt_zero _)
  · exact FrRx.rfl.up (by omega)
  · exact up_eq
