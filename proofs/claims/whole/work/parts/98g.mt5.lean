/-! THE REFERENCE'S READER: a sum -/
def Trm (T : Nat → Int) (L : Nat) (R : Nat × Sst) : Prop := R.1 ≠ 0 ∨ ¬ goes T L R.2
theorem rn_go {T : Nat → Int} {L k n : Nat} {s : Sst} {R : Nat × Sst} (h : rn T L k n s R) (ht : Trm T L R) (hg : goes T L s) : ∃ m, m < n ∧ (((rsm T L k s).1 = 0 ∧ rn T L k m (rsm T L k s).2 R) ∨ ((rsm T L k s).1 ≠ 0 ∧ R = rsm T L k s)) := by
  cases n with
  | zero =>
    have e : R = (0, s) := h
    rw [e] at ht
    exact absurd hg (ht.resolve_left (fun q => q rfl))
  | succ m => exact ⟨m, Nat.lt_succ_self _, h.2⟩
theorem rn_no {T : Nat → Int} {L k n : Nat} {s : Sst} {R : Nat × Sst} (h : rn T L k n s R) (hg : ¬ goes T L s) : R = (0, s) := by
  cases n with
  | zero => exact h
  | succ m => exact absurd h.1 hg
theorem rbg_le {T : Nat → Int} {L k p : Nat} {σ : List Nat} {out : List Int} : (rbg T L k p σ out).1 ≤ 5 := by
  unfold rbg
  repeat' split
  all_goals first | exact Nat.zero_le _ | exact (show 1 ≤ 5 by decide) | exact (show 2 ≤ 5 by decide) | exact (show 3 ≤ 5 by decide) | exact (show 5 ≤ 5 by decide)
theorem rbe_le {T : Nat → Int} {L p : Nat} {σ : List Nat} {out : List Int} : (rbe T L p σ out).1 ≤ 5 := by
  unfold rbe
  repeat' split
  all_goals first | exact Nat.zero_le _ | exact (show 1 ≤ 5 by decide) | exact (show 2 ≤ 5 by decide) | exact (show 3 ≤ 5 by decide) | exact (show 5 ≤ 5 by decide)
theorem psm_run {T : Nat → Int} {L k p p1 : Nat} {C : List Int} (H : PSm T L k 0 p p1 C) (hn : NoOp T L p1) : ∃ R, Rn T L k (p, [], false, []) R ∧ Trm T L R ∧ R.1 = 0 ∧ stl 3 R.2.2.1 = [] ∧ R.2.1 = p1 ∧ R.2.2.2.2 ++ ste 3 R.2.2.1 = C := by
  obtain ⟨m, m', hm, hm', H⟩ := H
  obtain ⟨out', H1, H2⟩ := H [] [] rfl (Or.inl rfl)
  have f1 := hm.fs (m' ++ [])
  have f2 := hm'.fs []
  refine ⟨_, H1, Or.inr ?_, rfl, ?_, rfl, ?_⟩
  · rintro (q | q | q | q | q | q)
    · exact Bool.noConfusion (show true = false from q)
    · exact hn.1 q
    · exact hn.2.1 q
    · exact hn.2.2.1 q
    · exact hn.2.2.2 q
    · have h2 : 0 < lat (m ++ (m' ++ [])) := q.2
      rw [f1.2.2.2.2, f2.2.2] at h2
      exact absurd h2 (by decide)
  · show stl 3 (m ++ (m' ++ [])) = []
    rw [f1.2.2.1, f2.1]; rfl
  · show out' ++ ste 3 (m ++ (m' ++ [])) = C
    rw [f1.2.2.2.1, f2.2.1, show ste 3 ([] : List Nat) = [] from rfl, List.append_nil, H2, List.nil_append]
theorem fl_run {T : Nat → Int} {L k p f q : Nat} (H : PSmF T L k 0 p f q) : ∃ R, Rn T L k (p, [], false, []) R ∧ Trm T L R ∧ ((R.1 = f ∧ f ≠ 0 ∧ R.2.1 = q) ∨ (f = 1 ∧ R.1 = 0 ∧ R.2.1 = q ∧ stl 3 R.2.2.1 ≠ [])) := by
  obtain ⟨h0, ⟨u, a, b⟩ | ⟨e, u, a, b, d, x⟩⟩ := H [] [] rfl (Or.inl rfl)
  · exact ⟨_, a, Or.inl h0, Or.inl ⟨rfl, h0, b⟩⟩
  · exact ⟨_, a, Or.inr b, Or.inr ⟨e, rfl, d, x⟩⟩
def SmM (T : Nat → Int) (L t W : Nat) (R : Nat × Sst) (g : am_G) (sh : am_Sh) (r : am_R) : Prop := ∃ g', FrZ t W g g' ∧ ((R.1 ≠ 0 ∧ r = (some (0, (R.1 : Int)), sh, g') ∧ g' 127 10 = (R.2.1 : Int)) ∨ (R.1 = 0 ∧ stl 3 R.2.2.1 ≠ [] ∧ r = (some (0, 1), sh, g') ∧ g' 127 10 = (R.2.1 : Int)) ∨ (R.1 = 0 ∧ stl 3 R.2.2.1 = [] ∧ r = (some (0, 0), sh, g') ∧ TkM T L g' R.2.1 ∧ R.2.1 ≤ L ∧ PSt t W R.2.1 [] (R.2.2.2.2 ++ ste 3 R.2.2.1) g'))
set_option maxHeartbeats 400000 in
set_option maxRecDepth 20000 in
theorem m_summed {sn : Nat} {sx : Nat → Int} {b : Nat} {g : am_G} {T : Nat → Int} {L p0 t W k : Nat} {R : Nat × Sst} (hR : RdM T L g) (hT0 : TkM T L g p0) (hp0 : p0 ≤ L) (h20 : g 127 20 = 0) (h16 : g 127 16 = (W : Int)) (hW : W ≤ p0) (h14 : g 127 14 = ((800 * t : Nat) : Int)) (ht6 : t < 6) (hk : g 127 6 = (k : Int)) (hk4 : k < 4) (hrun : Rn T L k (p0, [], false, []) R) (hTm : Trm T L R) : Ev sn sx 6 182 [(2, 127)] (SH b) g (SmM T L t W R g (SH b)) := by
  obtain ⟨n0, hrn0⟩ := hrun
  have hL3 := hR.2.2.1
  refine ev_of (K := 5) T182 (by decide) rfl rfl (Nat.le_of_ble_eq_true rfl) ?_
  refine wp_eq (L' := [(2, 127), (9, 0)]) (st' := []) (g' := g) ?_
  refine wp_n 6 (pc' := 10) (L' := [(2, 127), (9, 0)]) (st' := []) (g' := (am_up (am_up g 127 19 0) 127 21 0)) rfl ?_
  have L10 : ∀ (lf : Nat) (n p : Nat) (σ : List Nat) (bb : Bool) (out : List Int) (h : am_G) (w1 : am_V), n < lf → (rn T L k n (p, σ, bb, out) R) → (TkM T L h p) → (p ≤ L) → (PSt t W p σ out h) → (h 127 21 = (if bb = true then 1 else 0)) → (FrZ t W g h) → Wp sn sx 5 T182 10 [(2, 127), w1] [] (SH b) h (SmM T L t W R g (SH b)) := by
    intro lf
    induction lf with
    | zero => intro n p σ bb out h w1 hlf; exact absurd hlf (Nat.not_lt_zero _)
    | succ lf ih10 =>
      intro n p σ bb out h w1 hlf hrn hT hp hP hz hF
      obtain ⟨z, hz0, hz1⟩ : ∃ z : Int, h 127 21 = z ∧ ((z = 0 ∧ bb = false) ∨ (z = 1 ∧ bb = true)) := by
        cases bb with
        | false => exact ⟨0, hz, Or.inl ⟨rfl, rfl⟩⟩
        | true => exact ⟨1, hz, Or.inr ⟨rfl, rfl⟩⟩
      have hzr : 0 ≤ z ∧ z ≤ 1 := hz1.elim (fun q => by have := q.1; omega) (fun q => by have := q.1; omega)
      have hRh := hR.z hF
      refine wp_n 2 (pc' := 14) (L' := [(2, 127), w1]) (st' := [(0, (h 127 21))]) (g' := h) rfl ?_
      refine wp_eq (L' := [(2, 127), w1]) (st' := [(0, z)]) (g' := h) ?_ (by rfl) (by rw [hz0]) (by rfl)
      refine wp_if_eq rfl (fun c1 => ?_) (fun c1 => ?_)
      · refine wp_n 2 (pc' := 28) (L' := [(2, 127), w1]) (st' := [(0, (h 127 21))]) (g' := h) rfl ?_
        refine wp_eq (L' := [(2, 127), w1]) (st' := [(0, z)]) (g' := h) ?_ (by rfl) (by rw [hz0]) (by rfl)
        refine wp_if_eq rfl (fun c2 => ?_) (fun c2 => ?_)
        · refine wp_n 1 (pc' := 39) (L' := [(2, 127), w1]) (st' := [(2, 127)]) (g' := h) rfl ?_
          refine wp_cv (as := [(2, 127)]) (rest := []) rfl rfl rfl (Nat.le_of_ble_eq_true rfl) rfl (m_beginOne (k := k) hRh hT hp hP ((hF 127 6 (by omega) (by omega) (by omega)).trans hk) hk4 (by omega)) (by decide) (fun r3 h4 => ?_)
          obtain ⟨g39, rfl, hFx, hNx, hXx⟩ := h4
          have hbb : bb = false := hz1.elim (fun q => q.2) (fun q => by exfalso; have := q.1; omega)
          have hrs : rsm T L k (p, σ, bb, out) = (rbg T L k p σ out) := by rw [hbb]; rfl
          obtain ⟨m, hmn, hm⟩ := rn_go hrn hTm (Or.inl hbb)
          rw [hrs] at hm
          have hX5 := rbg_le (T := T) (L := L) (k := k) (p := p) (σ := σ) (out := out)
          refine wp_eq (L' := [(2, 127), w1]) (st' := [(0, ((((rbg T L k p σ out).1) : Nat) : Int))]) (g' := g39) ?_
          refine wp_n 2 (pc' := 44) (L' := [(2, 127), (0, ((((rbg T L k p σ out).1) : Nat) : Int))]) (st' := [(0, ((((rbg T L k p σ out).1) : Nat) : Int))]) (g' := g39) rfl ?_
          refine wp_if_eq rfl (fun c5 => ?_) (fun c5 => ?_)
          · have hm2 := hm.resolve_right (fun q => q.1 (by omega))
            have hN2 := hNx (by omega)
            refine wp_n 1 (pc' := 10) (L' := [(2, 127), (0, ((((rbg T L k p σ out).1) : Nat) : Int))]) (st' := []) (g' := g39) rfl ?_
            refine wp_eq (ih10 (m) (((rbg T L k p σ out).2.1)) (((rbg T L k p σ out).2.2.1)) (((rbg T L k p σ out).2.2.2.1)) (((rbg T L k p σ out).2.2.2.2)) (g39) ((0, ((((rbg T L k p σ out).1) : Nat) : Int))) ?_ ?_ ?_ ?_ ?_ ?_ ?_) (by first | rfl | (simp; done) | (simp; omega)) (by rfl) (by rfl)
            · omega
            · exact hm2.2
            · exact hN2.1
            · exact hN2.2.1
            · exact hN2.2.2.1
            · exact hN2.2.2.2
            · exact hF.trans hFx
          · have hm3 := hm.resolve_left (fun q => by have := q.1; omega)
            have hX3 := hXx hm3.1
            refine wp_n 1 (pc' := 48) (L' := [(2, 127), (0, ((((rbg T L k p σ out).1) : Nat) : Int))]) (st' := [(0, ((((rbg T L k p σ out).1) : Nat) : Int))]) (g' := g39) rfl ?_
            exact wp_ret rfl rfl rfl (by rw [hm3.2]; exact ⟨_, hF.trans hFx, Or.inl ⟨hm3.1, rfl, hX3⟩⟩)
        · refine wp_n 1 (pc' := 32) (L' := [(2, 127), w1]) (st' := [(2, 127)]) (g' := h) rfl ?_
          refine wp_cv (as := [(2, 127)]) (rest := []) rfl rfl rfl (Nat.le_of_ble_eq_true rfl) rfl (m_behindOne (k := k) hRh hT hp hP (by omega) (by first | exact p18 | (exfalso; omega))) (by decide) (fun r6 h7 => ?_)
          obtain ⟨g32, rfl, hFx, hNx, hXx⟩ := h7
          have hbb : bb = true := hz1.elim (fun q => by exfalso; have := q.1; omega) (fun q => q.2)
          have hrs : rsm T L k (p, σ, bb, out) = (rbe T L p σ out) := by rw [hbb]; rfl
          obtain ⟨m, hmn, hm⟩ := rn_go hrn hTm (Or.inr (by first | exact p18 | (exfalso; omega)))
          rw [hrs] at hm
          have hX5 := rbe_le (T := T) (L := L) (p := p) (σ := σ) (out := out)
          refine wp_eq (L' := [(2, 127), w1]) (st' := [(0, ((((rbe T L p σ out).1) : Nat) : Int))]) (g' := g32) ?_
          refine wp_n 3 (pc' := 44) (L' := [(2, 127), (0, ((((rbe T L p σ out).1) : Nat) : Int))]) (st' := [(0, ((((rbe T L p σ out).1) : Nat) : Int))]) (g' := g32) rfl ?_
          refine wp_if_eq rfl (fun c8 => ?_) (fun c8 => ?_)
          · have hm2 := hm.resolve_right (fun q => q.1 (by omega))
            have hN2 := hNx (by omega)
            refine wp_n 1 (pc' := 10) (L' := [(2, 127), (0, ((((rbe T L p σ out).1) : Nat) : Int))]) (st' := []) (g' := g32) rfl ?_
            refine wp_eq (ih10 (m) (((rbe T L p σ out).2.1)) (((rbe T L p σ out).2.2.1)) (((rbe T L p σ out).2.2.2.1)) (((rbe T L p σ out).2.2.2.2)) (g32) ((0, ((((rbe T L p σ out).1) : Nat) : Int))) ?_ ?_ ?_ ?_ ?_ ?_ ?_) (by first | rfl | (simp; done) | (simp; omega)) (by rfl) (by rfl)
            · omega
            · exact hm2.2
            · exact hN2.1
            · exact hN2.2.1
            · exact hN2.2.2.1
            · exact hN2.2.2.2
            · exact hF.trans hFx
          · have hm3 := hm.resolve_left (fun q => by have := q.1; omega)
            have hX3 := hXx hm3.1
            refine wp_n 1 (pc' := 48) (L' := [(2, 127), (0, ((((rbe T L p σ out).1) : Nat) : Int))]) (st' := [(0, ((((rbe T L p σ out).1) : Nat) : Int))]) (g' := g32) rfl ?_
            exact wp_ret rfl rfl rfl (by rw [hm3.2]; exact ⟨_, hF.trans hFx, Or.inl ⟨hm3.1, rfl, hX3⟩⟩)
      · refine wp_n 1 (pc' := 18) (L' := [(2, 127), w1]) (st' := [(2, 127)]) (g' := h) rfl ?_
        refine wp_cv (as := [(2, 127)]) (rest := []) rfl rfl rfl (Nat.le_of_ble_eq_true rfl) rfl (m_goesOn (T := T) (L := L) (p := p) hRh hT hP) (by decide) (fun r9 h10 => ?_)
        rcases h10 with ⟨rfl, p18⟩ | ⟨rfl, p18⟩
        · refine wp_eq (L' := [(2, 127), w1]) (st' := [(0, 1)]) (g' := h) ?_
          refine wp_n 3 (pc' := 28) (L' := [(2, 127), w1]) (st' := [(0, (h 127 21))]) (g' := h) rfl ?_
          refine wp_eq (L' := [(2, 127), w1]) (st' := [(0, z)]) (g' := h) ?_ (by rfl) (by rw [hz0]) (by rfl)
          refine wp_if_eq rfl (fun c11 => ?_) (fun c11 => ?_)
          · refine wp_n 1 (pc' := 39) (L' := [(2, 127), w1]) (st' := [(2, 127)]) (g' := h) rfl ?_
            refine wp_cv (as := [(2, 127)]) (rest := []) rfl rfl rfl (Nat.le_of_ble_eq_true rfl) rfl (m_beginOne (k := k) hRh hT hp hP ((hF 127 6 (by omega) (by omega) (by omega)).trans hk) hk4 (by omega)) (by decide) (fun r12 h13 => ?_)
            obtain ⟨g39, rfl, hFx, hNx, hXx⟩ := h13
            have hbb : bb = false := hz1.elim (fun q => q.2) (fun q => by exfalso; have := q.1; omega)
            have hrs : rsm T L k (p, σ, bb, out) = (rbg T L k p σ out) := by rw [hbb]; rfl
            obtain ⟨m, hmn, hm⟩ := rn_go hrn hTm (Or.inl hbb)
            rw [hrs] at hm
            have hX5 := rbg_le (T := T) (L := L) (k := k) (p := p) (σ := σ) (out := out)
            refine wp_eq (L' := [(2, 127), w1]) (st' := [(0, ((((rbg T L k p σ out).1) : Nat) : Int))]) (g' := g39) ?_
            refine wp_n 2 (pc' := 44) (L' := [(2, 127), (0, ((((rbg T L k p σ out).1) : Nat) : Int))]) (st' := [(0, ((((rbg T L k p σ out).1) : Nat) : Int))]) (g' := g39) rfl ?_
            refine wp_if_eq rfl (fun c14 => ?_) (fun c14 => ?_)
            · have hm2 := hm.resolve_right (fun q => q.1 (by omega))
              have hN2 := hNx (by omega)
              refine wp_n 1 (pc' := 10) (L' := [(2, 127), (0, ((((rbg T L k p σ out).1) : Nat) : Int))]) (st' := []) (g' := g39) rfl ?_
              refine wp_eq (ih10 (m) (((rbg T L k p σ out).2.1)) (((rbg T L k p σ out).2.2.1)) (((rbg T L k p σ out).2.2.2.1)) (((rbg T L k p σ out).2.2.2.2)) (g39) ((0, ((((rbg T L k p σ out).1) : Nat) : Int))) ?_ ?_ ?_ ?_ ?_ ?_ ?_) (by first | rfl | (simp; done) | (simp; omega)) (by rfl) (by rfl)
              · omega
              · exact hm2.2
              · exact hN2.1
              · exact hN2.2.1
              · exact hN2.2.2.1
              · exact hN2.2.2.2
              · exact hF.trans hFx
            · have hm3 := hm.resolve_left (fun q => by have := q.1; omega)
              have hX3 := hXx hm3.1
              refine wp_n 1 (pc' := 48) (L' := [(2, 127), (0, ((((rbg T L k p σ out).1) : Nat) : Int))]) (st' := [(0, ((((rbg T L k p σ out).1) : Nat) : Int))]) (g' := g39) rfl ?_
              exact wp_ret rfl rfl rfl (by rw [hm3.2]; exact ⟨_, hF.trans hFx, Or.inl ⟨hm3.1, rfl, hX3⟩⟩)
          · refine wp_n 1 (pc' := 32) (L' := [(2, 127), w1]) (st' := [(2, 127)]) (g' := h) rfl ?_
            refine wp_cv (as := [(2, 127)]) (rest := []) rfl rfl rfl (Nat.le_of_ble_eq_true rfl) rfl (m_behindOne (k := k) hRh hT hp hP (by omega) (by first | exact p18 | (exfalso; omega))) (by decide) (fun r15 h16 => ?_)
            obtain ⟨g32, rfl, hFx, hNx, hXx⟩ := h16
            have hbb : bb = true := hz1.elim (fun q => by exfalso; have := q.1; omega) (fun q => q.2)
            have hrs : rsm T L k (p, σ, bb, out) = (rbe T L p σ out) := by rw [hbb]; rfl
            obtain ⟨m, hmn, hm⟩ := rn_go hrn hTm (Or.inr (by first | exact p18 | (exfalso; omega)))
            rw [hrs] at hm
            have hX5 := rbe_le (T := T) (L := L) (p := p) (σ := σ) (out := out)
            refine wp_eq (L' := [(2, 127), w1]) (st' := [(0, ((((rbe T L p σ out).1) : Nat) : Int))]) (g' := g32) ?_
            refine wp_n 3 (pc' := 44) (L' := [(2, 127), (0, ((((rbe T L p σ out).1) : Nat) : Int))]) (st' := [(0, ((((rbe T L p σ out).1) : Nat) : Int))]) (g' := g32) rfl ?_
            refine wp_if_eq rfl (fun c17 => ?_) (fun c17 => ?_)
            · have hm2 := hm.resolve_right (fun q => q.1 (by omega))
              have hN2 := hNx (by omega)
              refine wp_n 1 (pc' := 10) (L' := [(2, 127), (0, ((((rbe T L p σ out).1) : Nat) : Int))]) (st' := []) (g' := g32) rfl ?_
              refine wp_eq (ih10 (m) (((rbe T L p σ out).2.1)) (((rbe T L p σ out).2.2.1)) (((rbe T L p σ out).2.2.2.1)) (((rbe T L p σ out).2.2.2.2)) (g32) ((0, ((((rbe T L p σ out).1) : Nat) : Int))) ?_ ?_ ?_ ?_ ?_ ?_ ?_) (by first | rfl | (simp; done) | (simp; omega)) (by rfl) (by rfl)
              · omega
              · exact hm2.2
              · exact hN2.1
              · exact hN2.2.1
              · exact hN2.2.2.1
              · exact hN2.2.2.2
              · exact hF.trans hFx
            · have hm3 := hm.resolve_left (fun q => by have := q.1; omega)
              have hX3 := hXx hm3.1
              refine wp_n 1 (pc' := 48) (L' := [(2, 127), (0, ((((rbe T L p σ out).1) : Nat) : Int))]) (st' := [(0, ((((rbe T L p σ out).1) : Nat) : Int))]) (g' := g32) rfl ?_
              exact wp_ret rfl rfl rfl (by rw [hm3.2]; exact ⟨_, hF.trans hFx, Or.inl ⟨hm3.1, rfl, hX3⟩⟩)
        · refine wp_eq (L' := [(2, 127), w1]) (st' := [(0, 0)]) (g' := h) ?_
          refine wp_n 3 (pc' := 54) (L' := [(2, 127), w1]) (st' := [(0, 3), (2, 127)]) (g' := h) rfl ?_
          refine wp_cv (as := [(2, 127), (0, 3)]) (rest := []) rfl rfl rfl (Nat.le_of_ble_eq_true rfl) rfl (m_settle (l := 3) (by decide) hP) (by decide) (fun r18 h19 => ?_)
          obtain ⟨g54, rfl, hP54, hF54, hj54⟩ := h19
          have hbb : bb = true := hz1.elim (fun q => by exfalso; have := q.1; omega) (fun q => q.2)
          have hRe := rn_no hrn (fun q => q.elim (fun e => by (have e2 : bb = false := e); rw [hbb] at e2; exact Bool.noConfusion e2) p18)
          have hsl := hP54.2.2.2.2.2.2.1.len
          have hso := hP54.2.2.2.2.2.2.2.1
          refine wp_eq (L' := [(2, 127), w1]) (st' := []) (g' := g54) ?_
          refine wp_n 2 (pc' := 61) (L' := [(2, 127), w1]) (st' := [(0, (g54 127 19))]) (g' := g54) rfl ?_
          refine wp_eq (L' := [(2, 127), w1]) (st' := [(0, (((stl 3 σ).length : Nat) : Int))]) (g' := g54) ?_ (by rfl) (by rw [hP54.2.1]) (by rfl)
          refine wp_if_le rfl (fun c20 => ?_) (fun c20 => ?_)
          · have hnil : stl 3 σ = [] := List.eq_nil_of_length_eq_zero (by omega)
            refine wp_n 1 (pc' := 69) (L' := [(2, 127), w1]) (st' := [(0, 0)]) (g' := g54) rfl ?_
            exact wp_ret rfl rfl rfl (by rw [hRe]; exact ⟨_, hF.trans hF54.z, Or.inr (Or.inr ⟨rfl, hnil, rfl, hT.same (fun j h1 h2 => hj54 j (by omega) (by omega)), hp, by rw [hnil] at hP54; exact hP54⟩)⟩)
          · have hne : stl 3 σ ≠ [] := fun e => by
              have e2 : (stl 3 σ).length = 0 := by rw [e]; rfl
              omega
            refine wp_n 2 (pc' := 69) (L' := [(2, 127), w1]) (st' := [(0, 1)]) (g' := g54) rfl ?_
            exact wp_ret rfl rfl rfl (by rw [hRe]; exact ⟨_, hF.trans hF54.z, Or.inr (Or.inl ⟨rfl, hne, rfl, (hj54 10 (by decide) (by decide)).trans hT.1⟩)⟩)
  refine wp_eq (L10 (_ + 1) (n0) (p0) ([]) (false) ([]) ((am_up (am_up g 127 19 0) 127 21 0)) ((9, 0)) (Nat.lt_succ_self _) ?_ ?_ ?_ ?_ ?_ ?_) (by first | rfl | (simp; done) | (simp; omega)) (by rfl) (by rfl)
  · exact hrn0
  · exact hT0.same fun j h1 h2 => (up_nj (by omega)).trans (up_nj (by omega))
  · exact hp0
  · exact ⟨trivial, (up_nj (by decide)).trans up_eq, (up_nj (by decide)).trans ((up_nj (by decide)).trans h20), (up_nj (by decide)).trans ((up_nj (by decide)).trans h16), fun i hi => absurd hi (Nat.not_lt_zero _), (up_nj (by decide)).trans ((up_nj (by decide)).trans h14), trivial, Nat.zero_le _, (by show W + 0 + 0 ≤ p0; omega), (by omega), ht6⟩
  · exact up_eq
  · exact (FrZ.rfl.up (by omega)).up (by omega)
set_option maxHeartbeats 400000 in
set_option maxRecDepth 20000 in
theorem m_sortOf {sn : Nat} {sx : Nat → Int} {b : Nat} {g : am_G} {T : Nat → Int} {L p : Nat} (hR : RdM T L g) (hT : TkM T L g p) : Ev sn sx 3 183 [(2, 127)] (SH b) g (fun r => (∃ c : Nat, c < 4 ∧ r = (some (0, (c : Int)), SH b, g) ∧ tK T L p = -2 ∧ tV T L p = (c : Int)) ∨ (r = (some (0, -1), SH b, g) ∧ ¬ (tK T L p = -2 ∧ 0 ≤ tV T L p ∧ tV T L p ≤ 3))) := by
  refine ev_of (K := 2) T183 (by decide) rfl rfl (Nat.le_of_ble_eq_true rfl) ?_
  refine wp_eq (L' := [(2, 127)]) (st' := []) (g' := g) ?_
  refine wp_n 5 (pc' := 9) (L' := [(2, 127)]) (st' := [(0, 115), (0, 115), (0, 111), (0, 108), (2, 127)]) (g' := g) rfl ?_
  refine wp_cs (as := [(0, 108), (0, 111), (0, 115), (0, 115)]) (rest := [(2, 127)]) rfl (by decide) rfl (Nat.le_of_ble_eq_true rfl) (m_w4 (by decide) (by decide) (by decide) (by decide)) (by decide) (fun r1 h2 => ?_)
  obtain rfl := h2
  refine wp_eq (L' := [(2, 127)]) (st' := [(1, 1819243379), (2, 127)]) (g' := g) ?_
  refine wp_cv (as := [(2, 127), (1, 1819243379)]) (rest := []) rfl rfl rfl (Nat.le_of_ble_eq_true rfl) rfl (m_isWord (T := T) (L := L) (p := p) hR hT (by decide)) (by decide) (fun r3 h4 => ?_)
  rcases h4 with ⟨rfl, p12⟩ | ⟨rfl, p12⟩
  · have hv12 : tV T L p = 0 := (wd_eq (i := 0) hR.2.2.2 p12.1 (by decide)).mp (by rw [lW_0]; exact p12.2)
    refine wp_eq (L' := [(2, 127)]) (st' := [(0, 1)]) (g' := g) ?_
    refine wp_n 2 (pc' := 19) (L' := [(2, 127)]) (st' := [(0, 0)]) (g' := g) rfl ?_
    exact wp_ret rfl rfl rfl (Or.inl ⟨0, by decide, rfl, p12.1, hv12⟩)
  · have hv12 : tK T L p = -2 → tV T L p ≠ 0 := fun q e => p12 ⟨q, by rw [← lW_0]; exact (wd_eq (i := 0) hR.2.2.2 q (by decide)).mpr e⟩
    refine wp_eq (L' := [(2, 127)]) (st' := [(0, 0)]) (g' := g) ?_
    refine wp_n 5 (pc' := 27) (L' := [(2, 127)]) (st' := [(0, 102), (0, 102), (0, 111), (2, 127)]) (g' := g) rfl ?_
    refine wp_cs (as := [(0, 111), (0, 102), (0, 102)]) (rest := [(2, 127)]) rfl (by decide) rfl (Nat.le_of_ble_eq_true rfl) (m_w3 (by decide) (by decide) (by decide)) (by decide) (fun r5 h6 => ?_)
    obtain rfl := h6
    refine wp_eq (L' := [(2, 127)]) (st' := [(1, 7300710), (2, 127)]) (g' := g) ?_
    refine wp_cv (as := [(2, 127), (1, 7300710)]) (rest := []) rfl rfl rfl (Nat.le_of_ble_eq_true rfl) rfl (m_isWord (T := T) (L := L) (p := p) hR hT (by decide)) (by decide) (fun r7 h8 => ?_)
    rcases h8 with ⟨rfl, p30⟩ | ⟨rfl, p30⟩
    · have hv30 : tV T L p = 1 := (wd_eq (i := 1) hR.2.2.2 p30.1 (by decide)).mp (by rw [lW_1]; exact p30.2)
      refine wp_eq (L' := [(2, 127)]) (st' := [(0, 1)]) (g' := g) ?_
      refine wp_n 2 (pc' := 37) (L' := [(2, 127)]) (st' := [(0, 1)]) (g' := g) rfl ?_
      exact wp_ret rfl rfl rfl (Or.inl ⟨1, by decide, rfl, p30.1, hv30⟩)
    · have hv30 : tK T L p = -2 → tV T L p ≠ 1 := fun q e => p30 ⟨q, by rw [← lW_1]; exact (wd_eq (i := 1) hR.2.2.2 q (by decide)).mpr e⟩
      refine wp_eq (L' := [(2, 127)]) (st' := [(0, 0)]) (g' := g) ?_
      refine wp_n 7 (pc' := 49) (L' := [(2, 127)]) (st' := [(0, 101), (0, 107), (0, 97), (0, 116), (0, 115), (2, 127)]) (g' := g) rfl ?_
      refine wp_cs (as := [(0, 115), (0, 116), (0, 97), (0, 107), (0, 101)]) (rest := [(2, 127)]) rfl (by decide) rfl (Nat.le_of_ble_eq_true rfl) (m_w5 (by decide) (by decide) (by decide) (by decide) (by decide)) (by decide) (fun r9 h10 => ?_)
      obtain rfl := h10
      refine wp_eq (L' := [(2, 127)]) (st' := [(1, 495873780581), (2, 127)]) (g' := g) ?_
      refine wp_cv (as := [(2, 127), (1, 495873780581)]) (rest := []) rfl rfl rfl (Nat.le_of_ble_eq_true rfl) rfl (m_isWord (T := T) (L := L) (p := p) hR hT (by decide)) (by decide) (fun r11 h12 => ?_)
      rcases h12 with ⟨rfl, p52⟩ | ⟨rfl, p52⟩
      · have hv52 : tV T L p = 2 := (wd_eq (i := 2) hR.2.2.2 p52.1 (by decide)).mp (by rw [lW_2]; exact p52.2)
        refine wp_eq (L' := [(2, 127)]) (st' := [(0, 1)]) (g' := g) ?_
        refine wp_n 3 (pc' := 77) (L' := [(2, 127)]) (st' := [(0, 2)]) (g' := g) rfl ?_
        exact wp_ret rfl rfl rfl (Or.inl ⟨2, by decide, rfl, p52.1, hv52⟩)
      · have hv52 : tK T L p = -2 → tV T L p ≠ 2 := fun q e => p52 ⟨q, by rw [← lW_2]; exact (wd_eq (i := 2) hR.2.2.2 q (by decide)).mpr e⟩
        refine wp_eq (L' := [(2, 127)]) (st' := [(0, 0)]) (g' := g) ?_
        refine wp_n 3 (pc' := 66) (L' := [(2, 127)]) (st' := [(1, 28526), (2, 127)]) (g' := g) rfl ?_
        refine wp_cv (as := [(2, 127), (1, 28526)]) (rest := []) rfl rfl rfl (Nat.le_of_ble_eq_true rfl) rfl (m_isWord (T := T) (L := L) (p := p) hR hT (by decide)) (by decide) (fun r13 h14 => ?_)
        rcases h14 with ⟨rfl, p66⟩ | ⟨rfl, p66⟩
        · have hv66 : tV T L p = 3 := (wd_eq (i := 3) hR.2.2.2 p66.1 (by decide)).mp (by rw [lW_3]; exact p66.2)
          refine wp_eq (L' := [(2, 127)]) (st' := [(0, 1)]) (g' := g) ?_
          refine wp_n 3 (pc' := 77) (L' := [(2, 127)]) (st' := [(0, 3)]) (g' := g) rfl ?_
          exact wp_ret rfl rfl rfl (Or.inl ⟨3, by decide, rfl, p66.1, hv66⟩)
        · have hv66 : tK T L p = -2 → tV T L p ≠ 3 := fun q e => p66 ⟨q, by rw [← lW_3]; exact (wd_eq (i := 3) hR.2.2.2 q (by decide)).mpr e⟩
          refine wp_eq (L' := [(2, 127)]) (st' := [(0, 0)]) (g' := g) ?_
          refine wp_n 2 (pc' := 77) (L' := [(2, 127)]) (st' := [(0, (-1))]) (g' := g) rfl ?_
          exact wp_ret rfl rfl rfl (Or.inr ⟨rfl, fun q => by have a1 := hv12 q.1; have a2 := hv30 q.1; have a3 := hv52 q.1; have a4 := hv66 q.1; omega⟩)
