/-! THE REFERENCE'S READER: one step -/
def FrZ (t W : Nat) (g h : am_G) : Prop := ∀ c j, (c ≠ 127 ∨ j < 9 ∨ (13 < j ∧ j ≠ 16 ∧ j ≠ 19 ∧ j ≠ 20 ∧ j ≠ 21)) → (c ≠ 130 ∨ j < 800 * t + 30 + 2 * W ∨ 800 * t + 800 ≤ j) → c ≠ 132 → h c j = g c j
theorem FrZ.rfl {t W : Nat} {g : am_G} : FrZ t W g g := fun _ _ _ _ _ => Eq.refl _
theorem FrZ.trans {t W : Nat} {g h i : am_G} (h1 : FrZ t W g h) (h2 : FrZ t W h i) : FrZ t W g i := fun c j a b x => (h2 c j a b x).trans (h1 c j a b x)
theorem FrP.z {t W : Nat} {g h : am_G} (hF : FrP t W g h) : FrZ t W g h := fun c j a b x => hF c j (by omega) b x
theorem FrTm.z {t W : Nat} {g h : am_G} (hF : FrTm g h) : FrZ t W g h := fun c j a _ _ => hF c j (by omega)
theorem FrZ.up {t W k i : Nat} {x : Int} {g h : am_G} (h1 : FrZ t W g h) (hk : (k = 127 ∧ (i = 16 ∨ i = 19 ∨ i = 20 ∨ i = 21)) ∨ k = 132) : FrZ t W g (am_up h k i x) := fun c j a b y => (up_no (by omega)).trans (h1 c j a b y)
theorem RdM.z {T : Nat → Int} {L t W : Nat} {g h : am_G} (hR : RdM T L g) (hF : FrZ t W g h) : RdM T L h := ⟨fun j hj => (hF 131 j (by omega) (by omega) (by omega)).trans (hR.1 j hj), (hF 127 5 (by omega) (by omega) (by omega)).trans hR.2.1, hR.2.2⟩
theorem TkM.same {T : Nat → Int} {L p : Nat} {g h : am_G} (hT : TkM T L g p) (hF : ∀ j, 9 ≤ j → j ≤ 13 → h 127 j = g 127 j) : TkM T L h p := ⟨(hF 10 (by decide) (by decide)).trans hT.1, (hF 11 (by decide) (by decide)).trans hT.2.1, (hF 9 (by decide) (by decide)).trans hT.2.2.1, fun q => by rw [hF 12 (by decide) (by decide)]; exact hT.2.2.2.1 q, fun q => (hF 13 (by decide) (by decide)).trans (hT.2.2.2.2 q)⟩
theorem PSt.tm {t W N : Nat} {σ : List Nat} {out : List Int} {g h : am_G} (hP : PSt t W N σ out g) (hF : FrTm g h) : PSt t W N σ out h := hP.same (fun j hj => hF 127 j (by omega)) (fun j => hF 130 j (by omega)) (fun j => hF 132 j (by omega))
/-- the reference in a state of the pile -/
def NxM (T : Nat → Int) (L t W : Nat) (s : Sst) (h : am_G) : Prop := TkM T L h s.1 ∧ s.1 ≤ L ∧ PSt t W s.1 s.2.1 s.2.2.2 h ∧ h 127 21 = (if s.2.2.1 = true then 1 else 0)
/-- what a step of the reference leaves -/
def StM (T : Nat → Int) (L t W : Nat) (R : Nat × Sst) (g : am_G) (sh : am_Sh) (r : am_R) : Prop := ∃ g', r = (some (0, (R.1 : Int)), sh, g') ∧ FrZ t W g g' ∧ (R.1 = 0 → NxM T L t W R.2 g') ∧ (R.1 ≠ 0 → g' 127 10 = (R.2.1 : Int))
theorem StM.f {T : Nat → Int} {L t W f q : Nat} {R : Nat × Sst} {s : Sst} {g g' : am_G} {sh : am_Sh} (hR : R = (f, s)) (hf : f ≠ 0) (hq : s.1 = q) (hF : FrZ t W g g') (h10 : g' 127 10 = (q : Int)) : StM T L t W R g sh (some (0, (f : Int)), sh, g') := ⟨g', by rw [hR], hF, fun k => absurd (by rw [hR] at k; exact k) hf, fun _ => by rw [hR]; show _ = ((s.1 : Nat) : Int); rw [hq]; exact h10⟩
theorem StM.g {T : Nat → Int} {L t W : Nat} {R : Nat × Sst} {s : Sst} {g g' : am_G} {sh : am_Sh} (hR : R = (0, s)) (hF : FrZ t W g g') (hN : NxM T L t W s g') : StM T L t W R g sh (some (0, 0), sh, g') := ⟨g', by rw [hR]; rfl, hF, fun _ => by rw [hR]; exact hN, fun k => absurd (by rw [hR]) k⟩
set_option maxHeartbeats 400000 in
set_option maxRecDepth 20000 in
theorem m_beginOne {sn : Nat} {sx : Nat → Int} {b : Nat} {g : am_G} {T : Nat → Int} {L p t W k : Nat} {σ : List Nat} {out : List Int} (hR : RdM T L g) (hT : TkM T L g p) (hp : p ≤ L) (hP : PSt t W p σ out g) (hk : g 127 6 = (k : Int)) (hk4 : k < 4) (h21 : g 127 21 = 0) : Ev sn sx 5 178 [(2, 127)] (SH b) g (StM T L t W (rbg T L k p σ out) g (SH b)) := by
  have hto := tkM_or (p := p) hR.2.2.2
  have hL3 := hR.2.2.1
  have hNN := hP.2.2.2.2.2.2.2.2.1
  have hop := hP.2.2.1
  have ho8 := hP.2.2.2.2.2.2.2.1
  have hwf := hP.2.2.2.2.2.2.1
  have hwl := hwf.len
  have hn0 := nx_in (T := T) hp
  have hlt : tK T L p ≠ -1 → p < L := tK_end hp
  have hlt2 : p < L → p < nx T L p := hn0.2.2
  have hnr : tK T L p = -3 → NmR (g 127 12) (tV T L p) := hT.2.2.2.1
  refine ev_of (K := 4) T178 (by decide) rfl rfl (Nat.le_of_ble_eq_true rfl) ?_
  refine wp_eq (L' := [(2, 127), (9, 0), (9, 0)]) (st' := []) (g' := g) ?_
  refine wp_n 2 (pc' := 4) (L' := [(2, 127), (9, 0), (9, 0)]) (st' := [(0, (g 127 11))]) (g' := g) rfl ?_
  refine wp_eq (L' := [(2, 127), (9, 0), (9, 0)]) (st' := [(0, (tkM (tK T L p)))]) (g' := g) ?_ (by rfl) (by rw [hT.2.1]) (by rfl)
  refine wp_n 1 (pc' := 5) (L' := [(2, 127), (9, 0), (9, 0)]) (st' := [(0, 1), (0, (tkM (tK T L p)))]) (g' := g) rfl ?_
  refine wp_ic_ne rfl (fun c1 => ?_) (fun c1 => ?_)
  · refine wp_n 1 (pc' := 40) (L' := [(2, 127), (9, 0), (9, 0)]) (st' := [(2, 127)]) (g' := g) rfl ?_
    refine wp_cv (as := [(2, 127)]) (rest := []) rfl rfl rfl (Nat.le_of_ble_eq_true rfl) rfl (m_nameOf hR hT hp) (by decide) (fun r2 h3 => ?_)
    rcases h3 with ⟨rfl, hq40, hv40, hx40⟩ | ⟨rfl, hq40⟩
    · refine wp_eq (L' := [(2, 127), (9, 0), (9, 0)]) (st' := [(0, (tV T L p - 4))]) (g' := g) ?_
      refine wp_n 2 (pc' := 45) (L' := [(2, 127), (0, (tV T L p - 4)), (9, 0)]) (st' := [(0, (tV T L p - 4))]) (g' := g) rfl ?_
      refine wp_if_lt rfl (fun c4 => ?_) (fun c4 => ?_)
      · refine wp_n 1 (pc' := 93) (L' := [(2, 127), (0, (tV T L p - 4)), (9, 0)]) (st' := [(2, 127)]) (g' := g) rfl ?_
        refine wp_cv (as := [(2, 127)]) (rest := []) rfl rfl rfl (Nat.le_of_ble_eq_true rfl) rfl (m_opener hR hT hp) (by decide) (fun r5 h6 => ?_)
        rcases h6 with ⟨g93, rfl, hk93, hF93, hT93⟩ | ⟨u93, rfl, hk93, hF93, hT93⟩ | ⟨v93, rfl, hk93, hv93, hF93, hT93⟩ | ⟨w93, rfl, hk93, hk94, hk95, hF93, hT93⟩
        · refine wp_eq (L' := [(2, 127), (0, (tV T L p - 4)), (9, 0)]) (st' := [(0, 40)]) (g' := g93) ?_
          refine wp_n 8 (pc' := 122) (L' := [(2, 127), (0, (tV T L p - 4)), (0, 40)]) (st' := [(0, (g93 127 20))]) (g' := g93) rfl ?_
          refine wp_eq (L' := [(2, 127), (0, (tV T L p - 4)), (0, 40)]) (st' := [(0, (((opn σ) : Nat) : Int))]) (g' := g93) ?_ (by rfl) (by rw [hF93 127 20 (by omega), hop]) (by rfl)
          refine wp_n 1 (pc' := 124) (L' := [(2, 127), (0, (tV T L p - 4)), (0, 40)]) (st' := [(0, 8), (0, (((opn σ) : Nat) : Int))]) (g' := g93) rfl ?_
          refine wp_ic_ne rfl (fun c7 => ?_) (fun c7 => ?_)
          · refine wp_n 3 (pc' := 134) (L' := [(2, 127), (0, (tV T L p - 4)), (0, 40)]) (st' := [(0, (g93 127 20)), (2, 127)]) (g' := g93) rfl ?_
            refine wp_eq (L' := [(2, 127), (0, (tV T L p - 4)), (0, 40)]) (st' := [(0, (((opn σ) : Nat) : Int)), (2, 127)]) (g' := g93) ?_ (by rfl) (by rw [hF93 127 20 (by omega), hop]) (by rfl)
            refine wp_n 5 (pc' := 141) (L' := [(2, 127), (0, (tV T L p - 4)), (0, 40)]) (st' := [(0, 40), (2, 127)]) (g' := (am_up g93 127 20 ((((opn σ) : Nat) : Int) + 1))) rfl ?_
            refine wp_cv (as := [(2, 127), (0, 40)]) (rest := []) rfl rfl rfl (Nat.le_of_ble_eq_true rfl) rfl (m_push (σ := σ) (q := 40) ((up_nj (by decide)).trans ((hF93 127 19 (by omega)).trans hP.2.1)) (by omega)) (by decide) (fun r8 h9 => ?_)
            obtain rfl := h9
            have hPq := (hP.tm hF93).up (N' := p + 1) (by omega) (by omega)
            have hPn := hPq.push (q := 40) (g1 := am_up g93 127 20 ((opn σ : Int) + 1)) (fun c j a => up_no (by omega)) (by rw [up_eq, opn_y (by omega)]; rfl) (hwf.opener (by omega)) (by rw [opn_y (by omega)]; omega) (by omega)
            have hRb : rbg T L k p σ out = (0, nx T L p, 40 :: σ, false, out) := by rw [rbg, if_neg (by omega), if_neg (by omega), if_pos (by omega), if_neg (by omega)]
            refine wp_eq (L' := [(2, 127), (0, (tV T L p - 4)), (0, 40)]) (st' := []) (g' := (am_up (am_up (am_up g93 127 20 ((((opn σ) : Nat) : Int) + 1)) 132 σ.length 40) 127 19 ((σ.length : Int) + 1))) ?_
            refine wp_n 1 (pc' := 145) (L' := [(2, 127), (0, (tV T L p - 4)), (0, 40)]) (st' := [(2, 127)]) (g' := (am_up (am_up (am_up g93 127 20 ((((opn σ) : Nat) : Int) + 1)) 132 σ.length 40) 127 19 ((σ.length : Int) + 1))) rfl ?_
            refine wp_cv (as := [(2, 127)]) (rest := []) rfl rfl rfl (Nat.le_of_ble_eq_true rfl) rfl (m_nextTk (T := T) (L := L) (p := p) (hR.z (t := t) (W := W) (((hF93.z.up (by omega)).up (by omega)).up (by omega))) (hT93.same fun j h1 h2 => (up_nj (by omega)).trans ((up_ne (by decide)).trans (up_nj (by omega)))) (by omega)) (by decide) (fun r10 h11 => ?_)
            obtain ⟨g145, rfl, hT145, hF145⟩ := h11
            have hnn := nx_in (T := T) (L := L) (p := p) (by omega)
            refine wp_eq (L' := [(2, 127), (0, (tV T L p - 4)), (0, 40)]) (st' := []) (g' := g145) ?_
            refine wp_n 1 (pc' := 149) (L' := [(2, 127), (0, (tV T L p - 4)), (0, 40)]) (st' := [(0, 0)]) (g' := g145) rfl ?_
            exact wp_ret rfl rfl rfl (StM.g hRb (((hF93.z.up (by omega)).up (by omega)).up (by omega) |>.trans hF145.z) ⟨hT145, (nx_in (by omega)).2.1, (hPn.tm hF145).up (by omega) (by omega), (hF145 127 21 (by omega)).trans ((up_nj (by decide)).trans ((up_ne (by decide)).trans ((up_nj (by decide)).trans ((hF93 127 21 (by omega)).trans h21))))⟩)
          · refine wp_n 1 (pc' := 128) (L' := [(2, 127), (0, (tV T L p - 4)), (0, 40)]) (st' := [(0, 3)]) (g' := g93) rfl ?_
            exact wp_ret rfl rfl rfl (StM.f (f := 3) (q := p) (by rw [rbg, if_neg (by omega), if_neg (by omega), if_pos (by omega), if_pos (by omega)]) (by decide) rfl hF93.z hT93.1)
        · refine wp_eq (L' := [(2, 127), (0, (tV T L p - 4)), (9, 0)]) (st' := [(0, 2)]) (g' := u93) ?_
          refine wp_n 8 (pc' := 122) (L' := [(2, 127), (0, (tV T L p - 4)), (0, 2)]) (st' := [(0, (u93 127 20))]) (g' := u93) rfl ?_
          refine wp_eq (L' := [(2, 127), (0, (tV T L p - 4)), (0, 2)]) (st' := [(0, (((opn σ) : Nat) : Int))]) (g' := u93) ?_ (by rfl) (by rw [hF93 127 20 (by omega), hop]) (by rfl)
          refine wp_n 1 (pc' := 124) (L' := [(2, 127), (0, (tV T L p - 4)), (0, 2)]) (st' := [(0, 8), (0, (((opn σ) : Nat) : Int))]) (g' := u93) rfl ?_
          refine wp_ic_ne rfl (fun c12 => ?_) (fun c12 => ?_)
          · refine wp_n 3 (pc' := 134) (L' := [(2, 127), (0, (tV T L p - 4)), (0, 2)]) (st' := [(0, (u93 127 20)), (2, 127)]) (g' := u93) rfl ?_
            refine wp_eq (L' := [(2, 127), (0, (tV T L p - 4)), (0, 2)]) (st' := [(0, (((opn σ) : Nat) : Int)), (2, 127)]) (g' := u93) ?_ (by rfl) (by rw [hF93 127 20 (by omega), hop]) (by rfl)
            refine wp_n 5 (pc' := 141) (L' := [(2, 127), (0, (tV T L p - 4)), (0, 2)]) (st' := [(0, 2), (2, 127)]) (g' := (am_up u93 127 20 ((((opn σ) : Nat) : Int) + 1))) rfl ?_
            refine wp_cv (as := [(2, 127), (0, 2)]) (rest := []) rfl rfl rfl (Nat.le_of_ble_eq_true rfl) rfl (m_push (σ := σ) (q := 2) ((up_nj (by decide)).trans ((hF93 127 19 (by omega)).trans hP.2.1)) (by omega)) (by decide) (fun r13 h14 => ?_)
            obtain rfl := h14
            have hPq := (hP.tm hF93).up (N' := p + 1) (by omega) (by omega)
            have hPn := hPq.push (q := 2) (g1 := am_up u93 127 20 ((opn σ : Int) + 1)) (fun c j a => up_no (by omega)) (by rw [up_eq, opn_y (by omega)]; rfl) (hwf.opener (by omega)) (by rw [opn_y (by omega)]; omega) (by omega)
            have hRb : rbg T L k p σ out = (0, nx T L p, 2 :: σ, false, out) := by rw [rbg, if_neg (by omega), if_neg (by omega), if_neg (by omega), if_pos (by omega), if_neg (by omega)]
            refine wp_eq (L' := [(2, 127), (0, (tV T L p - 4)), (0, 2)]) (st' := []) (g' := (am_up (am_up (am_up u93 127 20 ((((opn σ) : Nat) : Int) + 1)) 132 σ.length 2) 127 19 ((σ.length : Int) + 1))) ?_
            refine wp_n 1 (pc' := 145) (L' := [(2, 127), (0, (tV T L p - 4)), (0, 2)]) (st' := [(2, 127)]) (g' := (am_up (am_up (am_up u93 127 20 ((((opn σ) : Nat) : Int) + 1)) 132 σ.length 2) 127 19 ((σ.length : Int) + 1))) rfl ?_
            refine wp_cv (as := [(2, 127)]) (rest := []) rfl rfl rfl (Nat.le_of_ble_eq_true rfl) rfl (m_nextTk (T := T) (L := L) (p := p) (hR.z (t := t) (W := W) (((hF93.z.up (by omega)).up (by omega)).up (by omega))) (hT93.same fun j h1 h2 => (up_nj (by omega)).trans ((up_ne (by decide)).trans (up_nj (by omega)))) (by omega)) (by decide) (fun r15 h16 => ?_)
            obtain ⟨g145, rfl, hT145, hF145⟩ := h16
            have hnn := nx_in (T := T) (L := L) (p := p) (by omega)
            refine wp_eq (L' := [(2, 127), (0, (tV T L p - 4)), (0, 2)]) (st' := []) (g' := g145) ?_
            refine wp_n 1 (pc' := 149) (L' := [(2, 127), (0, (tV T L p - 4)), (0, 2)]) (st' := [(0, 0)]) (g' := g145) rfl ?_
            exact wp_ret rfl rfl rfl (StM.g hRb (((hF93.z.up (by omega)).up (by omega)).up (by omega) |>.trans hF145.z) ⟨hT145, (nx_in (by omega)).2.1, (hPn.tm hF145).up (by omega) (by omega), (hF145 127 21 (by omega)).trans ((up_nj (by decide)).trans ((up_ne (by decide)).trans ((up_nj (by decide)).trans ((hF93 127 21 (by omega)).trans h21))))⟩)
          · refine wp_n 1 (pc' := 128) (L' := [(2, 127), (0, (tV T L p - 4)), (0, 2)]) (st' := [(0, 3)]) (g' := u93) rfl ?_
            exact wp_ret rfl rfl rfl (StM.f (f := 3) (q := p) (by rw [rbg, if_neg (by omega), if_neg (by omega), if_neg (by omega), if_pos (by omega), if_pos (by omega)]) (by decide) rfl hF93.z hT93.1)
        · have hmx := mnx_in (tV T L p)
          have hto2 := tkM_or (p := nx T L p) hR.2.2.2
          refine wp_eq (L' := [(2, 127), (0, (tV T L p - 4)), (9, 0)]) (st' := [(0, (((mnx (tV T L p)) : Nat) : Int))]) (g' := v93) ?_
          refine wp_n 2 (pc' := 98) (L' := [(2, 127), (0, (tV T L p - 4)), (0, (((mnx (tV T L p)) : Nat) : Int))]) (st' := [(0, (((mnx (tV T L p)) : Nat) : Int))]) (g' := v93) rfl ?_
          refine wp_if_eq rfl (fun c17 => ?_) (fun c17 => ?_)
          · refine wp_n 1 (pc' := 117) (L' := [(2, 127), (0, (tV T L p - 4)), (0, (((mnx (tV T L p)) : Nat) : Int))]) (st' := [(0, 1)]) (g' := v93) rfl ?_
            exact wp_ret rfl rfl rfl (StM.f (f := 1) (q := nx T L p) (by rw [rbg, if_neg (by omega), if_neg (by omega), if_neg (by omega), if_neg (by omega), if_pos (by omega), if_neg (by omega)]) (by decide) rfl hF93.z hT93.1)
          · refine wp_n 2 (pc' := 104) (L' := [(2, 127), (0, (tV T L p - 4)), (0, (((mnx (tV T L p)) : Nat) : Int))]) (st' := [(0, 40), (0, (((mnx (tV T L p)) : Nat) : Int))]) (g' := v93) rfl ?_
            refine wp_ic_le rfl (fun c18 => ?_) (fun c18 => ?_)
            · refine wp_n 2 (pc' := 122) (L' := [(2, 127), (0, (tV T L p - 4)), (0, (((mnx (tV T L p)) : Nat) : Int))]) (st' := [(0, (v93 127 20))]) (g' := v93) rfl ?_
              refine wp_eq (L' := [(2, 127), (0, (tV T L p - 4)), (0, (((mnx (tV T L p)) : Nat) : Int))]) (st' := [(0, (((opn σ) : Nat) : Int))]) (g' := v93) ?_ (by rfl) (by rw [hF93 127 20 (by omega), hop]) (by rfl)
              refine wp_n 1 (pc' := 124) (L' := [(2, 127), (0, (tV T L p - 4)), (0, (((mnx (tV T L p)) : Nat) : Int))]) (st' := [(0, 8), (0, (((opn σ) : Nat) : Int))]) (g' := v93) rfl ?_
              refine wp_ic_ne rfl (fun c19 => ?_) (fun c19 => ?_)
              · refine wp_n 3 (pc' := 134) (L' := [(2, 127), (0, (tV T L p - 4)), (0, (((mnx (tV T L p)) : Nat) : Int))]) (st' := [(0, (v93 127 20)), (2, 127)]) (g' := v93) rfl ?_
                refine wp_eq (L' := [(2, 127), (0, (tV T L p - 4)), (0, (((mnx (tV T L p)) : Nat) : Int))]) (st' := [(0, (((opn σ) : Nat) : Int)), (2, 127)]) (g' := v93) ?_ (by rfl) (by rw [hF93 127 20 (by omega), hop]) (by rfl)
                refine wp_n 5 (pc' := 141) (L' := [(2, 127), (0, (tV T L p - 4)), (0, (((mnx (tV T L p)) : Nat) : Int))]) (st' := [(0, (((mnx (tV T L p)) : Nat) : Int)), (2, 127)]) (g' := (am_up v93 127 20 ((((opn σ) : Nat) : Int) + 1))) rfl ?_
                refine wp_cv (as := [(2, 127), (0, (((mnx (tV T L p)) : Nat) : Int))]) (rest := []) rfl rfl rfl (Nat.le_of_ble_eq_true rfl) rfl (m_push (σ := σ) (q := (((mnx (tV T L p)) : Nat) : Int)) ((up_nj (by decide)).trans ((hF93 127 19 (by omega)).trans hP.2.1)) (by omega)) (by decide) (fun r20 h21 => ?_)
                obtain rfl := h21
                have hPq := (hP.tm hF93).up (N' := p + 1) (by omega) (by omega)
                have hPn := hPq.push (q := (mnx (tV T L p))) (g1 := am_up v93 127 20 ((opn σ : Int) + 1)) (fun c j a => up_no (by omega)) (by rw [up_eq, opn_y (by omega)]; rfl) (hwf.opener (by omega)) (by rw [opn_y (by omega)]; omega) (by omega)
                have hRb : rbg T L k p σ out = (0, nx T L (nx T L p), (mnx (tV T L p)) :: σ, false, out) := by rw [rbg, if_neg (by omega), if_neg (by omega), if_neg (by omega), if_neg (by omega), if_pos (by omega), if_pos (by omega), if_neg (by omega)]; rfl
                refine wp_eq (L' := [(2, 127), (0, (tV T L p - 4)), (0, (((mnx (tV T L p)) : Nat) : Int))]) (st' := []) (g' := (am_up (am_up (am_up v93 127 20 ((((opn σ) : Nat) : Int) + 1)) 132 σ.length (((mnx (tV T L p)) : Nat) : Int)) 127 19 ((σ.length : Int) + 1))) ?_
                refine wp_n 1 (pc' := 145) (L' := [(2, 127), (0, (tV T L p - 4)), (0, (((mnx (tV T L p)) : Nat) : Int))]) (st' := [(2, 127)]) (g' := (am_up (am_up (am_up v93 127 20 ((((opn σ) : Nat) : Int) + 1)) 132 σ.length (((mnx (tV T L p)) : Nat) : Int)) 127 19 ((σ.length : Int) + 1))) rfl ?_
                refine wp_cv (as := [(2, 127)]) (rest := []) rfl rfl rfl (Nat.le_of_ble_eq_true rfl) rfl (m_nextTk (T := T) (L := L) (p := (nx T L p)) (hR.z (t := t) (W := W) (((hF93.z.up (by omega)).up (by omega)).up (by omega))) (hT93.same fun j h1 h2 => (up_nj (by omega)).trans ((up_ne (by decide)).trans (up_nj (by omega)))) (by omega)) (by decide) (fun r22 h23 => ?_)
                obtain ⟨g145, rfl, hT145, hF145⟩ := h23
                have hnn := nx_in (T := T) (L := L) (p := (nx T L p)) (by omega)
                refine wp_eq (L' := [(2, 127), (0, (tV T L p - 4)), (0, (((mnx (tV T L p)) : Nat) : Int))]) (st' := []) (g' := g145) ?_
                refine wp_n 1 (pc' := 149) (L' := [(2, 127), (0, (tV T L p - 4)), (0, (((mnx (tV T L p)) : Nat) : Int))]) (st' := [(0, 0)]) (g' := g145) rfl ?_
                exact wp_ret rfl rfl rfl (StM.g hRb (((hF93.z.up (by omega)).up (by omega)).up (by omega) |>.trans hF145.z) ⟨hT145, (nx_in (by omega)).2.1, (hPn.tm hF145).up (by omega) (by omega), (hF145 127 21 (by omega)).trans ((up_nj (by decide)).trans ((up_ne (by decide)).trans ((up_nj (by decide)).trans ((hF93 127 21 (by omega)).trans h21))))⟩)
              · refine wp_n 1 (pc' := 128) (L' := [(2, 127), (0, (tV T L p - 4)), (0, (((mnx (tV T L p)) : Nat) : Int))]) (st' := [(0, 3)]) (g' := v93) rfl ?_
                exact wp_ret rfl rfl rfl (StM.f (f := 3) (q := nx T L p) (by rw [rbg, if_neg (by omega), if_neg (by omega), if_neg (by omega), if_neg (by omega), if_pos (by omega), if_pos (by omega), if_pos (by omega)]) (by decide) rfl hF93.z hT93.1)
            · refine wp_n 2 (pc' := 111) (L' := [(2, 127), (0, (tV T L p - 4)), (0, (((mnx (tV T L p)) : Nat) : Int))]) (st' := [(0, (v93 127 11))]) (g' := v93) rfl ?_
              refine wp_eq (L' := [(2, 127), (0, (tV T L p - 4)), (0, (((mnx (tV T L p)) : Nat) : Int))]) (st' := [(0, (tkM (tK T L (nx T L p))))]) (g' := v93) ?_ (by rfl) (by rw [hT93.2.1]) (by rfl)
              refine wp_n 1 (pc' := 113) (L' := [(2, 127), (0, (tV T L p - 4)), (0, (((mnx (tV T L p)) : Nat) : Int))]) (st' := [(0, 40), (0, (tkM (tK T L (nx T L p))))]) (g' := v93) rfl ?_
              refine wp_ic_eq rfl (fun c24 => ?_) (fun c24 => ?_)
              · refine wp_n 2 (pc' := 122) (L' := [(2, 127), (0, (tV T L p - 4)), (0, (((mnx (tV T L p)) : Nat) : Int))]) (st' := [(0, (v93 127 20))]) (g' := v93) rfl ?_
                refine wp_eq (L' := [(2, 127), (0, (tV T L p - 4)), (0, (((mnx (tV T L p)) : Nat) : Int))]) (st' := [(0, (((opn σ) : Nat) : Int))]) (g' := v93) ?_ (by rfl) (by rw [hF93 127 20 (by omega), hop]) (by rfl)
                refine wp_n 1 (pc' := 124) (L' := [(2, 127), (0, (tV T L p - 4)), (0, (((mnx (tV T L p)) : Nat) : Int))]) (st' := [(0, 8), (0, (((opn σ) : Nat) : Int))]) (g' := v93) rfl ?_
                refine wp_ic_ne rfl (fun c25 => ?_) (fun c25 => ?_)
                · refine wp_n 3 (pc' := 134) (L' := [(2, 127), (0, (tV T L p - 4)), (0, (((mnx (tV T L p)) : Nat) : Int))]) (st' := [(0, (v93 127 20)), (2, 127)]) (g' := v93) rfl ?_
                  refine wp_eq (L' := [(2, 127), (0, (tV T L p - 4)), (0, (((mnx (tV T L p)) : Nat) : Int))]) (st' := [(0, (((opn σ) : Nat) : Int)), (2, 127)]) (g' := v93) ?_ (by rfl) (by rw [hF93 127 20 (by omega), hop]) (by rfl)
                  refine wp_n 5 (pc' := 141) (L' := [(2, 127), (0, (tV T L p - 4)), (0, (((mnx (tV T L p)) : Nat) : Int))]) (st' := [(0, (((mnx (tV T L p)) : Nat) : Int)), (2, 127)]) (g' := (am_up v93 127 20 ((((opn σ) : Nat) : Int) + 1))) rfl ?_
                  refine wp_cv (as := [(2, 127), (0, (((mnx (tV T L p)) : Nat) : Int))]) (rest := []) rfl rfl rfl (Nat.le_of_ble_eq_true rfl) rfl (m_push (σ := σ) (q := (((mnx (tV T L p)) : Nat) : Int)) ((up_nj (by decide)).trans ((hF93 127 19 (by omega)).trans hP.2.1)) (by omega)) (by decide) (fun r26 h27 => ?_)
                  obtain rfl := h27
                  have hPq := (hP.tm hF93).up (N' := p + 1) (by omega) (by omega)
                  have hPn := hPq.push (q := (mnx (tV T L p))) (g1 := am_up v93 127 20 ((opn σ : Int) + 1)) (fun c j a => up_no (by omega)) (by rw [up_eq, opn_y (by omega)]; rfl) (hwf.opener (by omega)) (by rw [opn_y (by omega)]; omega) (by omega)
                  have hRb : rbg T L k p σ out = (0, nx T L (nx T L p), (mnx (tV T L p)) :: σ, false, out) := by rw [rbg, if_neg (by omega), if_neg (by omega), if_neg (by omega), if_neg (by omega), if_pos (by omega), if_pos (by omega), if_neg (by omega)]; rfl
                  refine wp_eq (L' := [(2, 127), (0, (tV T L p - 4)), (0, (((mnx (tV T L p)) : Nat) : Int))]) (st' := []) (g' := (am_up (am_up (am_up v93 127 20 ((((opn σ) : Nat) : Int) + 1)) 132 σ.length (((mnx (tV T L p)) : Nat) : Int)) 127 19 ((σ.length : Int) + 1))) ?_
                  refine wp_n 1 (pc' := 145) (L' := [(2, 127), (0, (tV T L p - 4)), (0, (((mnx (tV T L p)) : Nat) : Int))]) (st' := [(2, 127)]) (g' := (am_up (am_up (am_up v93 127 20 ((((opn σ) : Nat) : Int) + 1)) 132 σ.length (((mnx (tV T L p)) : Nat) : Int)) 127 19 ((σ.length : Int) + 1))) rfl ?_
                  refine wp_cv (as := [(2, 127)]) (rest := []) rfl rfl rfl (Nat.le_of_ble_eq_true rfl) rfl (m_nextTk (T := T) (L := L) (p := (nx T L p)) (hR.z (t := t) (W := W) (((hF93.z.up (by omega)).up (by omega)).up (by omega))) (hT93.same fun j h1 h2 => (up_nj (by omega)).trans ((up_ne (by decide)).trans (up_nj (by omega)))) (by omega)) (by decide) (fun r28 h29 => ?_)
                  obtain ⟨g145, rfl, hT145, hF145⟩ := h29
                  have hnn := nx_in (T := T) (L := L) (p := (nx T L p)) (by omega)
                  refine wp_eq (L' := [(2, 127), (0, (tV T L p - 4)), (0, (((mnx (tV T L p)) : Nat) : Int))]) (st' := []) (g' := g145) ?_
                  refine wp_n 1 (pc' := 149) (L' := [(2, 127), (0, (tV T L p - 4)), (0, (((mnx (tV T L p)) : Nat) : Int))]) (st' := [(0, 0)]) (g' := g145) rfl ?_
                  exact wp_ret rfl rfl rfl (StM.g hRb (((hF93.z.up (by omega)).up (by omega)).up (by omega) |>.trans hF145.z) ⟨hT145, (nx_in (by omega)).2.1, (hPn.tm hF145).up (by omega) (by omega), (hF145 127 21 (by omega)).trans ((up_nj (by decide)).trans ((up_ne (by decide)).trans ((up_nj (by decide)).trans ((hF93 127 21 (by omega)).trans h21))))⟩)
                · refine wp_n 1 (pc' := 128) (L' := [(2, 127), (0, (tV T L p - 4)), (0, (((mnx (tV T L p)) : Nat) : Int))]) (st' := [(0, 3)]) (g' := v93) rfl ?_
                  exact wp_ret rfl rfl rfl (StM.f (f := 3) (q := nx T L p) (by rw [rbg, if_neg (by omega), if_neg (by omega), if_neg (by omega), if_neg (by omega), if_pos (by omega), if_pos (by omega), if_pos (by omega)]) (by decide) rfl hF93.z hT93.1)
              · refine wp_n 1 (pc' := 117) (L' := [(2, 127), (0, (tV T L p - 4)), (0, (((mnx (tV T L p)) : Nat) : Int))]) (st' := [(0, 1)]) (g' := v93) rfl ?_
                exact wp_ret rfl rfl rfl (StM.f (f := 1) (q := nx T L p) (by rw [rbg, if_neg (by omega), if_neg (by omega), if_neg (by omega), if_neg (by omega), if_pos (by omega), if_neg (by omega)]) (by decide) rfl hF93.z hT93.1)
        · refine wp_eq (L' := [(2, 127), (0, (tV T L p - 4)), (9, 0)]) (st' := [(0, 0)]) (g' := w93) ?_
          refine wp_n 4 (pc' := 117) (L' := [(2, 127), (0, (tV T L p - 4)), (0, 0)]) (st' := [(0, 1)]) (g' := w93) rfl ?_
          exact wp_ret rfl rfl rfl (StM.f (f := 1) (q := p) (by rw [rbg, if_neg (by omega), if_neg (by omega), if_neg (by omega), if_neg (by omega), if_neg (by omega)]) (by decide) rfl hF93.z hT93.1)
      · refine wp_n 2 (pc' := 50) (L' := [(2, 127), (0, (tV T L p - 4)), (9, 0)]) (st' := [(0, 5), (0, (tV T L p - 4))]) (g' := g) rfl ?_
        refine wp_ic_ge rfl (fun c30 => ?_) (fun c30 => ?_)
        · refine wp_n 3 (pc' := 62) (L' := [(2, 127), (0, (tV T L p - 4)), (9, 0)]) (st' := [(0, (g 127 6)), (0, 0)]) (g' := g) rfl ?_
          refine wp_eq (L' := [(2, 127), (0, (tV T L p - 4)), (9, 0)]) (st' := [(0, ((k : Nat) : Int)), (0, 0)]) (g' := g) ?_ (by rfl) (by rw [hk]) (by rfl)
          refine wp_n 1 (pc' := 63) (L' := [(2, 127), (0, (tV T L p - 4)), (9, 0)]) (st' := [(0, 2), (0, ((k : Nat) : Int)), (0, 0)]) (g' := g) rfl ?_
          refine wp_ic_ge rfl (fun c31 => ?_) (fun c31 => ?_)
          · refine wp_n 5 (pc' := 79) (L' := [(2, 127), (0, (tV T L p - 4)), (9, 0)]) (st' := [(0, (tV T L p - 4)), (0, 1), (2, 127)]) (g' := g) rfl ?_
            refine wp_cv (as := [(2, 127), (0, 1), (0, (tV T L p - 4))]) (rest := []) rfl rfl rfl (Nat.le_of_ble_eq_true rfl) rfl (m_emit (x := 10000 + tV T L p - 4) (hP.up (N' := p + 1) (by omega) (by omega)) (by omega) (Or.inr (Or.inl ⟨by omega, by omega, rfl, by omega⟩))) (by decide) (fun r32 h33 => ?_)
            obtain ⟨g79, rfl, hP79, hF79, hj79⟩ := h33
            refine wp_eq (L' := [(2, 127), (0, (tV T L p - 4)), (9, 0)]) (st' := []) (g' := g79) ?_
            refine wp_n 1 (pc' := 83) (L' := [(2, 127), (0, (tV T L p - 4)), (9, 0)]) (st' := [(2, 127)]) (g' := g79) rfl ?_
            refine wp_cv (as := [(2, 127)]) (rest := []) rfl rfl rfl (Nat.le_of_ble_eq_true rfl) rfl (m_nextTk (T := T) (L := L) (p := p) (hR.z (t := t) (W := W) hF79.z) (hT.same fun j h1 h2 => hj79 j (by omega)) hp) (by decide) (fun r34 h35 => ?_)
            obtain ⟨g83, rfl, hT83, hF83⟩ := h35
            refine wp_eq (L' := [(2, 127), (0, (tV T L p - 4)), (9, 0)]) (st' := []) (g' := g83) ?_
            refine wp_n 1 (pc' := 87) (L' := [(2, 127), (0, (tV T L p - 4)), (9, 0)]) (st' := [(2, 127)]) (g' := g83) rfl ?_
            refine wp_cv (as := [(2, 127)]) (rest := []) rfl rfl rfl (Nat.le_of_ble_eq_true rfl) rfl (m_whole (hP79.tm hF83)) (by decide) (fun r36 h37 => ?_)
            obtain ⟨g87, rfl, hP87, hF87, hw87⟩ := h37
            refine wp_eq (L' := [(2, 127), (0, (tV T L p - 4)), (9, 0)]) (st' := []) (g' := g87) ?_
            refine wp_n 1 (pc' := 91) (L' := [(2, 127), (0, (tV T L p - 4)), (9, 0)]) (st' := [(0, 0)]) (g' := g87) rfl ?_
            exact wp_ret rfl rfl rfl (StM.g (s := (nx T L p, srp σ, true, out ++ ((10000 + tV T L p - 4) :: ngs σ))) (by rw [rbg, if_neg (by omega), if_pos (by omega), if_pos (by omega)]) (((hF79.z).trans hF83.z).trans hF87.z) ⟨hT83.same (fun j h1 h2 => hF87 127 j (by omega) (by omega) (by omega)), hn0.2.1, by have h9 := hP87.up (N' := nx T L p) (by omega) (by omega); rw [List.append_assoc] at h9; exact h9, hw87⟩)
          · refine wp_n 4 (pc' := 75) (L' := [(2, 127), (0, (tV T L p - 4)), (9, 0)]) (st' := [(0, 5)]) (g' := g) rfl ?_
            exact wp_ret rfl rfl rfl (StM.f (f := 5) (q := p) (by rw [rbg, if_neg (by omega), if_pos (by omega), if_neg (by omega)]) (by decide) rfl FrZ.rfl hT.1)
        · refine wp_n 4 (pc' := 62) (L' := [(2, 127), (0, (tV T L p - 4)), (9, 0)]) (st' := [(0, (g 127 6)), (0, 1)]) (g' := g) rfl ?_
          refine wp_eq (L' := [(2, 127), (0, (tV T L p - 4)), (9, 0)]) (st' := [(0, ((k : Nat) : Int)), (0, 1)]) (g' := g) ?_ (by rfl) (by rw [hk]) (by rfl)
          refine wp_n 1 (pc' := 63) (L' := [(2, 127), (0, (tV T L p - 4)), (9, 0)]) (st' := [(0, 2), (0, ((k : Nat) : Int)), (0, 1)]) (g' := g) rfl ?_
          refine wp_ic_ge rfl (fun c38 => ?_) (fun c38 => ?_)
          · refine wp_n 3 (pc' := 75) (L' := [(2, 127), (0, (tV T L p - 4)), (9, 0)]) (st' := [(0, 5)]) (g' := g) rfl ?_
            exact wp_ret rfl rfl rfl (StM.f (f := 5) (q := p) (by rw [rbg, if_neg (by omega), if_pos (by omega), if_neg (by omega)]) (by decide) rfl FrZ.rfl hT.1)
          · refine wp_n 6 (pc' := 79) (L' := [(2, 127), (0, (tV T L p - 4)), (9, 0)]) (st' := [(0, (tV T L p - 4)), (0, 1), (2, 127)]) (g' := g) rfl ?_
            refine wp_cv (as := [(2, 127), (0, 1), (0, (tV T L p - 4))]) (rest := []) rfl rfl rfl (Nat.le_of_ble_eq_true rfl) rfl (m_emit (x := 10000 + tV T L p - 4) (hP.up (N' := p + 1) (by omega) (by omega)) (by omega) (Or.inr (Or.inl ⟨by omega, by omega, rfl, by omega⟩))) (by decide) (fun r39 h40 => ?_)
            obtain ⟨g79, rfl, hP79, hF79, hj79⟩ := h40
            refine wp_eq (L' := [(2, 127), (0, (tV T L p - 4)), (9, 0)]) (st' := []) (g' := g79) ?_
            refine wp_n 1 (pc' := 83) (L' := [(2, 127), (0, (tV T L p - 4)), (9, 0)]) (st' := [(2, 127)]) (g' := g79) rfl ?_
            refine wp_cv (as := [(2, 127)]) (rest := []) rfl rfl rfl (Nat.le_of_ble_eq_true rfl) rfl (m_nextTk (T := T) (L := L) (p := p) (hR.z (t := t) (W := W) hF79.z) (hT.same fun j h1 h2 => hj79 j (by omega)) hp) (by decide) (fun r41 h42 => ?_)
            obtain ⟨g83, rfl, hT83, hF83⟩ := h42
            refine wp_eq (L' := [(2, 127), (0, (tV T L p - 4)), (9, 0)]) (st' := []) (g' := g83) ?_
            refine wp_n 1 (pc' := 87) (L' := [(2, 127), (0, (tV T L p - 4)), (9, 0)]) (st' := [(2, 127)]) (g' := g83) rfl ?_
            refine wp_cv (as := [(2, 127)]) (rest := []) rfl rfl rfl (Nat.le_of_ble_eq_true rfl) rfl (m_whole (hP79.tm hF83)) (by decide) (fun r43 h44 => ?_)
            obtain ⟨g87, rfl, hP87, hF87, hw87⟩ := h44
            refine wp_eq (L' := [(2, 127), (0, (tV T L p - 4)), (9, 0)]) (st' := []) (g' := g87) ?_
            refine wp_n 1 (pc' := 91) (L' := [(2, 127), (0, (tV T L p - 4)), (9, 0)]) (st' := [(0, 0)]) (g' := g87) rfl ?_
            exact wp_ret rfl rfl rfl (StM.g (s := (nx T L p, srp σ, true, out ++ ((10000 + tV T L p - 4) :: ngs σ))) (by rw [rbg, if_neg (by omega), if_pos (by omega), if_pos (by omega)]) (((hF79.z).trans hF83.z).trans hF87.z) ⟨hT83.same (fun j h1 h2 => hF87 127 j (by omega) (by omega) (by omega)), hn0.2.1, by have h9 := hP87.up (N' := nx T L p) (by omega) (by omega); rw [List.append_assoc] at h9; exact h9, hw87⟩)
    · refine wp_eq (L' := [(2, 127), (9, 0), (9, 0)]) (st' := [(0, (-1))]) (g' := g) ?_
      refine wp_n 4 (pc' := 93) (L' := [(2, 127), (0, (-1)), (9, 0)]) (st' := [(2, 127)]) (g' := g) rfl ?_
      refine wp_cv (as := [(2, 127)]) (rest := []) rfl rfl rfl (Nat.le_of_ble_eq_true rfl) rfl (m_opener hR hT hp) (by decide) (fun r45 h46 => ?_)
      rcases h46 with ⟨g93, rfl, hk93, hF93, hT93⟩ | ⟨u93, rfl, hk93, hF93, hT93⟩ | ⟨v93, rfl, hk93, hv93, hF93, hT93⟩ | ⟨w93, rfl, hk93, hk94, hk95, hF93, hT93⟩
      · refine wp_eq (L' := [(2, 127), (0, (-1)), (9, 0)]) (st' := [(0, 40)]) (g' := g93) ?_
        refine wp_n 8 (pc' := 122) (L' := [(2, 127), (0, (-1)), (0, 40)]) (st' := [(0, (g93 127 20))]) (g' := g93) rfl ?_
        refine wp_eq (L' := [(2, 127), (0, (-1)), (0, 40)]) (st' := [(0, (((opn σ) : Nat) : Int))]) (g' := g93) ?_ (by rfl) (by rw [hF93 127 20 (by omega), hop]) (by rfl)
        refine wp_n 1 (pc' := 124) (L' := [(2, 127), (0, (-1)), (0, 40)]) (st' := [(0, 8), (0, (((opn σ) : Nat) : Int))]) (g' := g93) rfl ?_
        refine wp_ic_ne rfl (fun c47 => ?_) (fun c47 => ?_)
        · refine wp_n 3 (pc' := 134) (L' := [(2, 127), (0, (-1)), (0, 40)]) (st' := [(0, (g93 127 20)), (2, 127)]) (g' := g93) rfl ?_
          refine wp_eq (L' := [(2, 127), (0, (-1)), (0, 40)]) (st' := [(0, (((opn σ) : Nat) : Int)), (2, 127)]) (g' := g93) ?_ (by rfl) (by rw [hF93 127 20 (by omega), hop]) (by rfl)
          refine wp_n 5 (pc' := 141) (L' := [(2, 127), (0, (-1)), (0, 40)]) (st' := [(0, 40), (2, 127)]) (g' := (am_up g93 127 20 ((((opn σ) : Nat) : Int) + 1))) rfl ?_
          refine wp_cv (as := [(2, 127), (0, 40)]) (rest := []) rfl rfl rfl (Nat.le_of_ble_eq_true rfl) rfl (m_push (σ := σ) (q := 40) ((up_nj (by decide)).trans ((hF93 127 19 (by omega)).trans hP.2.1)) (by omega)) (by decide) (fun r48 h49 => ?_)
          obtain rfl := h49
          have hPq := (hP.tm hF93).up (N' := p + 1) (by omega) (by omega)
          have hPn := hPq.push (q := 40) (g1 := am_up g93 127 20 ((opn σ : Int) + 1)) (fun c j a => up_no (by omega)) (by rw [up_eq, opn_y (by omega)]; rfl) (hwf.opener (by omega)) (by rw [opn_y (by omega)]; omega) (by omega)
          have hRb : rbg T L k p σ out = (0, nx T L p, 40 :: σ, false, out) := by rw [rbg, if_neg (by omega), if_neg (by omega), if_pos (by omega), if_neg (by omega)]
          refine wp_eq (L' := [(2, 127), (0, (-1)), (0, 40)]) (st' := []) (g' := (am_up (am_up (am_up g93 127 20 ((((opn σ) : Nat) : Int) + 1)) 132 σ.length 40) 127 19 ((σ.length : Int) + 1))) ?_
          refine wp_n 1 (pc' := 145) (L' := [(2, 127), (0, (-1)), (0, 40)]) (st' := [(2, 127)]) (g' := (am_up (am_up (am_up g93 127 20 ((((opn σ) : Nat) : Int) + 1)) 132 σ.length 40) 127 19 ((σ.length : Int) + 1))) rfl ?_
          refine wp_cv (as := [(2, 127)]) (rest := []) rfl rfl rfl (Nat.le_of_ble_eq_true rfl) rfl (m_nextTk (T := T) (L := L) (p := p) (hR.z (t := t) (W := W) (((hF93.z.up (by omega)).up (by omega)).up (by omega))) (hT93.same fun j h1 h2 => (up_nj (by omega)).trans ((up_ne (by decide)).trans (up_nj (by omega)))) (by omega)) (by decide) (fun r50 h51 => ?_)
          obtain ⟨g145, rfl, hT145, hF145⟩ := h51
          have hnn := nx_in (T := T) (L := L) (p := p) (by omega)
          refine wp_eq (L' := [(2, 127), (0, (-1)), (0, 40)]) (st' := []) (g' := g145) ?_
          refine wp_n 1 (pc' := 149) (L' := [(2, 127), (0, (-1)), (0, 40)]) (st' := [(0, 0)]) (g' := g145) rfl ?_
          exact wp_ret rfl rfl rfl (StM.g hRb (((hF93.z.up (by omega)).up (by omega)).up (by omega) |>.trans hF145.z) ⟨hT145, (nx_in (by omega)).2.1, (hPn.tm hF145).up (by omega) (by omega), (hF145 127 21 (by omega)).trans ((up_nj (by decide)).trans ((up_ne (by decide)).trans ((up_nj (by decide)).trans ((hF93 127 21 (by omega)).trans h21))))⟩)
        · refine wp_n 1 (pc' := 128) (L' := [(2, 127), (0, (-1)), (0, 40)]) (st' := [(0, 3)]) (g' := g93) rfl ?_
          exact wp_ret rfl rfl rfl (StM.f (f := 3) (q := p) (by rw [rbg, if_neg (by omega), if_neg (by omega), if_pos (by omega), if_pos (by omega)]) (by decide) rfl hF93.z hT93.1)
      · refine wp_eq (L' := [(2, 127), (0, (-1)), (9, 0)]) (st' := [(0, 2)]) (g' := u93) ?_
        refine wp_n 8 (pc' := 122) (L' := [(2, 127), (0, (-1)), (0, 2)]) (st' := [(0, (u93 127 20))]) (g' := u93) rfl ?_
        refine wp_eq (L' := [(2, 127), (0, (-1)), (0, 2)]) (st' := [(0, (((opn σ) : Nat) : Int))]) (g' := u93) ?_ (by rfl) (by rw [hF93 127 20 (by omega), hop]) (by rfl)
        refine wp_n 1 (pc' := 124) (L' := [(2, 127), (0, (-1)), (0, 2)]) (st' := [(0, 8), (0, (((opn σ) : Nat) : Int))]) (g' := u93) rfl ?_
        refine wp_ic_ne rfl (fun c52 => ?_) (fun c52 => ?_)
        · refine wp_n 3 (pc' := 134) (L' := [(2, 127), (0, (-1)), (0, 2)]) (st' := [(0, (u93 127 20)), (2, 127)]) (g' := u93) rfl ?_
          refine wp_eq (L' := [(2, 127), (0, (-1)), (0, 2)]) (st' := [(0, (((opn σ) : Nat) : Int)), (2, 127)]) (g' := u93) ?_ (by rfl) (by rw [hF93 127 20 (by omega), hop]) (by rfl)
          refine wp_n 5 (pc' := 141) (L' := [(2, 127), (0, (-1)), (0, 2)]) (st' := [(0, 2), (2, 127)]) (g' := (am_up u93 127 20 ((((opn σ) : Nat) : Int) + 1))) rfl ?_
          refine wp_cv (as := [(2, 127), (0, 2)]) (rest := []) rfl rfl rfl (Nat.le_of_ble_eq_true rfl) rfl (m_push (σ := σ) (q := 2) ((up_nj (by decide)).trans ((hF93 127 19 (by omega)).trans hP.2.1)) (by omega)) (by decide) (fun r53 h54 => ?_)
          obtain rfl := h54
          have hPq := (hP.tm hF93).up (N' := p + 1) (by omega) (by omega)
          have hPn := hPq.push (q := 2) (g1 := am_up u93 127 20 ((opn σ : Int) + 1)) (fun c j a => up_no (by omega)) (by rw [up_eq, opn_y (by omega)]; rfl) (hwf.opener (by omega)) (by rw [opn_y (by omega)]; omega) (by omega)
          have hRb : rbg T L k p σ out = (0, nx T L p, 2 :: σ, false, out) := by rw [rbg, if_neg (by omega), if_neg (by omega), if_neg (by omega), if_pos (by omega), if_neg (by omega)]
          refine wp_eq (L' := [(2, 127), (0, (-1)), (0, 2)]) (st' := []) (g' := (am_up (am_up (am_up u93 127 20 ((((opn σ) : Nat) : Int) + 1)) 132 σ.length 2) 127 19 ((σ.length : Int) + 1))) ?_
          refine wp_n 1 (pc' := 145) (L' := [(2, 127), (0, (-1)), (0, 2)]) (st' := [(2, 127)]) (g' := (am_up (am_up (am_up u93 127 20 ((((opn σ) : Nat) : Int) + 1)) 132 σ.length 2) 127 19 ((σ.length : Int) + 1))) rfl ?_
          refine wp_cv (as := [(2, 127)]) (rest := []) rfl rfl rfl (Nat.le_of_ble_eq_true rfl) rfl (m_nextTk (T := T) (L := L) (p := p) (hR.z (t := t) (W := W) (((hF93.z.up (by omega)).up (by omega)).up (by omega))) (hT93.same fun j h1 h2 => (up_nj (by omega)).trans ((up_ne (by decide)).trans (up_nj (by omega)))) (by omega)) (by decide) (fun r55 h56 => ?_)
          obtain ⟨g145, rfl, hT145, hF145⟩ := h56
          have hnn := nx_in (T := T) (L := L) (p := p) (by omega)
          refine wp_eq (L' := [(2, 127), (0, (-1)), (0, 2)]) (st' := []) (g' := g145) ?_
          refine wp_n 1 (pc' := 149) (L' := [(2, 127), (0, (-1)), (0, 2)]) (st' := [(0, 0)]) (g' := g145) rfl ?_
          exact wp_ret rfl rfl rfl (StM.g hRb (((hF93.z.up (by omega)).up (by omega)).up (by omega) |>.trans hF145.z) ⟨hT145, (nx_in (by omega)).2.1, (hPn.tm hF145).up (by omega) (by omega), (hF145 127 21 (by omega)).trans ((up_nj (by decide)).trans ((up_ne (by decide)).trans ((up_nj (by decide)).trans ((hF93 127 21 (by omega)).trans h21))))⟩)
        · refine wp_n 1 (pc' := 128) (L' := [(2, 127), (0, (-1)), (0, 2)]) (st' := [(0, 3)]) (g' := u93) rfl ?_
          exact wp_ret rfl rfl rfl (StM.f (f := 3) (q := p) (by rw [rbg, if_neg (by omega), if_neg (by omega), if_neg (by omega), if_pos (by omega), if_pos (by omega)]) (by decide) rfl hF93.z hT93.1)
      · have hmx := mnx_in (tV T L p)
        have hto2 := tkM_or (p := nx T L p) hR.2.2.2
        refine wp_eq (L' := [(2, 127), (0, (-1)), (9, 0)]) (st' := [(0, (((mnx (tV T L p)) : Nat) : Int))]) (g' := v93) ?_
        refine wp_n 2 (pc' := 98) (L' := [(2, 127), (0, (-1)), (0, (((mnx (tV T L p)) : Nat) : Int))]) (st' := [(0, (((mnx (tV T L p)) : Nat) : Int))]) (g' := v93) rfl ?_
        refine wp_if_eq rfl (fun c57 => ?_) (fun c57 => ?_)
        · refine wp_n 1 (pc' := 117) (L' := [(2, 127), (0, (-1)), (0, (((mnx (tV T L p)) : Nat) : Int))]) (st' := [(0, 1)]) (g' := v93) rfl ?_
          exact wp_ret rfl rfl rfl (StM.f (f := 1) (q := nx T L p) (by rw [rbg, if_neg (by omega), if_neg (by omega), if_neg (by omega), if_neg (by omega), if_pos (by omega), if_neg (by omega)]) (by decide) rfl hF93.z hT93.1)
        · refine wp_n 2 (pc' := 104) (L' := [(2, 127), (0, (-1)), (0, (((mnx (tV T L p)) : Nat) : Int))]) (st' := [(0, 40), (0, (((mnx (tV T L p)) : Nat) : Int))]) (g' := v93) rfl ?_
          refine wp_ic_le rfl (fun c58 => ?_) (fun c58 => ?_)
          · refine wp_n 2 (pc' := 122) (L' := [(2, 127), (0, (-1)), (0, (((mnx (tV T L p)) : Nat) : Int))]) (st' := [(0, (v93 127 20))]) (g' := v93) rfl ?_
            refine wp_eq (L' := [(2, 127), (0, (-1)), (0, (((mnx (tV T L p)) : Nat) : Int))]) (st' := [(0, (((opn σ) : Nat) : Int))]) (g' := v93) ?_ (by rfl) (by rw [hF93 127 20 (by omega), hop]) (by rfl)
            refine wp_n 1 (pc' := 124) (L' := [(2, 127), (0, (-1)), (0, (((mnx (tV T L p)) : Nat) : Int))]) (st' := [(0, 8), (0, (((opn σ) : Nat) : Int))]) (g' := v93) rfl ?_
            refine wp_ic_ne rfl (fun c59 => ?_) (fun c59 => ?_)
            · refine wp_n 3 (pc' := 134) (L' := [(2, 127), (0, (-1)), (0, (((mnx (tV T L p)) : Nat) : Int))]) (st' := [(0, (v93 127 20)), (2, 127)]) (g' := v93) rfl ?_
              refine wp_eq (L' := [(2, 127), (0, (-1)), (0, (((mnx (tV T L p)) : Nat) : Int))]) (st' := [(0, (((opn σ) : Nat) : Int)), (2, 127)]) (g' := v93) ?_ (by rfl) (by rw [hF93 127 20 (by omega), hop]) (by rfl)
              refine wp_n 5 (pc' := 141) (L' := [(2, 127), (0, (-1)), (0, (((mnx (tV T L p)) : Nat) : Int))]) (st' := [(0, (((mnx (tV T L p)) : Nat) : Int)), (2, 127)]) (g' := (am_up v93 127 20 ((((opn σ) : Nat) : Int) + 1))) rfl ?_
              refine wp_cv (as := [(2, 127), (0, (((mnx (tV T L p)) : Nat) : Int))]) (rest := []) rfl rfl rfl (Nat.le_of_ble_eq_true rfl) rfl (m_push (σ := σ) (q := (((mnx (tV T L p)) : Nat) : Int)) ((up_nj (by decide)).trans ((hF93 127 19 (by omega)).trans hP.2.1)) (by omega)) (by decide) (fun r60 h61 => ?_)
              obtain rfl := h61
              have hPq := (hP.tm hF93).up (N' := p + 1) (by omega) (by omega)
              have hPn := hPq.push (q := (mnx (tV T L p))) (g1 := am_up v93 127 20 ((opn σ : Int) + 1)) (fun c j a => up_no (by omega)) (by rw [up_eq, opn_y (by omega)]; rfl) (hwf.opener (by omega)) (by rw [opn_y (by omega)]; omega) (by omega)
              have hRb : rbg T L k p σ out = (0, nx T L (nx T L p), (mnx (tV T L p)) :: σ, false, out) := by rw [rbg, if_neg (by omega), if_neg (by omega), if_neg (by omega), if_neg (by omega), if_pos (by omega), if_pos (by omega), if_neg (by omega)]; rfl
              refine wp_eq (L' := [(2, 127), (0, (-1)), (0, (((mnx (tV T L p)) : Nat) : Int))]) (st' := []) (g' := (am_up (am_up (am_up v93 127 20 ((((opn σ) : Nat) : Int) + 1)) 132 σ.length (((mnx (tV T L p)) : Nat) : Int)) 127 19 ((σ.length : Int) + 1))) ?_
              refine wp_n 1 (pc' := 145) (L' := [(2, 127), (0, (-1)), (0, (((mnx (tV T L p)) : Nat) : Int))]) (st' := [(2, 127)]) (g' := (am_up (am_up (am_up v93 127 20 ((((opn σ) : Nat) : Int) + 1)) 132 σ.length (((mnx (tV T L p)) : Nat) : Int)) 127 19 ((σ.length : Int) + 1))) rfl ?_
              refine wp_cv (as := [(2, 127)]) (rest := []) rfl rfl rfl (Nat.le_of_ble_eq_true rfl) rfl (m_nextTk (T := T) (L := L) (p := (nx T L p)) (hR.z (t := t) (W := W) (((hF93.z.up (by omega)).up (by omega)).up (by omega))) (hT93.same fun j h1 h2 => (up_nj (by omega)).trans ((up_ne (by decide)).trans (up_nj (by omega)))) (by omega)) (by decide) (fun r62 h63 => ?_)
              obtain ⟨g145, rfl, hT145, hF145⟩ := h63
              have hnn := nx_in (T := T) (L := L) (p := (nx T L p)) (by omega)
              refine wp_eq (L' := [(2, 127), (0, (-1)), (0, (((mnx (tV T L p)) : Nat) : Int))]) (st' := []) (g' := g145) ?_
              refine wp_n 1 (pc' := 149) (L' := [(2, 127), (0, (-1)), (0, (((mnx (tV T L p)) : Nat) : Int))]) (st' := [(0, 0)]) (g' := g145) rfl ?_
              exact wp_ret rfl rfl rfl (StM.g hRb (((hF93.z.up (by omega)).up (by omega)).up (by omega) |>.trans hF145.z) ⟨hT145, (nx_in (by omega)).2.1, (hPn.tm hF145).up (by omega) (by omega), (hF145 127 21 (by omega)).trans ((up_nj (by decide)).trans ((up_ne (by decide)).trans ((up_nj (by decide)).trans ((hF93 127 21 (by omega)).trans h21))))⟩)
            · refine wp_n 1 (pc' := 128) (L' := [(2, 127), (0, (-1)), (0, (((mnx (tV T L p)) : Nat) : Int))]) (st' := [(0, 3)]) (g' := v93) rfl ?_
              exact wp_ret rfl rfl rfl (StM.f (f := 3) (q := nx T L p) (by rw [rbg, if_neg (by omega), if_neg (by omega), if_neg (by omega), if_neg (by omega), if_pos (by omega), if_pos (by omega), if_pos (by omega)]) (by decide) rfl hF93.z hT93.1)
          · refine wp_n 2 (pc' := 111) (L' := [(2, 127), (0, (-1)), (0, (((mnx (tV T L p)) : Nat) : Int))]) (st' := [(0, (v93 127 11))]) (g' := v93) rfl ?_
            refine wp_eq (L' := [(2, 127), (0, (-1)), (0, (((mnx (tV T L p)) : Nat) : Int))]) (st' := [(0, (tkM (tK T L (nx T L p))))]) (g' := v93) ?_ (by rfl) (by rw [hT93.2.1]) (by rfl)
            refine wp_n 1 (pc' := 113) (L' := [(2, 127), (0, (-1)), (0, (((mnx (tV T L p)) : Nat) : Int))]) (st' := [(0, 40), (0, (tkM (tK T L (nx T L p))))]) (g' := v93) rfl ?_
            refine wp_ic_eq rfl (fun c64 => ?_) (fun c64 => ?_)
            · refine wp_n 2 (pc' := 122) (L' := [(2, 127), (0, (-1)), (0, (((mnx (tV T L p)) : Nat) : Int))]) (st' := [(0, (v93 127 20))]) (g' := v93) rfl ?_
              refine wp_eq (L' := [(2, 127), (0, (-1)), (0, (((mnx (tV T L p)) : Nat) : Int))]) (st' := [(0, (((opn σ) : Nat) : Int))]) (g' := v93) ?_ (by rfl) (by rw [hF93 127 20 (by omega), hop]) (by rfl)
              refine wp_n 1 (pc' := 124) (L' := [(2, 127), (0, (-1)), (0, (((mnx (tV T L p)) : Nat) : Int))]) (st' := [(0, 8), (0, (((opn σ) : Nat) : Int))]) (g' := v93) rfl ?_
              refine wp_ic_ne rfl (fun c65 => ?_) (fun c65 => ?_)
              · refine wp_n 3 (pc' := 134) (L' := [(2, 127), (0, (-1)), (0, (((mnx (tV T L p)) : Nat) : Int))]) (st' := [(0, (v93 127 20)), (2, 127)]) (g' := v93) rfl ?_
                refine wp_eq (L' := [(2, 127), (0, (-1)), (0, (((mnx (tV T L p)) : Nat) : Int))]) (st' := [(0, (((opn σ) : Nat) : Int)), (2, 127)]) (g' := v93) ?_ (by rfl) (by rw [hF93 127 20 (by omega), hop]) (by rfl)
                refine wp_n 5 (pc' := 141) (L' := [(2, 127), (0, (-1)), (0, (((mnx (tV T L p)) : Nat) : Int))]) (st' := [(0, (((mnx (tV T L p)) : Nat) : Int)), (2, 127)]) (g' := (am_up v93 127 20 ((((opn σ) : Nat) : Int) + 1))) rfl ?_
                refine wp_cv (as := [(2, 127), (0, (((mnx (tV T L p)) : Nat) : Int))]) (rest := []) rfl rfl rfl (Nat.le_of_ble_eq_true rfl) rfl (m_push (σ := σ) (q := (((mnx (tV T L p)) : Nat) : Int)) ((up_nj (by decide)).trans ((hF93 127 19 (by omega)).trans hP.2.1)) (by omega)) (by decide) (fun r66 h67 => ?_)
                obtain rfl := h67
                have hPq := (hP.tm hF93).up (N' := p + 1) (by omega) (by omega)
                have hPn := hPq.push (q := (mnx (tV T L p))) (g1 := am_up v93 127 20 ((opn σ : Int) + 1)) (fun c j a => up_no (by omega)) (by rw [up_eq, opn_y (by omega)]; rfl) (hwf.opener (by omega)) (by rw [opn_y (by omega)]; omega) (by omega)
                have hRb : rbg T L k p σ out = (0, nx T L (nx T L p), (mnx (tV T L p)) :: σ, false, out) := by rw [rbg, if_neg (by omega), if_neg (by omega), if_neg (by omega), if_neg (by omega), if_pos (by omega), if_pos (by omega), if_neg (by omega)]; rfl
                refine wp_eq (L' := [(2, 127), (0, (-1)), (0, (((mnx (tV T L p)) : Nat) : Int))]) (st' := []) (g' := (am_up (am_up (am_up v93 127 20 ((((opn σ) : Nat) : Int) + 1)) 132 σ.length (((mnx (tV T L p)) : Nat) : Int)) 127 19 ((σ.length : Int) + 1))) ?_
                refine wp_n 1 (pc' := 145) (L' := [(2, 127), (0, (-1)), (0, (((mnx (tV T L p)) : Nat) : Int))]) (st' := [(2, 127)]) (g' := (am_up (am_up (am_up v93 127 20 ((((opn σ) : Nat) : Int) + 1)) 132 σ.length (((mnx (tV T L p)) : Nat) : Int)) 127 19 ((σ.length : Int) + 1))) rfl ?_
                refine wp_cv (as := [(2, 127)]) (rest := []) rfl rfl rfl (Nat.le_of_ble_eq_true rfl) rfl (m_nextTk (T := T) (L := L) (p := (nx T L p)) (hR.z (t := t) (W := W) (((hF93.z.up (by omega)).up (by omega)).up (by omega))) (hT93.same fun j h1 h2 => (up_nj (by omega)).trans ((up_ne (by decide)).trans (up_nj (by omega)))) (by omega)) (by decide) (fun r68 h69 => ?_)
                obtain ⟨g145, rfl, hT145, hF145⟩ := h69
                have hnn := nx_in (T := T) (L := L) (p := (nx T L p)) (by omega)
                refine wp_eq (L' := [(2, 127), (0, (-1)), (0, (((mnx (tV T L p)) : Nat) : Int))]) (st' := []) (g' := g145) ?_
                refine wp_n 1 (pc' := 149) (L' := [(2, 127), (0, (-1)), (0, (((mnx (tV T L p)) : Nat) : Int))]) (st' := [(0, 0)]) (g' := g145) rfl ?_
                exact wp_ret rfl rfl rfl (StM.g hRb (((hF93.z.up (by omega)).up (by omega)).up (by omega) |>.trans hF145.z) ⟨hT145, (nx_in (by omega)).2.1, (hPn.tm hF145).up (by omega) (by omega), (hF145 127 21 (by omega)).trans ((up_nj (by decide)).trans ((up_ne (by decide)).trans ((up_nj (by decide)).trans ((hF93 127 21 (by omega)).trans h21))))⟩)
              · refine wp_n 1 (pc' := 128) (L' := [(2, 127), (0, (-1)), (0, (((mnx (tV T L p)) : Nat) : Int))]) (st' := [(0, 3)]) (g' := v93) rfl ?_
                exact wp_ret rfl rfl rfl (StM.f (f := 3) (q := nx T L p) (by rw [rbg, if_neg (by omega), if_neg (by omega), if_neg (by omega), if_neg (by omega), if_pos (by omega), if_pos (by omega), if_pos (by omega)]) (by decide) rfl hF93.z hT93.1)
            · refine wp_n 1 (pc' := 117) (L' := [(2, 127), (0, (-1)), (0, (((mnx (tV T L p)) : Nat) : Int))]) (st' := [(0, 1)]) (g' := v93) rfl ?_
              exact wp_ret rfl rfl rfl (StM.f (f := 1) (q := nx T L p) (by rw [rbg, if_neg (by omega), if_neg (by omega), if_neg (by omega), if_neg (by omega), if_pos (by omega), if_neg (by omega)]) (by decide) rfl hF93.z hT93.1)
      · refine wp_eq (L' := [(2, 127), (0, (-1)), (9, 0)]) (st' := [(0, 0)]) (g' := w93) ?_
        refine wp_n 4 (pc' := 117) (L' := [(2, 127), (0, (-1)), (0, 0)]) (st' := [(0, 1)]) (g' := w93) rfl ?_
        exact wp_ret rfl rfl rfl (StM.f (f := 1) (q := p) (by rw [rbg, if_neg (by omega), if_neg (by omega), if_neg (by omega), if_neg (by omega), if_neg (by omega)]) (by decide) rfl hF93.z hT93.1)
  · have hnr9 := hnr (by omega)
    unfold NmR at hnr9
    refine wp_n 3 (pc' := 15) (L' := [(2, 127), (9, 0), (9, 0)]) (st' := [(0, 9999), (0, (g 127 12))]) (g' := g) rfl ?_
    refine wp_ic_le rfl (fun c70 => ?_) (fun c70 => ?_)
    · refine wp_n 4 (pc' := 26) (L' := [(2, 127), (9, 0), (9, 0)]) (st' := [(0, (g 127 12)), (0, 0), (2, 127)]) (g' := g) rfl ?_
      refine wp_cv (as := [(2, 127), (0, 0), (0, (g 127 12))]) (rest := []) rfl rfl rfl (Nat.le_of_ble_eq_true rfl) rfl (m_emit (x := tV T L p) (hP.up (N' := p + 1) (by omega) (by omega)) (by omega) (Or.inl ⟨by omega, by omega, rfl, by omega⟩)) (by decide) (fun r71 h72 => ?_)
      obtain ⟨g26, rfl, hP26, hF26, hj26⟩ := h72
      refine wp_eq (L' := [(2, 127), (9, 0), (9, 0)]) (st' := []) (g' := g26) ?_
      refine wp_n 1 (pc' := 30) (L' := [(2, 127), (9, 0), (9, 0)]) (st' := [(2, 127)]) (g' := g26) rfl ?_
      refine wp_cv (as := [(2, 127)]) (rest := []) rfl rfl rfl (Nat.le_of_ble_eq_true rfl) rfl (m_nextTk (T := T) (L := L) (p := p) (hR.z (t := t) (W := W) hF26.z) (hT.same fun j h1 h2 => hj26 j (by omega)) hp) (by decide) (fun r73 h74 => ?_)
      obtain ⟨g30, rfl, hT30, hF30⟩ := h74
      refine wp_eq (L' := [(2, 127), (9, 0), (9, 0)]) (st' := []) (g' := g30) ?_
      refine wp_n 1 (pc' := 34) (L' := [(2, 127), (9, 0), (9, 0)]) (st' := [(2, 127)]) (g' := g30) rfl ?_
      refine wp_cv (as := [(2, 127)]) (rest := []) rfl rfl rfl (Nat.le_of_ble_eq_true rfl) rfl (m_whole (hP26.tm hF30)) (by decide) (fun r75 h76 => ?_)
      obtain ⟨g34, rfl, hP34, hF34, hw34⟩ := h76
      refine wp_eq (L' := [(2, 127), (9, 0), (9, 0)]) (st' := []) (g' := g34) ?_
      refine wp_n 1 (pc' := 38) (L' := [(2, 127), (9, 0), (9, 0)]) (st' := [(0, 0)]) (g' := g34) rfl ?_
      exact wp_ret rfl rfl rfl (StM.g (s := (nx T L p, srp σ, true, out ++ (tV T L p :: ngs σ))) (by rw [rbg, if_pos (by omega), if_neg (by omega)]) (((hF26.z).trans hF30.z).trans hF34.z) ⟨hT30.same (fun j h1 h2 => hF34 127 j (by omega) (by omega) (by omega)), hn0.2.1, by have h9 := hP34.up (N' := nx T L p) (by omega) (by omega); rw [List.append_assoc] at h9; exact h9, hw34⟩)
    · refine wp_n 1 (pc' := 19) (L' := [(2, 127), (9, 0), (9, 0)]) (st' := [(0, 2)]) (g' := g) rfl ?_
      exact wp_ret rfl rfl rfl (StM.f (f := 2) (q := p) (by rw [rbg, if_pos (by omega), if_pos (by omega)]) (by decide) rfl FrZ.rfl hT.1)
set_option maxHeartbeats 400000 in
set_option maxRecDepth 20000 in
theorem m_behindOne {sn : Nat} {sx : Nat → Int} {b : Nat} {g : am_G} {T : Nat → Int} {L p t W k : Nat} {σ : List Nat} {out : List Int} (hR : RdM T L g) (hT : TkM T L g p) (hp : p ≤ L) (hP : PSt t W p σ out g) (h21 : g 127 21 = 1) (hg : gon T L p σ) : Ev sn sx 5 181 [(2, 127)] (SH b) g (StM T L t W (rbe T L p σ out) g (SH b)) := by
  have hto := tkM_or (p := p) hR.2.2.2
  have hL3 := hR.2.2.1
  have hNN := hP.2.2.2.2.2.2.2.2.1
  have hop := hP.2.2.1
  have ho8 := hP.2.2.2.2.2.2.2.1
  have hwf := hP.2.2.2.2.2.2.1
  have hn0 := nx_in (T := T) hp
  have hla := lat_in hwf
  unfold gon at hg
  have hlt : p < L := tK_end (T := T) hp (by omega)
  have hlt2 : p < nx T L p := hn0.2.2 hlt
  refine ev_of (K := 4) T181 (by decide) rfl rfl (Nat.le_of_ble_eq_true rfl) ?_
  refine wp_eq (L' := [(2, 127), (9, 0), (9, 0), (9, 0)]) (st' := []) (g' := g) ?_
  refine wp_n 2 (pc' := 4) (L' := [(2, 127), (9, 0), (9, 0), (9, 0)]) (st' := [(0, (g 127 11))]) (g' := g) rfl ?_
  refine wp_eq (L' := [(2, 127), (9, 0), (9, 0), (9, 0)]) (st' := [(0, (tK T L p))]) (g' := g) ?_ (by rfl) (by rw [hT.2.1, tkM_sg (by omega)]) (by rfl)
  refine wp_n 3 (pc' := 8) (L' := [(2, 127), (0, (tK T L p)), (9, 0), (9, 0)]) (st' := [(0, 43), (0, (tK T L p))]) (g' := g) rfl ?_
  refine wp_ic_eq rfl (fun c1 => ?_) (fun c1 => ?_)
  · refine wp_n 2 (pc' := 19) (L' := [(2, 127), (0, (tK T L p)), (9, 0), (9, 0)]) (st' := [(0, 3), (2, 127)]) (g' := g) rfl ?_
    refine wp_cv (as := [(2, 127), (0, 3)]) (rest := []) rfl rfl rfl (Nat.le_of_ble_eq_true rfl) rfl (m_settle (l := 3) (by decide) hP) (by decide) (fun r2 h3 => ?_)
    obtain ⟨g19, rfl, hP19, hF19, hj19⟩ := h3
    have hws := wf.stl (l := 3) (by decide) σ hwf
    have hsl := hP19.2.2.2.2.2.2.1.len
    have hso := hP19.2.2.2.2.2.2.2.1
    have hsN := hP19.2.2.2.2.2.2.2.2.1
    refine wp_eq (L' := [(2, 127), (0, (tK T L p)), (9, 0), (9, 0)]) (st' := []) (g' := g19) ?_
    refine wp_n 3 (pc' := 26) (L' := [(2, 127), (0, (tK T L p)), (9, 0), (9, 0)]) (st' := [(0, 43), (0, (tK T L p)), (2, 127)]) (g' := g19) rfl ?_
    refine wp_ic_ne rfl (fun c4 => ?_) (fun c4 => ?_)
    · refine wp_n 1 (pc' := 34) (L' := [(2, 127), (0, (tK T L p)), (9, 0), (9, 0)]) (st' := [(0, 4), (2, 127)]) (g' := g19) rfl ?_
      refine wp_cv (as := [(2, 127), (0, 4)]) (rest := []) rfl rfl rfl (Nat.le_of_ble_eq_true rfl) rfl (m_push (σ := stl 3 σ) (q := 4) hP19.2.1 (by omega)) (by decide) (fun r5 h6 => ?_)
      obtain rfl := h6
      have hPn := (hP19.up (N' := p + 1) (by omega) (by omega)).push (q := 4) (g1 := g19) (fun c j _ => rfl) (by rw [opn_n (by decide)]; exact hP19.2.2.1) (wf_op hwf (by omega)) (by rw [opn_n (by decide)]; exact hso) (by omega)
      refine wp_eq (L' := [(2, 127), (0, (tK T L p)), (9, 0), (9, 0)]) (st' := []) (g' := (am_up (am_up g19 132 (stl 3 σ).length 4) 127 19 (((stl 3 σ).length : Int) + 1))) ?_
      refine wp_n 5 (pc' := 206) (L' := [(2, 127), (0, (tK T L p)), (9, 0), (9, 0)]) (st' := [(2, 127)]) (g' := (am_up (am_up (am_up g19 132 (stl 3 σ).length 4) 127 19 (((stl 3 σ).length : Int) + 1)) 127 21 0)) rfl ?_
      refine wp_cv (as := [(2, 127)]) (rest := []) rfl rfl rfl (Nat.le_of_ble_eq_true rfl) rfl (m_nextTk (T := T) (L := L) (p := p) (hR.z (t := t) (W := W) (((hF19.z.up (by omega)).up (by omega)).up (by omega))) (hT.same fun j h1 h2 => by rw [up_nj (by omega), up_nj (by omega), up_ne (by decide), hF19 127 j (by omega) (by omega) (by omega)]) hp) (by decide) (fun r7 h8 => ?_)
      obtain ⟨g206, rfl, hT206, hF206⟩ := h8
      refine wp_eq (L' := [(2, 127), (0, (tK T L p)), (9, 0), (9, 0)]) (st' := []) (g' := g206) ?_
      refine wp_n 1 (pc' := 210) (L' := [(2, 127), (0, (tK T L p)), (9, 0), (9, 0)]) (st' := [(0, 0)]) (g' := g206) rfl ?_
      exact wp_ret rfl rfl rfl (StM.g (s := (nx T L p, 4 :: stl 3 σ, false, out ++ ste 3 σ)) (by rw [rbe, if_pos (by omega), if_neg (by omega)]) ((((hF19.z.up (by omega)).up (by omega)).up (by omega)).trans hF206.z) ⟨hT206, hn0.2.1, (((hPn.same (fun j hj => up_nj (by omega)) (fun j => up_ne (by decide)) (fun j => up_ne (by decide))).tm hF206).up (by omega) (by omega)), (hF206 127 21 (by omega)).trans up_eq⟩)
    · refine wp_n 2 (pc' := 34) (L' := [(2, 127), (0, (tK T L p)), (9, 0), (9, 0)]) (st' := [(0, 3), (2, 127)]) (g' := g19) rfl ?_
      refine wp_cv (as := [(2, 127), (0, 3)]) (rest := []) rfl rfl rfl (Nat.le_of_ble_eq_true rfl) rfl (m_push (σ := stl 3 σ) (q := 3) hP19.2.1 (by omega)) (by decide) (fun r9 h10 => ?_)
      obtain rfl := h10
      have hPn := (hP19.up (N' := p + 1) (by omega) (by omega)).push (q := 3) (g1 := g19) (fun c j _ => rfl) (by rw [opn_n (by decide)]; exact hP19.2.2.1) (wf_op hwf (by omega)) (by rw [opn_n (by decide)]; exact hso) (by omega)
      refine wp_eq (L' := [(2, 127), (0, (tK T L p)), (9, 0), (9, 0)]) (st' := []) (g' := (am_up (am_up g19 132 (stl 3 σ).length 3) 127 19 (((stl 3 σ).length : Int) + 1))) ?_
      refine wp_n 5 (pc' := 206) (L' := [(2, 127), (0, (tK T L p)), (9, 0), (9, 0)]) (st' := [(2, 127)]) (g' := (am_up (am_up (am_up g19 132 (stl 3 σ).length 3) 127 19 (((stl 3 σ).length : Int) + 1)) 127 21 0)) rfl ?_
      refine wp_cv (as := [(2, 127)]) (rest := []) rfl rfl rfl (Nat.le_of_ble_eq_true rfl) rfl (m_nextTk (T := T) (L := L) (p := p) (hR.z (t := t) (W := W) (((hF19.z.up (by omega)).up (by omega)).up (by omega))) (hT.same fun j h1 h2 => by rw [up_nj (by omega), up_nj (by omega), up_ne (by decide), hF19 127 j (by omega) (by omega) (by omega)]) hp) (by decide) (fun r11 h12 => ?_)
      obtain ⟨g206, rfl, hT206, hF206⟩ := h12
      refine wp_eq (L' := [(2, 127), (0, (tK T L p)), (9, 0), (9, 0)]) (st' := []) (g' := g206) ?_
      refine wp_n 1 (pc' := 210) (L' := [(2, 127), (0, (tK T L p)), (9, 0), (9, 0)]) (st' := [(0, 0)]) (g' := g206) rfl ?_
      exact wp_ret rfl rfl rfl (StM.g (s := (nx T L p, 3 :: stl 3 σ, false, out ++ ste 3 σ)) (by rw [rbe, if_pos (by omega), if_pos (by omega)]) ((((hF19.z.up (by omega)).up (by omega)).up (by omega)).trans hF206.z) ⟨hT206, hn0.2.1, (((hPn.same (fun j hj => up_nj (by omega)) (fun j => up_ne (by decide)) (fun j => up_ne (by decide))).tm hF206).up (by omega) (by omega)), (hF206 127 21 (by omega)).trans up_eq⟩)
  · refine wp_n 2 (pc' := 14) (L' := [(2, 127), (0, (tK T L p)), (9, 0), (9, 0)]) (st' := [(0, 45), (0, (tK T L p))]) (g' := g) rfl ?_
    refine wp_ic_ne rfl (fun c13 => ?_) (fun c13 => ?_)
    · refine wp_n 2 (pc' := 48) (L' := [(2, 127), (0, (tK T L p)), (9, 0), (9, 0)]) (st' := [(0, 42), (0, (tK T L p))]) (g' := g) rfl ?_
      refine wp_ic_eq rfl (fun c14 => ?_) (fun c14 => ?_)
      · refine wp_n 2 (pc' := 59) (L' := [(2, 127), (0, (tK T L p)), (9, 0), (9, 0)]) (st' := [(0, 5), (2, 127)]) (g' := g) rfl ?_
        refine wp_cv (as := [(2, 127), (0, 5)]) (rest := []) rfl rfl rfl (Nat.le_of_ble_eq_true rfl) rfl (m_settle (l := 5) (by decide) hP) (by decide) (fun r15 h16 => ?_)
        obtain ⟨g59, rfl, hP59, hF59, hj59⟩ := h16
        have hws := wf.stl (l := 5) (by decide) σ hwf
        have hsl := hP59.2.2.2.2.2.2.1.len
        have hso := hP59.2.2.2.2.2.2.2.1
        have hsN := hP59.2.2.2.2.2.2.2.2.1
        refine wp_eq (L' := [(2, 127), (0, (tK T L p)), (9, 0), (9, 0)]) (st' := []) (g' := g59) ?_
        refine wp_n 3 (pc' := 66) (L' := [(2, 127), (0, (tK T L p)), (9, 0), (9, 0)]) (st' := [(0, 42), (0, (tK T L p)), (2, 127)]) (g' := g59) rfl ?_
        refine wp_ic_ne rfl (fun c17 => ?_) (fun c17 => ?_)
        · refine wp_n 1 (pc' := 75) (L' := [(2, 127), (0, (tK T L p)), (9, 0), (9, 0)]) (st' := [(0, 6), (2, 127)]) (g' := g59) rfl ?_
          refine wp_cv (as := [(2, 127), (0, 6)]) (rest := []) rfl rfl rfl (Nat.le_of_ble_eq_true rfl) rfl (m_push (σ := stl 5 σ) (q := 6) hP59.2.1 (by omega)) (by decide) (fun r18 h19 => ?_)
          obtain rfl := h19
          have hPn := (hP59.up (N' := p + 1) (by omega) (by omega)).push (q := 6) (g1 := g59) (fun c j _ => rfl) (by rw [opn_n (by decide)]; exact hP59.2.2.1) (wf_op hwf (by omega)) (by rw [opn_n (by decide)]; exact hso) (by omega)
          refine wp_eq (L' := [(2, 127), (0, (tK T L p)), (9, 0), (9, 0)]) (st' := []) (g' := (am_up (am_up g59 132 (stl 5 σ).length 6) 127 19 (((stl 5 σ).length : Int) + 1))) ?_
          refine wp_n 5 (pc' := 206) (L' := [(2, 127), (0, (tK T L p)), (9, 0), (9, 0)]) (st' := [(2, 127)]) (g' := (am_up (am_up (am_up g59 132 (stl 5 σ).length 6) 127 19 (((stl 5 σ).length : Int) + 1)) 127 21 0)) rfl ?_
          refine wp_cv (as := [(2, 127)]) (rest := []) rfl rfl rfl (Nat.le_of_ble_eq_true rfl) rfl (m_nextTk (T := T) (L := L) (p := p) (hR.z (t := t) (W := W) (((hF59.z.up (by omega)).up (by omega)).up (by omega))) (hT.same fun j h1 h2 => by rw [up_nj (by omega), up_nj (by omega), up_ne (by decide), hF59 127 j (by omega) (by omega) (by omega)]) hp) (by decide) (fun r20 h21 => ?_)
          obtain ⟨g206, rfl, hT206, hF206⟩ := h21
          refine wp_eq (L' := [(2, 127), (0, (tK T L p)), (9, 0), (9, 0)]) (st' := []) (g' := g206) ?_
          refine wp_n 1 (pc' := 210) (L' := [(2, 127), (0, (tK T L p)), (9, 0), (9, 0)]) (st' := [(0, 0)]) (g' := g206) rfl ?_
          exact wp_ret rfl rfl rfl (StM.g (s := (nx T L p, 6 :: stl 5 σ, false, out ++ ste 5 σ)) (by rw [rbe, if_neg (by omega), if_pos (by omega), if_neg (by omega)]) ((((hF59.z.up (by omega)).up (by omega)).up (by omega)).trans hF206.z) ⟨hT206, hn0.2.1, (((hPn.same (fun j hj => up_nj (by omega)) (fun j => up_ne (by decide)) (fun j => up_ne (by decide))).tm hF206).up (by omega) (by omega)), (hF206 127 21 (by omega)).trans up_eq⟩)
        · refine wp_n 2 (pc' := 75) (L' := [(2, 127), (0, (tK T L p)), (9, 0), (9, 0)]) (st' := [(0, 5), (2, 127)]) (g' := g59) rfl ?_
          refine wp_cv (as := [(2, 127), (0, 5)]) (rest := []) rfl rfl rfl (Nat.le_of_ble_eq_true rfl) rfl (m_push (σ := stl 5 σ) (q := 5) hP59.2.1 (by omega)) (by decide) (fun r22 h23 => ?_)
          obtain rfl := h23
          have hPn := (hP59.up (N' := p + 1) (by omega) (by omega)).push (q := 5) (g1 := g59) (fun c j _ => rfl) (by rw [opn_n (by decide)]; exact hP59.2.2.1) (wf_op hwf (by omega)) (by rw [opn_n (by decide)]; exact hso) (by omega)
          refine wp_eq (L' := [(2, 127), (0, (tK T L p)), (9, 0), (9, 0)]) (st' := []) (g' := (am_up (am_up g59 132 (stl 5 σ).length 5) 127 19 (((stl 5 σ).length : Int) + 1))) ?_
          refine wp_n 5 (pc' := 206) (L' := [(2, 127), (0, (tK T L p)), (9, 0), (9, 0)]) (st' := [(2, 127)]) (g' := (am_up (am_up (am_up g59 132 (stl 5 σ).length 5) 127 19 (((stl 5 σ).length : Int) + 1)) 127 21 0)) rfl ?_
          refine wp_cv (as := [(2, 127)]) (rest := []) rfl rfl rfl (Nat.le_of_ble_eq_true rfl) rfl (m_nextTk (T := T) (L := L) (p := p) (hR.z (t := t) (W := W) (((hF59.z.up (by omega)).up (by omega)).up (by omega))) (hT.same fun j h1 h2 => by rw [up_nj (by omega), up_nj (by omega), up_ne (by decide), hF59 127 j (by omega) (by omega) (by omega)]) hp) (by decide) (fun r24 h25 => ?_)
          obtain ⟨g206, rfl, hT206, hF206⟩ := h25
          refine wp_eq (L' := [(2, 127), (0, (tK T L p)), (9, 0), (9, 0)]) (st' := []) (g' := g206) ?_
          refine wp_n 1 (pc' := 210) (L' := [(2, 127), (0, (tK T L p)), (9, 0), (9, 0)]) (st' := [(0, 0)]) (g' := g206) rfl ?_
          exact wp_ret rfl rfl rfl (StM.g (s := (nx T L p, 5 :: stl 5 σ, false, out ++ ste 5 σ)) (by rw [rbe, if_neg (by omega), if_pos (by omega), if_pos (by omega)]) ((((hF59.z.up (by omega)).up (by omega)).up (by omega)).trans hF206.z) ⟨hT206, hn0.2.1, (((hPn.same (fun j hj => up_nj (by omega)) (fun j => up_ne (by decide)) (fun j => up_ne (by decide))).tm hF206).up (by omega) (by omega)), (hF206 127 21 (by omega)).trans up_eq⟩)
      · refine wp_n 2 (pc' := 54) (L' := [(2, 127), (0, (tK T L p)), (9, 0), (9, 0)]) (st' := [(0, 47), (0, (tK T L p))]) (g' := g) rfl ?_
        refine wp_ic_ne rfl (fun c26 => ?_) (fun c26 => ?_)
        · refine wp_n 1 (pc' := 87) (L' := [(2, 127), (0, (tK T L p)), (9, 0), (9, 0)]) (st' := [(2, 127)]) (g' := g) rfl ?_
          refine wp_cv (as := [(2, 127)]) (rest := []) rfl rfl rfl (Nat.le_of_ble_eq_true rfl) rfl (m_latest hP) (by decide) (fun r27 h28 => ?_)
          obtain rfl := h28
          refine wp_eq (L' := [(2, 127), (0, (tK T L p)), (9, 0), (9, 0)]) (st' := [(0, (((lat σ) : Nat) : Int))]) (g' := g) ?_
          refine wp_n 3 (pc' := 94) (L' := [(2, 127), (0, (tK T L p)), (0, (((lat σ) : Nat) : Int)), (9, 0)]) (st' := [(0, 41), (0, (((lat σ) : Nat) : Int))]) (g' := g) rfl ?_
          refine wp_ic_eq rfl (fun c29 => ?_) (fun c29 => ?_)
          · refine wp_n 6 (pc' := 113) (L' := [(2, 127), (0, (tK T L p)), (0, (((lat σ) : Nat) : Int)), (0, 1)]) (st' := [(0, 44), (0, (tK T L p)), (0, 1)]) (g' := g) rfl ?_
            refine wp_ic_ne rfl (fun c30 => ?_) (fun c30 => ?_)
            · refine wp_n 3 (pc' := 125) (L' := [(2, 127), (0, (tK T L p)), (0, (((lat σ) : Nat) : Int)), (0, 1)]) (st' := [(0, 1)]) (g' := g) rfl ?_
              exact wp_ret rfl rfl rfl (StM.f (f := 1) (q := p) (s := (p, σ, true, out)) (by rw [rbe, if_neg (by omega), if_neg (by omega), if_neg (by omega)]) (by decide) rfl FrZ.rfl hT.1)
            · refine wp_n 5 (pc' := 128) (L' := [(2, 127), (0, (tK T L p)), (0, (((lat σ) : Nat) : Int)), (0, 1)]) (st' := [(0, 3), (2, 127)]) (g' := g) rfl ?_
              refine wp_cv (as := [(2, 127), (0, 3)]) (rest := []) rfl rfl rfl (Nat.le_of_ble_eq_true rfl) rfl (m_settle (l := 3) (by decide) hP) (by decide) (fun r31 h32 => ?_)
              obtain ⟨g128, rfl, hP128, hF128, hj128⟩ := h32
              have hws := wf.stl (l := 3) (by decide) σ hwf
              have hsl := hP128.2.2.2.2.2.2.1.len
              have hso := hP128.2.2.2.2.2.2.2.1
              have hsN := hP128.2.2.2.2.2.2.2.2.1
              have hlp : 0 < lat σ := by omega
              obtain ⟨y, τ, hst⟩ : ∃ y τ, stl 3 σ = y :: τ := by
                rcases stl_top (l := 3) σ hwf with q | ⟨y, τ, q, _⟩
                · have := stl_lat σ q; omega
                · exact ⟨y, τ, q⟩
              have hys : y = 2 ∨ (40 ≤ y ∧ y ≤ 44) := by
                rcases stl_top (l := 3) σ hwf with q | ⟨y2, τ2, q, q2⟩
                · rw [q] at hst; cases hst
                · rw [q] at hst
                  cases hst
                  have h8 := hws.1
                  rw [q] at h8
                  have := h8.2.1
                  omega
              have hwt : wf τ := by have h8 := hws.1; rw [hst] at h8; exact h8.1
              have hot : opn τ + 1 = opn σ := by rw [← hws.2, hst, opn_y (by omega)]
              have hlt9 : (stl 3 σ).length = τ.length + 1 := by rw [hst]; rfl
              have hPt : PSt t W (p + 1) τ (out ++ ste 3 σ) (am_up (am_up g128 127 19 (((stl 3 σ).length : Int) - 1)) 127 20 ((opn σ : Int) - 1)) := by
                obtain ⟨a1, a2, a3, a4, a5, a6, a7, a8, a9, a10, a11⟩ := hP128
                rw [hst] at a1
                refine ⟨a1.2.same fun j _ => (up_ne (by decide)).trans (up_ne (by decide)), ?_, ?_, (up_nj (by decide)).trans ((up_nj (by decide)).trans a4), a5.same fun j _ _ => (up_ne (by decide)).trans (up_ne (by decide)), (up_nj (by decide)).trans ((up_nj (by decide)).trans a6), hwt, by omega, by omega, by omega, a11⟩
                · rw [up_nj (by decide), up_eq]; omega
                · rw [up_eq]; omega
              have hPr : lat σ = 41 ∨ lat σ = 42 → PSt t W (p + 1) ((lat σ + 2) :: τ) (out ++ ste 3 σ) (am_up (am_up g128 132 τ.length (((lat σ : Nat) : Int) + 2)) 127 21 0) := fun hl9 => by
                obtain ⟨a1, a2, a3, a4, a5, a6, a7, a8, a9, a10, a11⟩ := hP128
                rw [hst] at a1
                refine ⟨⟨(up_ne (by decide)).trans (up_eq.trans (by omega)), a1.2.same fun j hj => (up_ne (by decide)).trans (up_nj (by omega))⟩, (up_nj (by decide)).trans ((up_ne (by decide)).trans (a2.trans (by rw [hlt9]; rfl))), (up_nj (by decide)).trans ((up_ne (by decide)).trans (a3.trans (by rw [opn_y (by omega), hws.2, ← hot]))), (up_nj (by decide)).trans ((up_ne (by decide)).trans a4), a5.same fun j _ _ => (up_ne (by decide)).trans (up_ne (by decide)), (up_nj (by decide)).trans ((up_ne (by decide)).trans a6), hwt.opener (by omega), by rw [opn_y (by omega)]; omega, by show W + _ + (τ.length + 1) ≤ p + 1; omega, by omega, a11⟩
              refine wp_eq (L' := [(2, 127), (0, (tK T L p)), (0, (((lat σ) : Nat) : Int)), (0, 1)]) (st' := []) (g' := g128) ?_
              refine wp_n 6 (pc' := 143) (L' := [(2, 127), (0, (tK T L p)), (0, (((lat σ) : Nat) : Int)), (0, 1)]) (st' := [(0, (g128 127 19)), (2, 132)]) (g' := g128) rfl ?_
              refine wp_eq (L' := [(2, 127), (0, (tK T L p)), (0, (((lat σ) : Nat) : Int)), (0, 1)]) (st' := [(0, (((stl 3 σ).length : Nat) : Int)), (2, 132)]) (g' := g128) ?_ (by rfl) (by rw [hP128.2.1]) (by rfl)
              refine wp_n 5 (pc' := 148) (L' := [(2, 127), (0, (tK T L p)), (0, (((lat σ) : Nat) : Int)), (0, 1)]) (st' := [(0, ((((lat σ) : Nat) : Int) + 2)), (0, ((((stl 3 σ).length : Nat) : Int) - 1)), (2, 132)]) (g' := g128) rfl ?_
              refine wp_iast (k := 132) (τ.length) rfl rfl (by omega) (by omega) (by decide) ?_
              refine wp_n 5 (pc' := 206) (L' := [(2, 127), (0, (tK T L p)), (0, (((lat σ) : Nat) : Int)), (0, 1)]) (st' := [(2, 127)]) (g' := (am_up (am_up g128 132 (τ.length) ((((lat σ) : Nat) : Int) + 2)) 127 21 0)) rfl ?_
              refine wp_cv (as := [(2, 127)]) (rest := []) rfl rfl rfl (Nat.le_of_ble_eq_true rfl) rfl (m_nextTk (T := T) (L := L) (p := p) (hR.z (t := t) (W := W) ((hF128.z.up (by omega)).up (by omega))) (hT.same fun j h1 h2 => by rw [up_nj (by omega), up_ne (by decide), hF128 127 j (by omega) (by omega) (by omega)]) hp) (by decide) (fun r33 h34 => ?_)
              obtain ⟨g206, rfl, hT206, hF206⟩ := h34
              refine wp_eq (L' := [(2, 127), (0, (tK T L p)), (0, (((lat σ) : Nat) : Int)), (0, 1)]) (st' := []) (g' := g206) ?_
              refine wp_n 1 (pc' := 210) (L' := [(2, 127), (0, (tK T L p)), (0, (((lat σ) : Nat) : Int)), (0, 1)]) (st' := [(0, 0)]) (g' := g206) rfl ?_
              exact wp_ret rfl rfl rfl (StM.g (s := (nx T L p, (lat σ + 2) :: τ, false, out ++ ste 3 σ)) (by rw [rbe, if_neg (by omega), if_neg (by omega), if_pos (by omega), if_pos (by omega), hst]; rfl) (((hF128.z.up (by omega)).up (by omega)).trans hF206.z) ⟨hT206, hn0.2.1, ((hPr (by omega)).tm hF206).up (by omega) (by omega), (hF206 127 21 (by omega)).trans up_eq⟩)
          · refine wp_n 2 (pc' := 100) (L' := [(2, 127), (0, (tK T L p)), (0, (((lat σ) : Nat) : Int)), (9, 0)]) (st' := [(0, 42), (0, (((lat σ) : Nat) : Int))]) (g' := g) rfl ?_
            refine wp_ic_ne rfl (fun c35 => ?_) (fun c35 => ?_)
            · refine wp_n 5 (pc' := 113) (L' := [(2, 127), (0, (tK T L p)), (0, (((lat σ) : Nat) : Int)), (0, 0)]) (st' := [(0, 44), (0, (tK T L p)), (0, 0)]) (g' := g) rfl ?_
              refine wp_ic_ne rfl (fun c36 => ?_) (fun c36 => ?_)
              · refine wp_n 4 (pc' := 128) (L' := [(2, 127), (0, (tK T L p)), (0, (((lat σ) : Nat) : Int)), (0, 0)]) (st' := [(0, 3), (2, 127)]) (g' := g) rfl ?_
                refine wp_cv (as := [(2, 127), (0, 3)]) (rest := []) rfl rfl rfl (Nat.le_of_ble_eq_true rfl) rfl (m_settle (l := 3) (by decide) hP) (by decide) (fun r37 h38 => ?_)
                obtain ⟨g128, rfl, hP128, hF128, hj128⟩ := h38
                have hws := wf.stl (l := 3) (by decide) σ hwf
                have hsl := hP128.2.2.2.2.2.2.1.len
                have hso := hP128.2.2.2.2.2.2.2.1
                have hsN := hP128.2.2.2.2.2.2.2.2.1
                have hlp : 0 < lat σ := by omega
                obtain ⟨y, τ, hst⟩ : ∃ y τ, stl 3 σ = y :: τ := by
                  rcases stl_top (l := 3) σ hwf with q | ⟨y, τ, q, _⟩
                  · have := stl_lat σ q; omega
                  · exact ⟨y, τ, q⟩
                have hys : y = 2 ∨ (40 ≤ y ∧ y ≤ 44) := by
                  rcases stl_top (l := 3) σ hwf with q | ⟨y2, τ2, q, q2⟩
                  · rw [q] at hst; cases hst
                  · rw [q] at hst
                    cases hst
                    have h8 := hws.1
                    rw [q] at h8
                    have := h8.2.1
                    omega
                have hwt : wf τ := by have h8 := hws.1; rw [hst] at h8; exact h8.1
                have hot : opn τ + 1 = opn σ := by rw [← hws.2, hst, opn_y (by omega)]
                have hlt9 : (stl 3 σ).length = τ.length + 1 := by rw [hst]; rfl
                have hPt : PSt t W (p + 1) τ (out ++ ste 3 σ) (am_up (am_up g128 127 19 (((stl 3 σ).length : Int) - 1)) 127 20 ((opn σ : Int) - 1)) := by
                  obtain ⟨a1, a2, a3, a4, a5, a6, a7, a8, a9, a10, a11⟩ := hP128
                  rw [hst] at a1
                  refine ⟨a1.2.same fun j _ => (up_ne (by decide)).trans (up_ne (by decide)), ?_, ?_, (up_nj (by decide)).trans ((up_nj (by decide)).trans a4), a5.same fun j _ _ => (up_ne (by decide)).trans (up_ne (by decide)), (up_nj (by decide)).trans ((up_nj (by decide)).trans a6), hwt, by omega, by omega, by omega, a11⟩
                  · rw [up_nj (by decide), up_eq]; omega
                  · rw [up_eq]; omega
                have hPr : lat σ = 41 ∨ lat σ = 42 → PSt t W (p + 1) ((lat σ + 2) :: τ) (out ++ ste 3 σ) (am_up (am_up g128 132 τ.length (((lat σ : Nat) : Int) + 2)) 127 21 0) := fun hl9 => by
                  obtain ⟨a1, a2, a3, a4, a5, a6, a7, a8, a9, a10, a11⟩ := hP128
                  rw [hst] at a1
                  refine ⟨⟨(up_ne (by decide)).trans (up_eq.trans (by omega)), a1.2.same fun j hj => (up_ne (by decide)).trans (up_nj (by omega))⟩, (up_nj (by decide)).trans ((up_ne (by decide)).trans (a2.trans (by rw [hlt9]; rfl))), (up_nj (by decide)).trans ((up_ne (by decide)).trans (a3.trans (by rw [opn_y (by omega), hws.2, ← hot]))), (up_nj (by decide)).trans ((up_ne (by decide)).trans a4), a5.same fun j _ _ => (up_ne (by decide)).trans (up_ne (by decide)), (up_nj (by decide)).trans ((up_ne (by decide)).trans a6), hwt.opener (by omega), by rw [opn_y (by omega)]; omega, by show W + _ + (τ.length + 1) ≤ p + 1; omega, by omega, a11⟩
                refine wp_eq (L' := [(2, 127), (0, (tK T L p)), (0, (((lat σ) : Nat) : Int)), (0, 0)]) (st' := []) (g' := g128) ?_
                refine wp_n 5 (pc' := 162) (L' := [(2, 127), (0, (tK T L p)), (0, (((lat σ) : Nat) : Int)), (0, 0)]) (st' := [(0, (g128 127 19)), (2, 127)]) (g' := g128) rfl ?_
                refine wp_eq (L' := [(2, 127), (0, (tK T L p)), (0, (((lat σ) : Nat) : Int)), (0, 0)]) (st' := [(0, (((stl 3 σ).length : Nat) : Int)), (2, 127)]) (g' := g128) ?_ (by rfl) (by rw [hP128.2.1]) (by rfl)
                refine wp_n 6 (pc' := 172) (L' := [(2, 127), (0, (tK T L p)), (0, (((lat σ) : Nat) : Int)), (0, 0)]) (st' := [(0, (g128 127 20)), (2, 127)]) (g' := (am_up g128 127 19 ((((stl 3 σ).length : Nat) : Int) - 1))) rfl ?_
                refine wp_eq (L' := [(2, 127), (0, (tK T L p)), (0, (((lat σ) : Nat) : Int)), (0, 0)]) (st' := [(0, (((opn σ) : Nat) : Int)), (2, 127)]) (g' := (am_up g128 127 19 ((((stl 3 σ).length : Nat) : Int) - 1))) ?_ (by rfl) (by first | rw [hj128 20 (by decide) (by decide), hop] | rw [up_nj (by decide), hj128 20 (by decide) (by decide), hop]) (by rfl)
                refine wp_n 5 (pc' := 180) (L' := [(2, 127), (0, (tK T L p)), (0, (((lat σ) : Nat) : Int)), (0, 0)]) (st' := [(0, 40), (0, (((lat σ) : Nat) : Int))]) (g' := (am_up (am_up g128 127 19 ((((stl 3 σ).length : Nat) : Int) - 1)) 127 20 ((((opn σ) : Nat) : Int) - 1))) rfl ?_
                refine wp_ic_eq rfl (fun c39 => ?_) (fun c39 => ?_)
                · refine wp_n 1 (pc' := 202) (L' := [(2, 127), (0, (tK T L p)), (0, (((lat σ) : Nat) : Int)), (0, 0)]) (st' := [(2, 127)]) (g' := (am_up (am_up g128 127 19 ((((stl 3 σ).length : Nat) : Int) - 1)) 127 20 ((((opn σ) : Nat) : Int) - 1))) rfl ?_
                  refine wp_cv (as := [(2, 127)]) (rest := []) rfl rfl rfl (Nat.le_of_ble_eq_true rfl) rfl (m_whole hPt) (by decide) (fun r40 h41 => ?_)
                  obtain ⟨g202, rfl, hP202, hF202, hw202⟩ := h41
                  refine wp_eq (L' := [(2, 127), (0, (tK T L p)), (0, (((lat σ) : Nat) : Int)), (0, 0)]) (st' := []) (g' := g202) ?_
                  refine wp_n 1 (pc' := 206) (L' := [(2, 127), (0, (tK T L p)), (0, (((lat σ) : Nat) : Int)), (0, 0)]) (st' := [(2, 127)]) (g' := g202) rfl ?_
                  refine wp_cv (as := [(2, 127)]) (rest := []) rfl rfl rfl (Nat.le_of_ble_eq_true rfl) rfl (m_nextTk (T := T) (L := L) (p := p) (hR.z (t := t) (W := W) (((hF128.z.up (k := 127) (i := 19) (x := (((stl 3 σ).length : Int) - 1)) (by omega)).up (k := 127) (i := 20) (x := ((opn σ : Int) - 1)) (by omega)).trans hF202.z)) (hT.same fun j h1 h2 => by rw [hF202 127 j (by omega) (by omega) (by omega), up_nj (by omega), up_nj (by omega), hF128 127 j (by omega) (by omega) (by omega)]) hp) (by decide) (fun r42 h43 => ?_)
                  obtain ⟨g206, rfl, hT206, hF206⟩ := h43
                  refine wp_eq (L' := [(2, 127), (0, (tK T L p)), (0, (((lat σ) : Nat) : Int)), (0, 0)]) (st' := []) (g' := g206) ?_
                  refine wp_n 1 (pc' := 210) (L' := [(2, 127), (0, (tK T L p)), (0, (((lat σ) : Nat) : Int)), (0, 0)]) (st' := [(0, 0)]) (g' := g206) rfl ?_
                  exact wp_ret rfl rfl rfl (StM.g (s := (nx T L p, srp τ, true, out ++ ste 3 σ ++ [] ++ ngs τ)) (by rw [rbe, if_neg (by omega), if_neg (by omega), if_pos (by omega), if_neg (by omega), hst]; first | rw [if_pos (by omega)]; rfl | (rw [if_neg (by omega), if_pos (by omega)]; rfl) | (rw [if_neg (by omega), if_neg (by omega)]; rfl)) ((((hF128.z.up (k := 127) (i := 19) (x := (((stl 3 σ).length : Int) - 1)) (by omega)).up (k := 127) (i := 20) (x := ((opn σ : Int) - 1)) (by omega)).trans hF202.z).trans hF206.z) ⟨hT206, hn0.2.1, PSt.up (N := p + 1) (by have h9 := hP202.tm hF206; rw [← List.append_nil (out ++ ste 3 σ)] at h9; exact h9) (by omega) (by omega), (hF206 127 21 (by omega)).trans hw202⟩)
                · refine wp_n 3 (pc' := 187) (L' := [(2, 127), (0, (tK T L p)), (0, (((lat σ) : Nat) : Int)), (0, 0)]) (st' := [(0, 43), (0, (((lat σ) : Nat) : Int)), (2, 127)]) (g' := (am_up (am_up g128 127 19 ((((stl 3 σ).length : Nat) : Int) - 1)) 127 20 ((((opn σ) : Nat) : Int) - 1))) rfl ?_
                  refine wp_ic_ne rfl (fun c44 => ?_) (fun c44 => ?_)
                  · refine wp_n 2 (pc' := 198) (L' := [(2, 127), (0, (tK T L p)), (0, (((lat σ) : Nat) : Int)), (0, 0)]) (st' := [(0, 0), (0, 8), (2, 127)]) (g' := (am_up (am_up g128 127 19 ((((stl 3 σ).length : Nat) : Int) - 1)) 127 20 ((((opn σ) : Nat) : Int) - 1))) rfl ?_
                    refine wp_cv (as := [(2, 127), (0, 8), (0, 0)]) (rest := []) rfl rfl rfl (Nat.le_of_ble_eq_true rfl) rfl (m_emit (x := 20005) (o := 8) (v := 0) hPt (by omega) (Or.inr (Or.inr (Or.inr ⟨by decide, by decide, by decide⟩)))) (by decide) (fun r45 h46 => ?_)
                    obtain ⟨g198, rfl, hP198, hF198, hj198⟩ := h46
                    refine wp_eq (L' := [(2, 127), (0, (tK T L p)), (0, (((lat σ) : Nat) : Int)), (0, 0)]) (st' := []) (g' := g198) ?_
                    refine wp_n 1 (pc' := 202) (L' := [(2, 127), (0, (tK T L p)), (0, (((lat σ) : Nat) : Int)), (0, 0)]) (st' := [(2, 127)]) (g' := g198) rfl ?_
                    refine wp_cv (as := [(2, 127)]) (rest := []) rfl rfl rfl (Nat.le_of_ble_eq_true rfl) rfl (m_whole hP198) (by decide) (fun r47 h48 => ?_)
                    obtain ⟨g202, rfl, hP202, hF202, hw202⟩ := h48
                    refine wp_eq (L' := [(2, 127), (0, (tK T L p)), (0, (((lat σ) : Nat) : Int)), (0, 0)]) (st' := []) (g' := g202) ?_
                    refine wp_n 1 (pc' := 206) (L' := [(2, 127), (0, (tK T L p)), (0, (((lat σ) : Nat) : Int)), (0, 0)]) (st' := [(2, 127)]) (g' := g202) rfl ?_
                    refine wp_cv (as := [(2, 127)]) (rest := []) rfl rfl rfl (Nat.le_of_ble_eq_true rfl) rfl (m_nextTk (T := T) (L := L) (p := p) (hR.z (t := t) (W := W) ((((hF128.z.up (k := 127) (i := 19) (x := (((stl 3 σ).length : Int) - 1)) (by omega)).up (k := 127) (i := 20) (x := ((opn σ : Int) - 1)) (by omega)).trans hF198.z).trans hF202.z)) (hT.same fun j h1 h2 => by rw [hF202 127 j (by omega) (by omega) (by omega), hF198 127 j (by omega) (by omega) (by omega), up_nj (by omega), up_nj (by omega), hF128 127 j (by omega) (by omega) (by omega)]) hp) (by decide) (fun r49 h50 => ?_)
                    obtain ⟨g206, rfl, hT206, hF206⟩ := h50
                    refine wp_eq (L' := [(2, 127), (0, (tK T L p)), (0, (((lat σ) : Nat) : Int)), (0, 0)]) (st' := []) (g' := g206) ?_
                    refine wp_n 1 (pc' := 210) (L' := [(2, 127), (0, (tK T L p)), (0, (((lat σ) : Nat) : Int)), (0, 0)]) (st' := [(0, 0)]) (g' := g206) rfl ?_
                    exact wp_ret rfl rfl rfl (StM.g (s := (nx T L p, srp τ, true, out ++ ste 3 σ ++ [20005] ++ ngs τ)) (by rw [rbe, if_neg (by omega), if_neg (by omega), if_pos (by omega), if_neg (by omega), hst]; first | rw [if_pos (by omega)]; rfl | (rw [if_neg (by omega), if_pos (by omega)]; rfl) | (rw [if_neg (by omega), if_neg (by omega)]; rfl)) (((((hF128.z.up (k := 127) (i := 19) (x := (((stl 3 σ).length : Int) - 1)) (by omega)).up (k := 127) (i := 20) (x := ((opn σ : Int) - 1)) (by omega)).trans hF198.z).trans hF202.z).trans hF206.z) ⟨hT206, hn0.2.1, PSt.up (N := p + 1) (by have h9 := hP202.tm hF206; exact h9) (by omega) (by omega), (hF206 127 21 (by omega)).trans hw202⟩)
                  · refine wp_n 3 (pc' := 198) (L' := [(2, 127), (0, (tK T L p)), (0, (((lat σ) : Nat) : Int)), (0, 0)]) (st' := [(0, 0), (0, 7), (2, 127)]) (g' := (am_up (am_up g128 127 19 ((((stl 3 σ).length : Nat) : Int) - 1)) 127 20 ((((opn σ) : Nat) : Int) - 1))) rfl ?_
                    refine wp_cv (as := [(2, 127), (0, 7), (0, 0)]) (rest := []) rfl rfl rfl (Nat.le_of_ble_eq_true rfl) rfl (m_emit (x := 20004) (o := 7) (v := 0) hPt (by omega) (Or.inr (Or.inr (Or.inr ⟨by decide, by decide, by decide⟩)))) (by decide) (fun r51 h52 => ?_)
                    obtain ⟨g198, rfl, hP198, hF198, hj198⟩ := h52
                    refine wp_eq (L' := [(2, 127), (0, (tK T L p)), (0, (((lat σ) : Nat) : Int)), (0, 0)]) (st' := []) (g' := g198) ?_
                    refine wp_n 1 (pc' := 202) (L' := [(2, 127), (0, (tK T L p)), (0, (((lat σ) : Nat) : Int)), (0, 0)]) (st' := [(2, 127)]) (g' := g198) rfl ?_
                    refine wp_cv (as := [(2, 127)]) (rest := []) rfl rfl rfl (Nat.le_of_ble_eq_true rfl) rfl (m_whole hP198) (by decide) (fun r53 h54 => ?_)
                    obtain ⟨g202, rfl, hP202, hF202, hw202⟩ := h54
                    refine wp_eq (L' := [(2, 127), (0, (tK T L p)), (0, (((lat σ) : Nat) : Int)), (0, 0)]) (st' := []) (g' := g202) ?_
                    refine wp_n 1 (pc' := 206) (L' := [(2, 127), (0, (tK T L p)), (0, (((lat σ) : Nat) : Int)), (0, 0)]) (st' := [(2, 127)]) (g' := g202) rfl ?_
                    refine wp_cv (as := [(2, 127)]) (rest := []) rfl rfl rfl (Nat.le_of_ble_eq_true rfl) rfl (m_nextTk (T := T) (L := L) (p := p) (hR.z (t := t) (W := W) ((((hF128.z.up (k := 127) (i := 19) (x := (((stl 3 σ).length : Int) - 1)) (by omega)).up (k := 127) (i := 20) (x := ((opn σ : Int) - 1)) (by omega)).trans hF198.z).trans hF202.z)) (hT.same fun j h1 h2 => by rw [hF202 127 j (by omega) (by omega) (by omega), hF198 127 j (by omega) (by omega) (by omega), up_nj (by omega), up_nj (by omega), hF128 127 j (by omega) (by omega) (by omega)]) hp) (by decide) (fun r55 h56 => ?_)
                    obtain ⟨g206, rfl, hT206, hF206⟩ := h56
                    refine wp_eq (L' := [(2, 127), (0, (tK T L p)), (0, (((lat σ) : Nat) : Int)), (0, 0)]) (st' := []) (g' := g206) ?_
                    refine wp_n 1 (pc' := 210) (L' := [(2, 127), (0, (tK T L p)), (0, (((lat σ) : Nat) : Int)), (0, 0)]) (st' := [(0, 0)]) (g' := g206) rfl ?_
                    exact wp_ret rfl rfl rfl (StM.g (s := (nx T L p, srp τ, true, out ++ ste 3 σ ++ [20004] ++ ngs τ)) (by rw [rbe, if_neg (by omega), if_neg (by omega), if_pos (by omega), if_neg (by omega), hst]; first | rw [if_pos (by omega)]; rfl | (rw [if_neg (by omega), if_pos (by omega)]; rfl) | (rw [if_neg (by omega), if_neg (by omega)]; rfl)) (((((hF128.z.up (k := 127) (i := 19) (x := (((stl 3 σ).length : Int) - 1)) (by omega)).up (k := 127) (i := 20) (x := ((opn σ : Int) - 1)) (by omega)).trans hF198.z).trans hF202.z).trans hF206.z) ⟨hT206, hn0.2.1, PSt.up (N := p + 1) (by have h9 := hP202.tm hF206; exact h9) (by omega) (by omega), (hF206 127 21 (by omega)).trans hw202⟩)
              · refine wp_n 4 (pc' := 125) (L' := [(2, 127), (0, (tK T L p)), (0, (((lat σ) : Nat) : Int)), (0, 0)]) (st' := [(0, 1)]) (g' := g) rfl ?_
                exact wp_ret rfl rfl rfl (StM.f (f := 1) (q := p) (s := (p, σ, true, out)) (by rw [rbe, if_neg (by omega), if_neg (by omega), if_neg (by omega)]) (by decide) rfl FrZ.rfl hT.1)
            · refine wp_n 6 (pc' := 113) (L' := [(2, 127), (0, (tK T L p)), (0, (((lat σ) : Nat) : Int)), (0, 1)]) (st' := [(0, 44), (0, (tK T L p)), (0, 1)]) (g' := g) rfl ?_
              refine wp_ic_ne rfl (fun c57 => ?_) (fun c57 => ?_)
              · refine wp_n 3 (pc' := 125) (L' := [(2, 127), (0, (tK T L p)), (0, (((lat σ) : Nat) : Int)), (0, 1)]) (st' := [(0, 1)]) (g' := g) rfl ?_
                exact wp_ret rfl rfl rfl (StM.f (f := 1) (q := p) (s := (p, σ, true, out)) (by rw [rbe, if_neg (by omega), if_neg (by omega), if_neg (by omega)]) (by decide) rfl FrZ.rfl hT.1)
              · refine wp_n 5 (pc' := 128) (L' := [(2, 127), (0, (tK T L p)), (0, (((lat σ) : Nat) : Int)), (0, 1)]) (st' := [(0, 3), (2, 127)]) (g' := g) rfl ?_
                refine wp_cv (as := [(2, 127), (0, 3)]) (rest := []) rfl rfl rfl (Nat.le_of_ble_eq_true rfl) rfl (m_settle (l := 3) (by decide) hP) (by decide) (fun r58 h59 => ?_)
                obtain ⟨g128, rfl, hP128, hF128, hj128⟩ := h59
                have hws := wf.stl (l := 3) (by decide) σ hwf
                have hsl := hP128.2.2.2.2.2.2.1.len
                have hso := hP128.2.2.2.2.2.2.2.1
                have hsN := hP128.2.2.2.2.2.2.2.2.1
                have hlp : 0 < lat σ := by omega
                obtain ⟨y, τ, hst⟩ : ∃ y τ, stl 3 σ = y :: τ := by
                  rcases stl_top (l := 3) σ hwf with q | ⟨y, τ, q, _⟩
                  · have := stl_lat σ q; omega
                  · exact ⟨y, τ, q⟩
                have hys : y = 2 ∨ (40 ≤ y ∧ y ≤ 44) := by
                  rcases stl_top (l := 3) σ hwf with q | ⟨y2, τ2, q, q2⟩
                  · rw [q] at hst; cases hst
                  · rw [q] at hst
                    cases hst
                    have h8 := hws.1
                    rw [q] at h8
                    have := h8.2.1
                    omega
                have hwt : wf τ := by have h8 := hws.1; rw [hst] at h8; exact h8.1
                have hot : opn τ + 1 = opn σ := by rw [← hws.2, hst, opn_y (by omega)]
                have hlt9 : (stl 3 σ).length = τ.length + 1 := by rw [hst]; rfl
                have hPt : PSt t W (p + 1) τ (out ++ ste 3 σ) (am_up (am_up g128 127 19 (((stl 3 σ).length : Int) - 1)) 127 20 ((opn σ : Int) - 1)) := by
                  obtain ⟨a1, a2, a3, a4, a5, a6, a7, a8, a9, a10, a11⟩ := hP128
                  rw [hst] at a1
                  refine ⟨a1.2.same fun j _ => (up_ne (by decide)).trans (up_ne (by decide)), ?_, ?_, (up_nj (by decide)).trans ((up_nj (by decide)).trans a4), a5.same fun j _ _ => (up_ne (by decide)).trans (up_ne (by decide)), (up_nj (by decide)).trans ((up_nj (by decide)).trans a6), hwt, by omega, by omega, by omega, a11⟩
                  · rw [up_nj (by decide), up_eq]; omega
                  · rw [up_eq]; omega
                have hPr : lat σ = 41 ∨ lat σ = 42 → PSt t W (p + 1) ((lat σ + 2) :: τ) (out ++ ste 3 σ) (am_up (am_up g128 132 τ.length (((lat σ : Nat) : Int) + 2)) 127 21 0) := fun hl9 => by
                  obtain ⟨a1, a2, a3, a4, a5, a6, a7, a8, a9, a10, a11⟩ := hP128
                  rw [hst] at a1
                  refine ⟨⟨(up_ne (by decide)).trans (up_eq.trans (by omega)), a1.2.same fun j hj => (up_ne (by decide)).trans (up_nj (by omega))⟩, (up_nj (by decide)).trans ((up_ne (by decide)).trans (a2.trans (by rw [hlt9]; rfl))), (up_nj (by decide)).trans ((up_ne (by decide)).trans (a3.trans (by rw [opn_y (by omega), hws.2, ← hot]))), (up_nj (by decide)).trans ((up_ne (by decide)).trans a4), a5.same fun j _ _ => (up_ne (by decide)).trans (up_ne (by decide)), (up_nj (by decide)).trans ((up_ne (by decide)).trans a6), hwt.opener (by omega), by rw [opn_y (by omega)]; omega, by show W + _ + (τ.length + 1) ≤ p + 1; omega, by omega, a11⟩
                refine wp_eq (L' := [(2, 127), (0, (tK T L p)), (0, (((lat σ) : Nat) : Int)), (0, 1)]) (st' := []) (g' := g128) ?_
                refine wp_n 6 (pc' := 143) (L' := [(2, 127), (0, (tK T L p)), (0, (((lat σ) : Nat) : Int)), (0, 1)]) (st' := [(0, (g128 127 19)), (2, 132)]) (g' := g128) rfl ?_
                refine wp_eq (L' := [(2, 127), (0, (tK T L p)), (0, (((lat σ) : Nat) : Int)), (0, 1)]) (st' := [(0, (((stl 3 σ).length : Nat) : Int)), (2, 132)]) (g' := g128) ?_ (by rfl) (by rw [hP128.2.1]) (by rfl)
                refine wp_n 5 (pc' := 148) (L' := [(2, 127), (0, (tK T L p)), (0, (((lat σ) : Nat) : Int)), (0, 1)]) (st' := [(0, ((((lat σ) : Nat) : Int) + 2)), (0, ((((stl 3 σ).length : Nat) : Int) - 1)), (2, 132)]) (g' := g128) rfl ?_
                refine wp_iast (k := 132) (τ.length) rfl rfl (by omega) (by omega) (by decide) ?_
                refine wp_n 5 (pc' := 206) (L' := [(2, 127), (0, (tK T L p)), (0, (((lat σ) : Nat) : Int)), (0, 1)]) (st' := [(2, 127)]) (g' := (am_up (am_up g128 132 (τ.length) ((((lat σ) : Nat) : Int) + 2)) 127 21 0)) rfl ?_
                refine wp_cv (as := [(2, 127)]) (rest := []) rfl rfl rfl (Nat.le_of_ble_eq_true rfl) rfl (m_nextTk (T := T) (L := L) (p := p) (hR.z (t := t) (W := W) ((hF128.z.up (by omega)).up (by omega))) (hT.same fun j h1 h2 => by rw [up_nj (by omega), up_ne (by decide), hF128 127 j (by omega) (by omega) (by omega)]) hp) (by decide) (fun r60 h61 => ?_)
                obtain ⟨g206, rfl, hT206, hF206⟩ := h61
                refine wp_eq (L' := [(2, 127), (0, (tK T L p)), (0, (((lat σ) : Nat) : Int)), (0, 1)]) (st' := []) (g' := g206) ?_
                refine wp_n 1 (pc' := 210) (L' := [(2, 127), (0, (tK T L p)), (0, (((lat σ) : Nat) : Int)), (0, 1)]) (st' := [(0, 0)]) (g' := g206) rfl ?_
                exact wp_ret rfl rfl rfl (StM.g (s := (nx T L p, (lat σ + 2) :: τ, false, out ++ ste 3 σ)) (by rw [rbe, if_neg (by omega), if_neg (by omega), if_pos (by omega), if_pos (by omega), hst]; rfl) (((hF128.z.up (by omega)).up (by omega)).trans hF206.z) ⟨hT206, hn0.2.1, ((hPr (by omega)).tm hF206).up (by omega) (by omega), (hF206 127 21 (by omega)).trans up_eq⟩)
        · refine wp_n 2 (pc' := 59) (L' := [(2, 127), (0, (tK T L p)), (9, 0), (9, 0)]) (st' := [(0, 5), (2, 127)]) (g' := g) rfl ?_
          refine wp_cv (as := [(2, 127), (0, 5)]) (rest := []) rfl rfl rfl (Nat.le_of_ble_eq_true rfl) rfl (m_settle (l := 5) (by decide) hP) (by decide) (fun r62 h63 => ?_)
          obtain ⟨g59, rfl, hP59, hF59, hj59⟩ := h63
          have hws := wf.stl (l := 5) (by decide) σ hwf
          have hsl := hP59.2.2.2.2.2.2.1.len
          have hso := hP59.2.2.2.2.2.2.2.1
          have hsN := hP59.2.2.2.2.2.2.2.2.1
          refine wp_eq (L' := [(2, 127), (0, (tK T L p)), (9, 0), (9, 0)]) (st' := []) (g' := g59) ?_
          refine wp_n 3 (pc' := 66) (L' := [(2, 127), (0, (tK T L p)), (9, 0), (9, 0)]) (st' := [(0, 42), (0, (tK T L p)), (2, 127)]) (g' := g59) rfl ?_
          refine wp_ic_ne rfl (fun c64 => ?_) (fun c64 => ?_)
          · refine wp_n 1 (pc' := 75) (L' := [(2, 127), (0, (tK T L p)), (9, 0), (9, 0)]) (st' := [(0, 6), (2, 127)]) (g' := g59) rfl ?_
            refine wp_cv (as := [(2, 127), (0, 6)]) (rest := []) rfl rfl rfl (Nat.le_of_ble_eq_true rfl) rfl (m_push (σ := stl 5 σ) (q := 6) hP59.2.1 (by omega)) (by decide) (fun r65 h66 => ?_)
            obtain rfl := h66
            have hPn := (hP59.up (N' := p + 1) (by omega) (by omega)).push (q := 6) (g1 := g59) (fun c j _ => rfl) (by rw [opn_n (by decide)]; exact hP59.2.2.1) (wf_op hwf (by omega)) (by rw [opn_n (by decide)]; exact hso) (by omega)
            refine wp_eq (L' := [(2, 127), (0, (tK T L p)), (9, 0), (9, 0)]) (st' := []) (g' := (am_up (am_up g59 132 (stl 5 σ).length 6) 127 19 (((stl 5 σ).length : Int) + 1))) ?_
            refine wp_n 5 (pc' := 206) (L' := [(2, 127), (0, (tK T L p)), (9, 0), (9, 0)]) (st' := [(2, 127)]) (g' := (am_up (am_up (am_up g59 132 (stl 5 σ).length 6) 127 19 (((stl 5 σ).length : Int) + 1)) 127 21 0)) rfl ?_
            refine wp_cv (as := [(2, 127)]) (rest := []) rfl rfl rfl (Nat.le_of_ble_eq_true rfl) rfl (m_nextTk (T := T) (L := L) (p := p) (hR.z (t := t) (W := W) (((hF59.z.up (by omega)).up (by omega)).up (by omega))) (hT.same fun j h1 h2 => by rw [up_nj (by omega), up_nj (by omega), up_ne (by decide), hF59 127 j (by omega) (by omega) (by omega)]) hp) (by decide) (fun r67 h68 => ?_)
            obtain ⟨g206, rfl, hT206, hF206⟩ := h68
            refine wp_eq (L' := [(2, 127), (0, (tK T L p)), (9, 0), (9, 0)]) (st' := []) (g' := g206) ?_
            refine wp_n 1 (pc' := 210) (L' := [(2, 127), (0, (tK T L p)), (9, 0), (9, 0)]) (st' := [(0, 0)]) (g' := g206) rfl ?_
            exact wp_ret rfl rfl rfl (StM.g (s := (nx T L p, 6 :: stl 5 σ, false, out ++ ste 5 σ)) (by rw [rbe, if_neg (by omega), if_pos (by omega), if_neg (by omega)]) ((((hF59.z.up (by omega)).up (by omega)).up (by omega)).trans hF206.z) ⟨hT206, hn0.2.1, (((hPn.same (fun j hj => up_nj (by omega)) (fun j => up_ne (by decide)) (fun j => up_ne (by decide))).tm hF206).up (by omega) (by omega)), (hF206 127 21 (by omega)).trans up_eq⟩)
          · refine wp_n 2 (pc' := 75) (L' := [(2, 127), (0, (tK T L p)), (9, 0), (9, 0)]) (st' := [(0, 5), (2, 127)]) (g' := g59) rfl ?_
            refine wp_cv (as := [(2, 127), (0, 5)]) (rest := []) rfl rfl rfl (Nat.le_of_ble_eq_true rfl) rfl (m_push (σ := stl 5 σ) (q := 5) hP59.2.1 (by omega)) (by decide) (fun r69 h70 => ?_)
            obtain rfl := h70
            have hPn := (hP59.up (N' := p + 1) (by omega) (by omega)).push (q := 5) (g1 := g59) (fun c j _ => rfl) (by rw [opn_n (by decide)]; exact hP59.2.2.1) (wf_op hwf (by omega)) (by rw [opn_n (by decide)]; exact hso) (by omega)
            refine wp_eq (L' := [(2, 127), (0, (tK T L p)), (9, 0), (9, 0)]) (st' := []) (g' := (am_up (am_up g59 132 (stl 5 σ).length 5) 127 19 (((stl 5 σ).length : Int) + 1))) ?_
            refine wp_n 5 (pc' := 206) (L' := [(2, 127), (0, (tK T L p)), (9, 0), (9, 0)]) (st' := [(2, 127)]) (g' := (am_up (am_up (am_up g59 132 (stl 5 σ).length 5) 127 19 (((stl 5 σ).length : Int) + 1)) 127 21 0)) rfl ?_
            refine wp_cv (as := [(2, 127)]) (rest := []) rfl rfl rfl (Nat.le_of_ble_eq_true rfl) rfl (m_nextTk (T := T) (L := L) (p := p) (hR.z (t := t) (W := W) (((hF59.z.up (by omega)).up (by omega)).up (by omega))) (hT.same fun j h1 h2 => by rw [up_nj (by omega), up_nj (by omega), up_ne (by decide), hF59 127 j (by omega) (by omega) (by omega)]) hp) (by decide) (fun r71 h72 => ?_)
            obtain ⟨g206, rfl, hT206, hF206⟩ := h72
            refine wp_eq (L' := [(2, 127), (0, (tK T L p)), (9, 0), (9, 0)]) (st' := []) (g' := g206) ?_
            refine wp_n 1 (pc' := 210) (L' := [(2, 127), (0, (tK T L p)), (9, 0), (9, 0)]) (st' := [(0, 0)]) (g' := g206) rfl ?_
            exact wp_ret rfl rfl rfl (StM.g (s := (nx T L p, 5 :: stl 5 σ, false, out ++ ste 5 σ)) (by rw [rbe, if_neg (by omega), if_pos (by omega), if_pos (by omega)]) ((((hF59.z.up (by omega)).up (by omega)).up (by omega)).trans hF206.z) ⟨hT206, hn0.2.1, (((hPn.same (fun j hj => up_nj (by omega)) (fun j => up_ne (by decide)) (fun j => up_ne (by decide))).tm hF206).up (by omega) (by omega)), (hF206 127 21 (by omega)).trans up_eq⟩)
    · refine wp_n 2 (pc' := 19) (L' := [(2, 127), (0, (tK T L p)), (9, 0), (9, 0)]) (st' := [(0, 3), (2, 127)]) (g' := g) rfl ?_
      refine wp_cv (as := [(2, 127), (0, 3)]) (rest := []) rfl rfl rfl (Nat.le_of_ble_eq_true rfl) rfl (m_settle (l := 3) (by decide) hP) (by decide) (fun r73 h74 => ?_)
      obtain ⟨g19, rfl, hP19, hF19, hj19⟩ := h74
      have hws := wf.stl (l := 3) (by decide) σ hwf
      have hsl := hP19.2.2.2.2.2.2.1.len
      have hso := hP19.2.2.2.2.2.2.2.1
      have hsN := hP19.2.2.2.2.2.2.2.2.1
      refine wp_eq (L' := [(2, 127), (0, (tK T L p)), (9, 0), (9, 0)]) (st' := []) (g' := g19) ?_
      refine wp_n 3 (pc' := 26) (L' := [(2, 127), (0, (tK T L p)), (9, 0), (9, 0)]) (st' := [(0, 43), (0, (tK T L p)), (2, 127)]) (g' := g19) rfl ?_
      refine wp_ic_ne rfl (fun c75 => ?_) (fun c75 => ?_)
      · refine wp_n 1 (pc' := 34) (L' := [(2, 127), (0, (tK T L p)), (9, 0), (9, 0)]) (st' := [(0, 4), (2, 127)]) (g' := g19) rfl ?_
        refine wp_cv (as := [(2, 127), (0, 4)]) (rest := []) rfl rfl rfl (Nat.le_of_ble_eq_true rfl) rfl (m_push (σ := stl 3 σ) (q := 4) hP19.2.1 (by omega)) (by decide) (fun r76 h77 => ?_)
        obtain rfl := h77
        have hPn := (hP19.up (N' := p + 1) (by omega) (by omega)).push (q := 4) (g1 := g19) (fun c j _ => rfl) (by rw [opn_n (by decide)]; exact hP19.2.2.1) (wf_op hwf (by omega)) (by rw [opn_n (by decide)]; exact hso) (by omega)
        refine wp_eq (L' := [(2, 127), (0, (tK T L p)), (9, 0), (9, 0)]) (st' := []) (g' := (am_up (am_up g19 132 (stl 3 σ).length 4) 127 19 (((stl 3 σ).length : Int) + 1))) ?_
        refine wp_n 5 (pc' := 206) (L' := [(2, 127), (0, (tK T L p)), (9, 0), (9, 0)]) (st' := [(2, 127)]) (g' := (am_up (am_up (am_up g19 132 (stl 3 σ).length 4) 127 19 (((stl 3 σ).length : Int) + 1)) 127 21 0)) rfl ?_
        refine wp_cv (as := [(2, 127)]) (rest := []) rfl rfl rfl (Nat.le_of_ble_eq_true rfl) rfl (m_nextTk (T := T) (L := L) (p := p) (hR.z (t := t) (W := W) (((hF19.z.up (by omega)).up (by omega)).up (by omega))) (hT.same fun j h1 h2 => by rw [up_nj (by omega), up_nj (by omega), up_ne (by decide), hF19 127 j (by omega) (by omega) (by omega)]) hp) (by decide) (fun r78 h79 => ?_)
        obtain ⟨g206, rfl, hT206, hF206⟩ := h79
        refine wp_eq (L' := [(2, 127), (0, (tK T L p)), (9, 0), (9, 0)]) (st' := []) (g' := g206) ?_
        refine wp_n 1 (pc' := 210) (L' := [(2, 127), (0, (tK T L p)), (9, 0), (9, 0)]) (st' := [(0, 0)]) (g' := g206) rfl ?_
        exact wp_ret rfl rfl rfl (StM.g (s := (nx T L p, 4 :: stl 3 σ, false, out ++ ste 3 σ)) (by rw [rbe, if_pos (by omega), if_neg (by omega)]) ((((hF19.z.up (by omega)).up (by omega)).up (by omega)).trans hF206.z) ⟨hT206, hn0.2.1, (((hPn.same (fun j hj => up_nj (by omega)) (fun j => up_ne (by decide)) (fun j => up_ne (by decide))).tm hF206).up (by omega) (by omega)), (hF206 127 21 (by omega)).trans up_eq⟩)
      · refine wp_n 2 (pc' := 34) (L' := [(2, 127), (0, (tK T L p)), (9, 0), (9, 0)]) (st' := [(0, 3), (2, 127)]) (g' := g19) rfl ?_
        refine wp_cv (as := [(2, 127), (0, 3)]) (rest := []) rfl rfl rfl (Nat.le_of_ble_eq_true rfl) rfl (m_push (σ := stl 3 σ) (q := 3) hP19.2.1 (by omega)) (by decide) (fun r80 h81 => ?_)
        obtain rfl := h81
        have hPn := (hP19.up (N' := p + 1) (by omega) (by omega)).push (q := 3) (g1 := g19) (fun c j _ => rfl) (by rw [opn_n (by decide)]; exact hP19.2.2.1) (wf_op hwf (by omega)) (by rw [opn_n (by decide)]; exact hso) (by omega)
        refine wp_eq (L' := [(2, 127), (0, (tK T L p)), (9, 0), (9, 0)]) (st' := []) (g' := (am_up (am_up g19 132 (stl 3 σ).length 3) 127 19 (((stl 3 σ).length : Int) + 1))) ?_
        refine wp_n 5 (pc' := 206) (L' := [(2, 127), (0, (tK T L p)), (9, 0), (9, 0)]) (st' := [(2, 127)]) (g' := (am_up (am_up (am_up g19 132 (stl 3 σ).length 3) 127 19 (((stl 3 σ).length : Int) + 1)) 127 21 0)) rfl ?_
        refine wp_cv (as := [(2, 127)]) (rest := []) rfl rfl rfl (Nat.le_of_ble_eq_true rfl) rfl (m_nextTk (T := T) (L := L) (p := p) (hR.z (t := t) (W := W) (((hF19.z.up (by omega)).up (by omega)).up (by omega))) (hT.same fun j h1 h2 => by rw [up_nj (by omega), up_nj (by omega), up_ne (by decide), hF19 127 j (by omega) (by omega) (by omega)]) hp) (by decide) (fun r82 h83 => ?_)
        obtain ⟨g206, rfl, hT206, hF206⟩ := h83
        refine wp_eq (L' := [(2, 127), (0, (tK T L p)), (9, 0), (9, 0)]) (st' := []) (g' := g206) ?_
        refine wp_n 1 (pc' := 210) (L' := [(2, 127), (0, (tK T L p)), (9, 0), (9, 0)]) (st' := [(0, 0)]) (g' := g206) rfl ?_
        exact wp_ret rfl rfl rfl (StM.g (s := (nx T L p, 3 :: stl 3 σ, false, out ++ ste 3 σ)) (by rw [rbe, if_pos (by omega), if_pos (by omega)]) ((((hF19.z.up (by omega)).up (by omega)).up (by omega)).trans hF206.z) ⟨hT206, hn0.2.1, (((hPn.same (fun j hj => up_nj (by omega)) (fun j => up_ne (by decide)) (fun j => up_ne (by decide))).tm hF206).up (by omega) (by omega)), (hF206 127 21 (by omega)).trans up_eq⟩)
