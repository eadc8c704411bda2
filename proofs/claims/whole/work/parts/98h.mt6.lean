/-! THE REFERENCE'S READER: a clause -/
def cbt (v c : Nat) : Nat := v / 2 ^ c % 2
theorem bit_get : ∀ v : Nat, v < 16 → ∀ c : Nat, c < 4 → (Int32.ofInt (Int32.ofInt (v : Int) >>> (Int32.ofInt (c : Int) &&& 31)).toInt &&& Int32.ofInt 1).toInt = ((cbt v c : Nat) : Int) := by decide +kernel
theorem bit_set : ∀ v : Nat, v < 16 → ∀ c : Nat, c < 4 → (Int32.ofInt (v : Int) ||| Int32.ofInt (Int32.ofInt 1 <<< (Int32.ofInt (c : Int) &&& 31)).toInt).toInt = ((v ||| 2 ^ c : Nat) : Int) := by decide +kernel
theorem bit_all : ∀ v : Nat, v < 16 → ∀ c : Nat, c < 4 → (v ||| 2 ^ c) < 16 ∧ ∀ d : Nat, d < 4 → cbt (v ||| 2 ^ c) d = if d = c then 1 else cbt v d := by decide +kernel
theorem cbt_01 (v c : Nat) : cbt v c = 0 ∨ cbt v c = 1 := by unfold cbt; omega
def FrTx (t W : Nat) (g h : am_G) : Prop := ∀ c j, (c ≠ 127 ∨ j < 6 ∨ j = 7 ∨ j = 8 ∨ j = 14 ∨ j = 15 ∨ j = 18 ∨ 22 ≤ j) → (c ≠ 130 ∨ j < 800 * t ∨ (800 * t + 8 ≤ j ∧ j < 800 * t + 30 + 2 * W) ∨ 800 * t + 800 ≤ j) → c ≠ 132 → h c j = g c j
theorem FrTx.rfl {t W : Nat} {g : am_G} : FrTx t W g g := fun _ _ _ _ _ => Eq.refl _
theorem FrTx.trans {t W : Nat} {g h i : am_G} (h1 : FrTx t W g h) (h2 : FrTx t W h i) : FrTx t W g i := fun c j a b x => (h2 c j a b x).trans (h1 c j a b x)
theorem FrTx.up {t W k i : Nat} {x : Int} {g h : am_G} (h1 : FrTx t W g h) (hk : (k = 127 ∧ (i = 6 ∨ (9 ≤ i ∧ i ≤ 13) ∨ i = 16 ∨ i = 17 ∨ i = 20)) ∨ (k = 130 ∧ 800 * t ≤ i ∧ i < 800 * t + 8)) : FrTx t W g (am_up h k i x) := fun c j a b y => (up_no (by omega)).trans (h1 c j a b y)
theorem FrZ.tx {t W : Nat} {g h : am_G} (hF : FrZ t W g h) : FrTx t W g h := fun c j a b x => hF c j (by omega) (by omega) x
theorem FrTm.tx {t W : Nat} {g h : am_G} (hF : FrTm g h) : FrTx t W g h := fun c j a _ _ => hF c j (by omega)
theorem RdM.tx {T : Nat → Int} {L t W : Nat} {g h : am_G} (hR : RdM T L g) (hF : FrTx t W g h) : RdM T L h := ⟨fun j hj => (hF 131 j (by omega) (by omega) (by omega)).trans (hR.1 j hj), (hF 127 5 (by omega) (by omega) (by omega)).trans hR.2.1, hR.2.2⟩
theorem m_sum3 {sn : Nat} {sx : Nat → Int} {b : Nat} {g : am_G} {T : Nat → Int} {L p0 t W k : Nat} {R : Nat × Sst} (hR : RdM T L g) (hT0 : TkM T L g p0) (hp0 : p0 ≤ L) (h20 : g 127 20 = 0) (h16 : g 127 16 = (W : Int)) (hW : W ≤ p0) (h14 : g 127 14 = ((800 * t : Nat) : Int)) (ht6 : t < 6) (hk : g 127 6 = (k : Int)) (hk4 : k < 4) (hrun : Rn T L k (p0, [], false, []) R ∧ Trm T L R) : Ev sn sx 6 182 [(2, 127)] (SH b) g (fun r => (∃ g', r = (some (0, ((R.1 : Nat) : Int)), SH b, g') ∧ FrZ t W g g' ∧ R.1 ≠ 0 ∧ g' 127 10 = (R.2.1 : Int)) ∨ (∃ g', r = (some (0, 1), SH b, g') ∧ FrZ t W g g' ∧ R.1 = 0 ∧ stl 3 R.2.2.1 ≠ [] ∧ g' 127 10 = (R.2.1 : Int)) ∨ (∃ g', r = (some (0, 0), SH b, g') ∧ FrZ t W g g' ∧ R.1 = 0 ∧ stl 3 R.2.2.1 = [] ∧ TkM T L g' R.2.1 ∧ R.2.1 ≤ L ∧ PSt t W R.2.1 [] (R.2.2.2.2 ++ ste 3 R.2.2.1) g')) := (m_summed hR hT0 hp0 h20 h16 hW h14 ht6 hk hk4 hrun.1 hrun.2).mono fun r h => by
  obtain ⟨g', hF, ⟨a1, a2, a3⟩ | ⟨a1, a2, a3, a4⟩ | ⟨a1, a2, a3, a4, a5, a6⟩⟩ := h
  · exact Or.inl ⟨g', a2, hF, a1, a3⟩
  · exact Or.inr (Or.inl ⟨g', a3, hF, a1, a2, a4⟩)
  · exact Or.inr (Or.inr ⟨g', a3, hF, a1, a2, a4, a5, a6⟩)
def SmX9 (T : Nat → Int) (L : Nat) (R : Nat × Sst) (f q : Nat) : Prop := (R.1 = f ∧ f ≠ 0 ∧ R.2.1 = q) ∨ (f = 1 ∧ R.1 = 0 ∧ R.2.1 = q ∧ (stl 3 R.2.2.1 ≠ [] ∨ tK T L R.2.1 ≠ 59))
/-- behind a clause: at token p1's follower, codes C -/
def NxC (T : Nat → Int) (L t F v c p1 : Nat) (C : List Int) (g g' : am_G) : Prop := TkM T L g' (nx T L p1) ∧ p1 ≤ L ∧ g' 127 20 = 0 ∧ g' 127 16 = ((F + C.length : Nat) : Int) ∧ F + C.length ≤ p1 ∧ g' 127 17 = ((v ||| 2 ^ c : Nat) : Int) ∧ g' 130 (800 * t + 2 * c) = (F : Int) ∧ g' 130 (800 * t + 1 + 2 * c) = ((F + C.length : Nat) : Int) ∧ OtR t F g' C ∧ ∀ d, d < 4 → d ≠ c → g' 130 (800 * t + 2 * d) = g 130 (800 * t + 2 * d) ∧ g' 130 (800 * t + 1 + 2 * d) = g 130 (800 * t + 1 + 2 * d)
set_option maxHeartbeats 400000 in
set_option maxRecDepth 20000 in
theorem m_clause {sn : Nat} {sx : Nat → Int} {b : Nat} {g : am_G} {T : Nat → Int} {L p t F v : Nat} {R : Nat × Sst} (hR : RdM T L g) (hT : TkM T L g p) (hp : p ≤ L) (h20 : g 127 20 = 0) (h16 : g 127 16 = (F : Int)) (hFp : F ≤ p) (h14 : g 127 14 = ((800 * t : Nat) : Int)) (ht6 : t < 6) (h17 : g 127 17 = (v : Int)) (hv : v < 16) (hR5 : R.1 ≤ 5) (hS : ∀ c : Nat, c < 4 → tK T L p = -2 → tV T L p = (c : Int) → cbt v c = 0 → Rn T L c (nx T L p, [], false, []) R ∧ Trm T L R) : Ev sn sx 7 184 [(2, 127)] (SH b) g (fun r => (∃ g', r = (some (0, 1), SH b, g') ∧ FrTx t F g g' ∧ g' 127 10 = (p : Int) ∧ ¬ (tK T L p = -2 ∧ 0 ≤ tV T L p ∧ tV T L p ≤ 3)) ∨ (∃ g', ∃ c : Nat, r = (some (0, 4), SH b, g') ∧ FrTx t F g g' ∧ g' 127 10 = (p : Int) ∧ c < 4 ∧ tK T L p = -2 ∧ tV T L p = (c : Int) ∧ cbt v c = 1) ∨ (∃ g', ∃ c f q : Nat, r = (some (0, (f : Int)), SH b, g') ∧ FrTx t F g g' ∧ g' 127 10 = (q : Int) ∧ c < 4 ∧ tK T L p = -2 ∧ tV T L p = (c : Int) ∧ cbt v c = 0 ∧ SmX9 T L R f q) ∨ (∃ g', ∃ c : Nat, r = (some (0, 0), SH b, g') ∧ FrTx t F g g' ∧ c < 4 ∧ (tK T L p = -2 ∧ tV T L p = (c : Int)) ∧ cbt v c = 0 ∧ R.1 = 0 ∧ stl 3 R.2.2.1 = [] ∧ tK T L R.2.1 = 59 ∧ NxC T L t F v c R.2.1 (R.2.2.2.2 ++ ste 3 R.2.2.1) g g')) := by
  have hL3 := hR.2.2.1
  refine ev_of (K := 6) T184 (by decide) rfl rfl (Nat.le_of_ble_eq_true rfl) ?_
  refine wp_eq (L' := [(2, 127), (9, 0)]) (st' := []) (g' := g) ?_
  refine wp_n 2 (pc' := 2) (L' := [(2, 127), (9, 0)]) (st' := [(2, 127), (2, 127)]) (g' := g) rfl ?_
  refine wp_cv (as := [(2, 127)]) (rest := [(2, 127)]) rfl rfl rfl (Nat.le_of_ble_eq_true rfl) rfl (m_sortOf hR hT) (by decide) (fun r1 h2 => ?_)
  rcases h2 with ⟨c, hc4, rfl, hk2, hv2⟩ | ⟨rfl, hns⟩
  · have hcb := cbt_01 v c
    refine wp_eq (L' := [(2, 127), (9, 0)]) (st' := [(0, ((c : Nat) : Int)), (2, 127)]) (g' := g) ?_
    refine wp_n 3 (pc' := 12) (L' := [(2, 127), (9, 0)]) (st' := [(0, ((c : Nat) : Int))]) (g' := (am_up g 127 6 ((c : Nat) : Int))) rfl ?_
    refine wp_if_ge rfl (fun c3 => ?_) (fun c3 => ?_)
    · refine wp_n 2 (pc' := 21) (L' := [(2, 127), (9, 0)]) (st' := [(0, (g 127 17))]) (g' := (am_up g 127 6 ((c : Nat) : Int))) rfl ?_
      refine wp_eq (L' := [(2, 127), (9, 0)]) (st' := [(0, ((v : Nat) : Int))]) (g' := (am_up g 127 6 ((c : Nat) : Int))) ?_ (by rfl) (by first | rw [h17] | rw [up_nj (by decide), h17]) (by rfl)
      refine wp_n 5 (pc' := 28) (L' := [(2, 127), (9, 0)]) (st' := [(0, (Int32.ofInt (Int32.ofInt ((v : Nat) : Int) >>> (Int32.ofInt ((c : Nat) : Int) &&& 31)).toInt &&& Int32.ofInt 1).toInt)]) (g' := (am_up g 127 6 ((c : Nat) : Int))) rfl ?_
      refine wp_eq (L' := [(2, 127), (9, 0)]) (st' := [(0, (((cbt v c) : Nat) : Int))]) (g' := (am_up g 127 6 ((c : Nat) : Int))) ?_ (by rfl) (by rw [bit_get v hv c hc4]) (by rfl)
      refine wp_n 1 (pc' := 29) (L' := [(2, 127), (9, 0)]) (st' := [(0, 1), (0, (((cbt v c) : Nat) : Int))]) (g' := (am_up g 127 6 ((c : Nat) : Int))) rfl ?_
      refine wp_ic_ne rfl (fun c4 => ?_) (fun c4 => ?_)
      · have hb0 : cbt v c = 0 := by omega
        have hRu : RdM T L (am_up (am_up g 127 6 (c : Int)) 127 17 ((v ||| 2 ^ c : Nat) : Int)) := ⟨fun j hj => (up_ne (by decide)).trans ((up_ne (by decide)).trans (hR.1 j hj)), (up_nj (by decide)).trans ((up_nj (by decide)).trans hR.2.1), hR.2.2⟩
        have hTu : TkM T L (am_up (am_up g 127 6 (c : Int)) 127 17 ((v ||| 2 ^ c : Nat) : Int)) p := hT.same fun j h1 h2 => (up_nj (by omega)).trans (up_nj (by omega))
        refine wp_n 3 (pc' := 39) (L' := [(2, 127), (9, 0)]) (st' := [(0, (g 127 17)), (2, 127)]) (g' := (am_up g 127 6 ((c : Nat) : Int))) rfl ?_
        refine wp_eq (L' := [(2, 127), (9, 0)]) (st' := [(0, ((v : Nat) : Int)), (2, 127)]) (g' := (am_up g 127 6 ((c : Nat) : Int))) ?_ (by rfl) (by first | rw [h17] | rw [up_nj (by decide), h17]) (by rfl)
        refine wp_n 5 (pc' := 46) (L' := [(2, 127), (9, 0)]) (st' := [(0, (Int32.ofInt ((v : Nat) : Int) ||| Int32.ofInt (Int32.ofInt 1 <<< (Int32.ofInt ((c : Nat) : Int) &&& 31)).toInt).toInt), (2, 127)]) (g' := (am_up g 127 6 ((c : Nat) : Int))) rfl ?_
        refine wp_eq (L' := [(2, 127), (9, 0)]) (st' := [(0, (((v ||| 2 ^ c) : Nat) : Int)), (2, 127)]) (g' := (am_up g 127 6 ((c : Nat) : Int))) ?_ (by rfl) (by rw [bit_set v hv c hc4]) (by rfl)
        refine wp_n 2 (pc' := 50) (L' := [(2, 127), (9, 0)]) (st' := [(2, 127)]) (g' := (am_up (am_up g 127 6 ((c : Nat) : Int)) 127 17 (((v ||| 2 ^ c) : Nat) : Int))) rfl ?_
        refine wp_cv (as := [(2, 127)]) (rest := []) rfl rfl rfl (Nat.le_of_ble_eq_true rfl) rfl (m_nextTk (T := T) (L := L) (p := p) hRu hTu hp) (by decide) (fun r5 h6 => ?_)
        obtain ⟨g50, rfl, hT50, hF50⟩ := h6
        have hFu : FrTx t F g (am_up g50 130 (800 * t + 2 * c) (F : Int)) := (((FrTx.rfl.up (k := 127) (i := 6) (x := (c : Int)) (by omega)).up (k := 127) (i := 17) (x := ((v ||| 2 ^ c : Nat) : Int)) (by omega)).trans hF50.tx).up (by omega)
        have h14c : g50 127 14 = ((800 * t : Nat) : Int) := by rw [hF50 127 14 (by omega), up_nj (by decide), up_nj (by decide), h14]
        have h6c : g50 127 6 = (c : Int) := by rw [hF50 127 6 (by omega), up_nj (by decide), up_eq]
        have h16c : g50 127 16 = (F : Int) := by rw [hF50 127 16 (by omega), up_nj (by decide), up_nj (by decide), h16]
        have h20c : g50 127 20 = 0 := by rw [hF50 127 20 (by omega), up_nj (by decide), up_nj (by decide), h20]
        have hnx := nx_in (T := T) hp
        refine wp_eq (L' := [(2, 127), (9, 0)]) (st' := []) (g' := g50) ?_
        refine wp_n 4 (pc' := 61) (L' := [(2, 127), (9, 0)]) (st' := [(0, (g50 127 14)), (2, 130)]) (g' := g50) rfl ?_
        refine wp_eq (L' := [(2, 127), (9, 0)]) (st' := [(0, (((800 * t) : Nat) : Int)), (2, 130)]) (g' := g50) ?_ (by rfl) (by rw [h14c]) (by rfl)
        refine wp_n 3 (pc' := 66) (L' := [(2, 127), (9, 0)]) (st' := [(0, (g50 127 6)), (0, 2), (0, (((800 * t) : Nat) : Int)), (2, 130)]) (g' := g50) rfl ?_
        refine wp_eq (L' := [(2, 127), (9, 0)]) (st' := [(0, ((c : Nat) : Int)), (0, 2), (0, (((800 * t) : Nat) : Int)), (2, 130)]) (g' := g50) ?_ (by rfl) (by rw [h6c]) (by rfl)
        refine wp_n 4 (pc' := 72) (L' := [(2, 127), (9, 0)]) (st' := [(0, (g50 127 16)), (0, ((((800 * t) : Nat) : Int) + (2 * ((c : Nat) : Int)))), (2, 130)]) (g' := g50) rfl ?_
        refine wp_eq (L' := [(2, 127), (9, 0)]) (st' := [(0, ((F : Nat) : Int)), (0, ((((800 * t) : Nat) : Int) + (2 * ((c : Nat) : Int)))), (2, 130)]) (g' := g50) ?_ (by rfl) (by rw [h16c]) (by rfl)
        refine wp_iast (k := 130) ((800 * t + 2 * c)) rfl rfl (by omega) (by omega) (by decide) ?_
        refine wp_n 1 (pc' := 74) (L' := [(2, 127), (9, 0)]) (st' := [(2, 127)]) (g' := (am_up g50 130 ((800 * t + 2 * c)) ((F : Nat) : Int))) rfl ?_
        refine wp_cv (as := [(2, 127)]) (rest := []) rfl rfl rfl (Nat.le_of_ble_eq_true rfl) rfl (m_sum3 (T := T) (L := L) (p0 := nx T L p) (t := t) (W := F) (k := c) (R := R) (hR.tx hFu) (hT50.same fun j h1 h2 => up_ne (by decide)) hnx.2.1 ((up_ne (by decide)).trans h20c) ((up_ne (by decide)).trans h16c) (by omega) ((up_ne (by decide)).trans h14c) ht6 ((up_ne (by decide)).trans h6c) hc4 (hS c hc4 hk2 hv2 hb0)) (by decide) (fun r7 h8 => ?_)
        rcases h8 with ⟨f74, rfl, hF74, hr0, h10_⟩ | ⟨e74, rfl, hF74, hr0, hst, h10_⟩ | ⟨g74, rfl, hF74, hr0, hst, hT74, hp74, hP74⟩
        · refine wp_eq (L' := [(2, 127), (9, 0)]) (st' := [(0, ((R.1 : Nat) : Int))]) (g' := f74) ?_
          refine wp_n 2 (pc' := 79) (L' := [(2, 127), (0, ((R.1 : Nat) : Int))]) (st' := [(0, ((R.1 : Nat) : Int))]) (g' := f74) rfl ?_
          refine wp_if_eq rfl (fun c9 => ?_) (fun c9 => ?_)
          · exfalso; omega
          · refine wp_n 1 (pc' := 83) (L' := [(2, 127), (0, ((R.1 : Nat) : Int))]) (st' := [(0, ((R.1 : Nat) : Int))]) (g' := f74) rfl ?_
            exact wp_ret rfl rfl rfl (Or.inr (Or.inr (Or.inl ⟨_, c, R.1, R.2.1, rfl, hFu.trans hF74.tx, h10_, hc4, hk2, hv2, hb0, Or.inl ⟨rfl, hr0, rfl⟩⟩)))
        · refine wp_eq (L' := [(2, 127), (9, 0)]) (st' := [(0, 1)]) (g' := e74) ?_
          refine wp_n 4 (pc' := 83) (L' := [(2, 127), (0, 1)]) (st' := [(0, 1)]) (g' := e74) rfl ?_
          exact wp_ret rfl rfl rfl (Or.inr (Or.inr (Or.inl ⟨_, c, 1, R.2.1, rfl, hFu.trans hF74.tx, h10_, hc4, hk2, hv2, hb0, Or.inr ⟨rfl, hr0, rfl, Or.inl hst⟩⟩)))
        · have h14b : g74 127 14 = ((800 * t : Nat) : Int) := hP74.2.2.2.2.2.1
          have h16b : g74 127 16 = ((F + (R.2.2.2.2 ++ ste 3 R.2.2.1).length : Nat) : Int) := hP74.2.2.2.1
          have h6b : g74 127 6 = (c : Int) := by rw [hF74 127 6 (by omega) (by omega) (by omega), up_ne (by decide), h6c]
          have hto := tkM_or (p := R.2.1) hR.2.2.2
          have hCl : F + (R.2.2.2.2 ++ ste 3 R.2.2.1).length ≤ R.2.1 := hP74.2.2.2.2.2.2.2.2.1
          refine wp_eq (L' := [(2, 127), (9, 0)]) (st' := [(0, 0)]) (g' := g74) ?_
          refine wp_n 7 (pc' := 92) (L' := [(2, 127), (0, 0)]) (st' := [(0, (g74 127 14)), (2, 130)]) (g' := g74) rfl ?_
          refine wp_eq (L' := [(2, 127), (0, 0)]) (st' := [(0, (((800 * t) : Nat) : Int)), (2, 130)]) (g' := g74) ?_ (by rfl) (by rw [h14b]) (by rfl)
          refine wp_n 5 (pc' := 99) (L' := [(2, 127), (0, 0)]) (st' := [(0, (g74 127 6)), (0, 2), (0, ((((800 * t) : Nat) : Int) + 1)), (2, 130)]) (g' := g74) rfl ?_
          refine wp_eq (L' := [(2, 127), (0, 0)]) (st' := [(0, ((c : Nat) : Int)), (0, 2), (0, ((((800 * t) : Nat) : Int) + 1)), (2, 130)]) (g' := g74) ?_ (by rfl) (by rw [h6b]) (by rfl)
          refine wp_n 4 (pc' := 105) (L' := [(2, 127), (0, 0)]) (st' := [(0, (g74 127 16)), (0, (((((800 * t) : Nat) : Int) + 1) + (2 * ((c : Nat) : Int)))), (2, 130)]) (g' := g74) rfl ?_
          refine wp_eq (L' := [(2, 127), (0, 0)]) (st' := [(0, (((F + (R.2.2.2.2 ++ ste 3 R.2.2.1).length) : Nat) : Int)), (0, (((((800 * t) : Nat) : Int) + 1) + (2 * ((c : Nat) : Int)))), (2, 130)]) (g' := g74) ?_ (by rfl) (by rw [h16b]) (by rfl)
          refine wp_iast (k := 130) ((800 * t + 1 + 2 * c)) rfl rfl (by omega) (by omega) (by decide) ?_
          refine wp_n 2 (pc' := 110) (L' := [(2, 127), (0, 0)]) (st' := [(0, (g74 127 11))]) (g' := (am_up g74 130 ((800 * t + 1 + 2 * c)) (((F + (R.2.2.2.2 ++ ste 3 R.2.2.1).length) : Nat) : Int))) rfl ?_
          refine wp_eq (L' := [(2, 127), (0, 0)]) (st' := [(0, (tkM (tK T L R.2.1)))]) (g' := (am_up g74 130 ((800 * t + 1 + 2 * c)) (((F + (R.2.2.2.2 ++ ste 3 R.2.2.1).length) : Nat) : Int))) ?_ (by rfl) (by first | rw [hT74.2.1] | rw [up_ne (by decide), hT74.2.1]) (by rfl)
          refine wp_n 1 (pc' := 112) (L' := [(2, 127), (0, 0)]) (st' := [(0, 59), (0, (tkM (tK T L R.2.1)))]) (g' := (am_up g74 130 ((800 * t + 1 + 2 * c)) (((F + (R.2.2.2.2 ++ ste 3 R.2.2.1).length) : Nat) : Int))) rfl ?_
          refine wp_ic_eq rfl (fun c10 => ?_) (fun c10 => ?_)
          · refine wp_n 1 (pc' := 118) (L' := [(2, 127), (0, 0)]) (st' := [(2, 127)]) (g' := (am_up g74 130 ((800 * t + 1 + 2 * c)) (((F + (R.2.2.2.2 ++ ste 3 R.2.2.1).length) : Nat) : Int))) rfl ?_
            refine wp_cv (as := [(2, 127)]) (rest := []) rfl rfl rfl (Nat.le_of_ble_eq_true rfl) rfl (m_nextTk (T := T) (L := L) (p := R.2.1) (hR.tx (hFu.trans (hF74.tx.up (by omega)))) (hT74.same fun j h1 h2 => up_ne (by decide)) hp74) (by decide) (fun r11 h12 => ?_)
            obtain ⟨g118, rfl, hT118, hF118⟩ := h12
            refine wp_eq (L' := [(2, 127), (0, 0)]) (st' := []) (g' := g118) ?_
            refine wp_n 1 (pc' := 122) (L' := [(2, 127), (0, 0)]) (st' := [(0, 0)]) (g' := g118) rfl ?_
            exact wp_ret rfl rfl rfl (Or.inr (Or.inr (Or.inr ⟨_, c, rfl, (hFu.trans (hF74.tx.up (by omega))).trans hF118.tx, hc4, ⟨hk2, hv2⟩, hb0, hr0, hst, by omega, hT118, hp74, by rw [hF118 127 20 (by omega), up_ne (by decide)]; exact hP74.2.2.1, by rw [hF118 127 16 (by omega), up_ne (by decide)]; exact h16b, by have h9 := hP74.2.2.2.2.2.2.2.2.1; exact h9, by rw [hF118 127 17 (by omega), up_ne (by decide), hF74 127 17 (by omega) (by omega) (by omega), up_ne (by decide), hF50 127 17 (by omega), up_eq], by rw [hF118 130 _ (by omega), up_nj (by omega), hF74 130 _ (by omega) (by omega) (by omega), up_eq], by rw [hF118 130 _ (by omega), up_eq], hP74.2.2.2.2.1.same fun j h1 h2 => by rw [hF118 130 j (by omega), up_nj (by omega)], fun d hd hdc => ⟨by rw [hF118 130 _ (by omega), up_nj (by omega), hF74 130 _ (by omega) (by omega) (by omega), up_nj (by omega), hF50 130 _ (by omega), up_ne (by decide), up_ne (by decide)], by rw [hF118 130 _ (by omega), up_nj (by omega), hF74 130 _ (by omega) (by omega) (by omega), up_nj (by omega), hF50 130 _ (by omega), up_ne (by decide), up_ne (by decide)]⟩⟩)))
          · refine wp_n 1 (pc' := 116) (L' := [(2, 127), (0, 0)]) (st' := [(0, 1)]) (g' := (am_up g74 130 ((800 * t + 1 + 2 * c)) (((F + (R.2.2.2.2 ++ ste 3 R.2.2.1).length) : Nat) : Int))) rfl ?_
            exact wp_ret rfl rfl rfl (Or.inr (Or.inr (Or.inl ⟨_, c, 1, R.2.1, rfl, hFu.trans (hF74.tx.up (by omega)), (up_ne (by decide)).trans hT74.1, hc4, hk2, hv2, hb0, Or.inr ⟨rfl, hr0, rfl, Or.inr (by omega)⟩⟩)))
      · refine wp_n 1 (pc' := 33) (L' := [(2, 127), (9, 0)]) (st' := [(0, 4)]) (g' := (am_up g 127 6 ((c : Nat) : Int))) rfl ?_
        exact wp_ret rfl rfl rfl (Or.inr (Or.inl ⟨_, c, rfl, FrTx.rfl.up (by omega), (up_nj (by decide)).trans hT.1, hc4, hk2, hv2, by omega⟩))
    · exfalso; omega
  · refine wp_eq (L' := [(2, 127), (9, 0)]) (st' := [(0, (-1)), (2, 127)]) (g' := g) ?_
    refine wp_n 3 (pc' := 12) (L' := [(2, 127), (9, 0)]) (st' := [(0, (-1))]) (g' := (am_up g 127 6 (-1))) rfl ?_
    refine wp_if_ge rfl (fun c13 => ?_) (fun c13 => ?_)
    · exfalso; omega
    · refine wp_n 1 (pc' := 16) (L' := [(2, 127), (9, 0)]) (st' := [(0, 1)]) (g' := (am_up g 127 6 (-1))) rfl ?_
      exact wp_ret rfl rfl rfl (Or.inl ⟨_, rfl, FrTx.rfl.up (by omega), (up_nj (by decide)).trans hT.1, hns⟩)
theorem m_clauseD {sn : Nat} {sx : Nat → Int} {b : Nat} {g : am_G} {T : Nat → Int} {L p t F v f q : Nat} {X : Nat → List Int → Nat → Prop} {Y : Prop} (hR : RdM T L g) (hT : TkM T L g p) (hp : p ≤ L) (h20 : g 127 20 = 0) (h16 : g 127 16 = (F : Int)) (hFp : F ≤ p) (h14 : g 127 14 = ((800 * t : Nat) : Int)) (ht6 : t < 6) (h17 : g 127 17 = (v : Int)) (hv : v < 16) (hD : (∃ c C p1, X c C p1 ∧ PCl T L p c p1 C ∧ cbt v c = 0) ∨ (Y ∧ (1 ≤ f ∧ f ≤ 5) ∧ PClF T L p (fun c => cbt v c = 1) f q)) : Ev sn sx 7 184 [(2, 127)] (SH b) g (fun r => (∃ g', ∃ (c : Nat) (C : List Int) (p1 : Nat), r = (some (0, 0), SH b, g') ∧ FrTx t F g g' ∧ X c C p1 ∧ PCl T L p c p1 C ∧ cbt v c = 0 ∧ NxC T L t F v c p1 C g g') ∨ (∃ g', r = (some (0, (f : Int)), SH b, g') ∧ FrTx t F g g' ∧ Y ∧ g' 127 10 = (q : Int))) := by
  rcases hD with ⟨c, C, p1, hX, hP, hb⟩ | ⟨hY, hf, hP⟩
  · obtain ⟨R, h1, h2, h3, h4, h5, h6⟩ := psm_run hP.2.2.2.1 (show NoOp T L p1 by have := hP.2.2.2.2.1; unfold NoOp; omega)
    have hk := hP.2.1
    have hvv := hP.2.2.1
    have hc4 := hP.1
    have h59 := hP.2.2.2.2.1
    refine (m_clause (F := F) (R := R) hR hT hp h20 h16 hFp h14 ht6 h17 hv (by omega) (fun d _ _ hd _ => ?_)).mono fun r h => ?_
    · obtain rfl : d = c := by omega
      exact ⟨h1, h2⟩
    · rcases h with ⟨g', a1, a2, a3, a4⟩ | ⟨g', d, a1, a2, a3, a4, a5, a6, a7⟩ | ⟨g', d, f', q', a1, a2, a3, a4, a5, a6, a7, a8⟩ | ⟨g', d, a1, a2, a4, a5, a6, a7, a8, a9, a10⟩
      · exact absurd ⟨hk, by omega, by omega⟩ a4
      · obtain rfl : d = c := by omega
        omega
      · rcases a8 with ⟨e1, e2, _⟩ | ⟨_, _, _, e⟩
        · omega
        · rcases e with e | e
          · exact absurd h4 e
          · rw [h5] at e; exact absurd h59 e
      · obtain rfl : d = c := by have := a5.2; omega
        rw [h5, h6] at a10
        exact Or.inl ⟨g', d, C, p1, a1, a2, hX, hP, hb, a10⟩
  · rcases hP with ⟨h1, h2, rfl, rfl⟩ | ⟨c, hc4, hk, hvv, hP⟩
    · refine (m_clause (F := F) (R := (0, 0, [], false, [])) hR hT hp h20 h16 hFp h14 ht6 h17 hv (Nat.zero_le _) (fun d hd e1 e2 _ => absurd ⟨e1, by omega, by omega⟩ h2)).mono fun r h => ?_
      rcases h with ⟨g', a1, a2, a3, a4⟩ | ⟨g', d, a1, a2, a3, a4, a5, a6, a7⟩ | ⟨g', d, f', q', a1, a2, a3, a4, a5, a6, a7, a8⟩ | ⟨g', d, a1, a2, a4, a5, a6, a7, a8, a9, a10⟩
      · exact Or.inr ⟨g', a1, a2, hY, a3⟩
      · exact absurd ⟨a5, by omega, by omega⟩ h2
      · exact absurd ⟨a5, by omega, by omega⟩ h2
      · exact absurd ⟨a5.1, by have := a5.2; omega, by have := a5.2; omega⟩ h2
    · rcases hP with ⟨hb, rfl, rfl⟩ | ⟨hb, hP⟩
      · have hb1 : cbt v c = 1 := hb
        refine (m_clause (F := F) (R := (0, 0, [], false, [])) hR hT hp h20 h16 hFp h14 ht6 h17 hv (Nat.zero_le _) (fun d hd e1 e2 e3 => ?_)).mono fun r h => ?_
        · obtain rfl : d = c := by omega
          omega
        · rcases h with ⟨g', a1, a2, a3, a4⟩ | ⟨g', d, a1, a2, a3, a4, a5, a6, a7⟩ | ⟨g', d, f', q', a1, a2, a3, a4, a5, a6, a7, a8⟩ | ⟨g', d, a1, a2, a4, a5, a6, a7, a8, a9, a10⟩
          · exact absurd ⟨hk, by omega, by omega⟩ a4
          · exact Or.inr ⟨g', a1, a2, hY, a3⟩
          · obtain rfl : d = c := by omega
            omega
          · obtain rfl : d = c := by have := a5.2; omega
            omega
      · have hb1 : ¬ cbt v c = 1 := hb
        have hX : ∃ R, Rn T L c (nx T L p, [], false, []) R ∧ Trm T L R ∧ SmX9 T L R f q := by
          rcases hP with hP | ⟨p1, C, hP, hn, h59, rfl, rfl⟩
          · obtain ⟨R, h1, h2, h3⟩ := fl_run hP
            refine ⟨R, h1, h2, ?_⟩
            rcases h3 with h3 | ⟨h3, h4, h5, h6⟩
            · exact Or.inl h3
            · exact Or.inr ⟨h3, h4, h5, Or.inl h6⟩
          · obtain ⟨R, h1, h2, h3, h4, h5, h6⟩ := psm_run hP hn
            exact ⟨R, h1, h2, Or.inr ⟨rfl, h3, h5, Or.inr (by rw [h5]; exact h59)⟩⟩
        obtain ⟨R, h1, h2, h3⟩ := hX
        have hR5 : R.1 ≤ 5 := by
          rcases h3 with ⟨e, _⟩ | ⟨_, e, _⟩ <;> omega
        refine (m_clause (F := F) (R := R) hR hT hp h20 h16 hFp h14 ht6 h17 hv hR5 (fun d _ _ hd _ => ?_)).mono fun r h => ?_
        · obtain rfl : d = c := by omega
          exact ⟨h1, h2⟩
        · rcases h with ⟨g', a1, a2, a3, a4⟩ | ⟨g', d, a1, a2, a3, a4, a5, a6, a7⟩ | ⟨g', d, f', q', a1, a2, a3, a4, a5, a6, a7, a8⟩ | ⟨g', d, a1, a2, a4, a5, a6, a7, a8, a9, a10⟩
          · exact absurd ⟨hk, by omega, by omega⟩ a4
          · obtain rfl : d = c := by omega
            omega
          · have e : f' = f ∧ q' = q := by
              rcases h3 with ⟨e1, e2, e3⟩ | ⟨e1, e2, e3, e4⟩ <;> rcases a8 with ⟨b1, b2, b3⟩ | ⟨b1, b2, b3, b4⟩ <;> omega
            rw [e.1] at a1
            rw [e.2] at a3
            exact Or.inr ⟨g', a1, a2, hY, a3⟩
          · exfalso
            rcases h3 with ⟨e1, e2, e3⟩ | ⟨e1, e2, e3, e4⟩
            · omega
            · rcases e4 with e | e
              · exact e a8
              · exact e a9
