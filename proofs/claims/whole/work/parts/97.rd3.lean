/-! THE CLASS'S READER: a clause, a text -/
def RdH (T : Nat → Int) (L t p F : Nat) (h : am_G) : Prop := RdT T L h ∧ h 47 5 = (t : Int) ∧ t < 6 ∧ (h 47 2 = 0 ∧ h 47 3 = -1) ∧ TkC T L h p ∧ p ≤ L ∧ h 47 7 = ((300 * t + F : Nat) : Int)
def RdY (T : Nat → Int) (L t f q : Nat) (h : am_G) : Prop := RdT T L h ∧ h 47 5 = (t : Int) ∧ h 47 2 = (f : Int) ∧ (1 ≤ f ∧ f ≤ 5) ∧ h 47 3 = (q : Int)
def FrCt (t : Nat) (g h : am_G) : Prop := ∀ c j, (c ≠ 47 ∨ j < 2 ∨ j = 4 ∨ j = 5) → (c ≠ 7 ∨ j < 300 * t) → ((c ≠ 8 ∧ c ≠ 9) ∨ j < 4 * t ∨ 4 * t + 4 ≤ j) → h c j = g c j
theorem FrCt.rfl {t : Nat} {g : am_G} : FrCt t g g := fun _ _ _ _ _ => Eq.refl _
theorem FrCt.trans {t : Nat} {g h i : am_G} (h1 : FrCt t g h) (h2 : FrCt t h i) : FrCt t g i := fun c j a b x => (h2 c j a b x).trans (h1 c j a b x)
theorem FrCt.up {t k i : Nat} {x : Int} {g h : am_G} (h1 : FrCt t g h) (hk : (k = 47 ∧ i ≠ 0 ∧ i ≠ 1 ∧ i ≠ 4 ∧ i ≠ 5) ∨ (k = 7 ∧ 300 * t ≤ i) ∨ ((k = 8 ∨ k = 9) ∧ 4 * t ≤ i ∧ i < 4 * t + 4)) : FrCt t g (am_up h k i x) := fun c j a b x => (up_no (by omega)).trans (h1 c j a b x)
theorem FrDt.c {t : Nat} {g h : am_G} (h1 : FrDt t g h) : FrCt t g h := fun c j a b _ => h1 c j (by omega) b
theorem RdT.c {T : Nat → Int} {L t : Nat} {g h : am_G} (hR : RdT T L g) (hF : FrCt t g h) : RdT T L h := ⟨(funext fun j => hF 48 j (by omega) (by omega) (by omega)).trans hR.1, (hF 47 1 (by omega) (by omega) (by omega)).trans hR.2.1, hR.2.2⟩
theorem RdH.pl {T : Nat → Int} {L t p F : Nat} {h : am_G} (hH : RdH T L t p F h) : p ≤ L := hH.2.2.2.2.2.1
theorem RdH.k {T : Nat → Int} {L t p F : Nat} {h : am_G} (hH : RdH T L t p F h) : h 47 9 = tK T L p := hH.2.2.2.2.1.2.1
theorem RdH.v {T : Nat → Int} {L t p F : Nat} {h : am_G} (hH : RdH T L t p F h) (hk : tK T L p = -2) : h 47 11 = tV T L p := hH.2.2.2.2.1.2.2.2 (Or.inl hk)
theorem RdH.b {T : Nat → Int} {L t p F : Nat} {h : am_G} (hH : RdH T L t p F h) : -4 ≤ tK T L p ∧ tK T L p ≤ 59 := tK_in hH.1.2.2.2
theorem RdH.f {T : Nat → Int} {L t p F : Nat} {h : am_G} (hH : RdH T L t p F h) : h 47 2 = 0 := hH.2.2.2.1.1
theorem RdH.same {T : Nat → Int} {L t p F : Nat} {g h : am_G} (hH : RdH T L t p F g) (hF : ∀ c j, (c = 47 ∧ j ≠ 0 ∧ j ≠ 6) ∨ c = 48 → h c j = g c j) : RdH T L t p F h := by
  obtain ⟨h1, h2, h3, h4, h5, h6, h7⟩ := hH
  exact ⟨⟨(funext fun j => hF 48 j (by omega)).trans h1.1, (hF 47 1 (by omega)).trans h1.2.1, h1.2.2⟩, (hF 47 5 (by omega)).trans h2, h3, ⟨(hF 47 2 (by omega)).trans h4.1, (hF 47 3 (by omega)).trans h4.2⟩, ⟨(hF 47 10 (by omega)).trans h5.1, (hF 47 9 (by omega)).trans h5.2.1, (hF 47 8 (by omega)).trans h5.2.2.1, fun q => (hF 47 11 (by omega)).trans (h5.2.2.2 q)⟩, h6, (hF 47 7 (by omega)).trans h7⟩
theorem RdG.h {T : Nat → Int} {L t k p F : Nat} {g : am_G} (hG : RdG T L t k p F g) : RdH T L t p F g := ⟨hG.1.1, hG.1.2.1, hG.1.2.2.2.1, hG.2.1, hG.2.2.1, hG.2.2.2.1, hG.2.2.2.2⟩
theorem RdH.g {T : Nat → Int} {L t k p F : Nat} {g : am_G} (hH : RdH T L t p F g) (h6 : g 47 6 = (k : Int)) (hk : k < 4) : RdG T L t k p F g := ⟨⟨hH.1, hH.2.1, h6, hH.2.2.1, hk⟩, hH.2.2.2.1, hH.2.2.2.2.1, hH.pl, hH.2.2.2.2.2.2⟩
theorem RdX.y {T : Nat → Int} {L t k f q : Nat} {g : am_G} (hX : RdX T L t k f q g) : RdY T L t f q g := ⟨hX.1.1, hX.1.2.1, hX.2.1, hX.2.2.1, hX.2.2.2.1⟩
theorem RdY.same {T : Nat → Int} {L t f q : Nat} {g h : am_G} (hY : RdY T L t f q g) (hF : ∀ c j, (c = 47 ∧ (j = 1 ∨ j = 2 ∨ j = 3 ∨ j = 5)) ∨ c = 48 → h c j = g c j) : RdY T L t f q h := by
  obtain ⟨h1, h2, h3, h4, h5⟩ := hY
  exact ⟨⟨(funext fun j => hF 48 j (by omega)).trans h1.1, (hF 47 1 (by omega)).trans h1.2.1, h1.2.2⟩, (hF 47 5 (by omega)).trans h2, (hF 47 2 (by omega)).trans h3, h4, (hF 47 3 (by omega)).trans h5⟩
theorem RdX.same {T : Nat → Int} {L t k f q : Nat} {g h : am_G} (hX : RdX T L t k f q g) (hF : ∀ c j, (c = 47 ∧ j ≠ 0) ∨ c = 48 → h c j = g c j) : RdX T L t k f q h := by
  obtain ⟨⟨h1, h2, h3, h4⟩, h5, h6, h7, F, h8, h9⟩ := hX
  exact ⟨⟨⟨(funext fun j => hF 48 j (by omega)).trans h1.1, (hF 47 1 (by omega)).trans h1.2.1, h1.2.2⟩, (hF 47 5 (by omega)).trans h2, (hF 47 6 (by omega)).trans h3, h4⟩, (hF 47 2 (by omega)).trans h5, h6, (hF 47 3 (by omega)).trans h7, F, (hF 47 7 (by omega)).trans h8, h9⟩
def NoOp (T : Nat → Int) (L p : Nat) : Prop := tK T L p ≠ 43 ∧ tK T L p ≠ 45 ∧ tK T L p ≠ 42 ∧ tK T L p ≠ 47
/-- a clause c from p to its sign p1, with codes C -/
def PCl (T : Nat → Int) (L p c p1 : Nat) (C : List Int) : Prop := c < 4 ∧ tK T L p = -2 ∧ tV T L p = (c : Int) ∧ PSm T L c 0 (nx T L p) p1 C ∧ tK T L p1 = 59 ∧ p < p1 ∧ p1 < L ∧ p + C.length ≤ p1 ∧ CW c 27 C
/-- a fault at a clause that begins at p; came: which have come -/
def PClF (T : Nat → Int) (L p : Nat) (came : Nat → Prop) (f q : Nat) : Prop := (tK T L p ≠ -1 ∧ ¬ (tK T L p = -2 ∧ 0 ≤ tV T L p ∧ tV T L p ≤ 3) ∧ f = 1 ∧ q = p) ∨ ∃ c : Nat, c < 4 ∧ tK T L p = -2 ∧ tV T L p = (c : Int) ∧ ((came c ∧ f = 4 ∧ q = p) ∨ (¬ came c ∧ (PSmF T L c 0 (nx T L p) f q ∨ ∃ p1 C, PSm T L c 0 (nx T L p) p1 C ∧ NoOp T L p1 ∧ tK T L p1 ≠ 59 ∧ f = 1 ∧ q = p1)))
def RCl (T : Nat → Int) (L t p F : Nat) (g : am_G) (r : am_R) : Prop := (∃ (g' : am_G) (c p1 : Nat) (C : List Int), r = (none, SH 7, g') ∧ FrCt t g g' ∧ g 8 (4 * t + c) = -1 ∧ PCl T L p c p1 C ∧ RdH T L t (nx T L p1) (F + C.length) g' ∧ CdK t F g g' ∧ CdW t F C g' ∧ g' 8 (4 * t + c) = ((300 * t + F : Nat) : Int) ∧ g' 9 (4 * t + c) = ((300 * t + F + C.length : Nat) : Int) ∧ ∀ d, d < 4 → d ≠ c → g' 8 (4 * t + d) = g 8 (4 * t + d) ∧ g' 9 (4 * t + d) = g 9 (4 * t + d)) ∨ ∃ g' f q, r = (none, SH 7, g') ∧ FrCt t g g' ∧ RdY T L t f q g' ∧ PClF T L p (fun c => g 8 (4 * t + c) ≠ -1) f q
theorem e_refuseH {sn : Nat} {sx : Nat → Int} {g : am_G} {T : Nat → Int} {L t p F f : Nat} (hH : RdH T L t p F g) (hf : 1 ≤ f ∧ f ≤ 5) : Ev sn sx 1 69 [(2, 47), (0, (f : Int))] (SH 7) g (fun r => r = (none, SH 7, am_up (am_up g 47 2 (f : Int)) 47 3 (p : Int))) := by
  refine ev_of (K := 0) T69 (by decide) rfl rfl (Nat.le_of_ble_eq_true rfl) ?_
  refine wp_eq (L' := [(2, 47), (0, (f : Int))]) (st' := []) (g' := g) ?_
  refine wp_n 2 (pc' := 4) (L' := [(2, 47), (0, (f : Int))]) (st' := [(0, (g 47 2))]) (g' := g) rfl ?_
  refine wp_eq (L' := [(2, 47), (0, (f : Int))]) (st' := [(0, 0)]) (g' := g) ?_ (by rfl) (by rw [hH.f]) (by rfl)
  refine wp_n 8 (pc' := 20) (L' := [(2, 47), (0, (f : Int))]) (st' := []) (g' := (am_up (am_up g 47 2 (f : Int)) 47 3 ((am_up g 47 2 (f : Int)) 47 10))) rfl ?_
  refine wp_eq (L' := [(2, 47), (0, (f : Int))]) (st' := []) (g' := (am_up (am_up g 47 2 (f : Int)) 47 3 (p : Int))) ?_ (by rfl) (by rfl) (by rw [up_nj (by decide), hH.2.2.2.2.1.1])
  exact wp_ret rfl rfl rfl rfl
theorem RdH.y {T : Nat → Int} {L t p F f : Nat} {g : am_G} (hH : RdH T L t p F g) (hf : 1 ≤ f ∧ f ≤ 5) : RdY T L t f p (am_up (am_up g 47 2 (f : Int)) 47 3 (p : Int)) := ⟨⟨(funext fun j => (up_ne (by decide)).trans (up_ne (by decide))).trans hH.1.1, (up_nj (by decide)).trans ((up_nj (by decide)).trans hH.1.2.1), hH.1.2.2⟩, (up_nj (by decide)).trans ((up_nj (by decide)).trans hH.2.1), (up_nj (by decide)).trans up_eq, hf, up_eq⟩
set_option maxHeartbeats 400000 in
set_option maxRecDepth 20000 in
theorem e_readClause {sn : Nat} {sx : Nat → Int} {g : am_G} {T : Nat → Int} {L t p F : Nat} (hH : RdH T L t p F g) (hFp : F ≤ p) (hke : tK T L p ≠ -1) (hfr : ∀ c, c < 4 → -1 ≤ g 8 (4 * t + c) ∧ g 8 (4 * t + c) ≤ 1800) : Ev sn sx 75 60 [(2, 47)] (SH 7) g (RCl T L t p F g) := by
  have hb := hH.b
  have hl := hH.pl
  have hl3 := hH.1.2.2.1
  have ht6 := hH.2.2.1
  have hvb := tV_in (T := T) hl
  have hlt := tK_end hl hke
  have hn0 := nx_in (T := T) hl
  refine ev_of (K := 74) T60 (by decide) rfl rfl (Nat.le_of_ble_eq_true rfl) ?_
  refine wp_eq (L' := [(2, 47), (9, 0)]) (st' := []) (g' := g) ?_
  refine wp_n 2 (pc' := 4) (L' := [(2, 47), (9, 0)]) (st' := [(0, (g 47 9))]) (g' := g) rfl ?_
  refine wp_eq (L' := [(2, 47), (9, 0)]) (st' := [(0, (tK T L p))]) (g' := g) ?_ (by rfl) (by rw [hH.k]) (by rfl)
  refine wp_n 1 (pc' := 6) (L' := [(2, 47), (9, 0)]) (st' := [(0, (-2)), (0, (tK T L p))]) (g' := g) rfl ?_
  refine wp_ic_ne rfl (fun c1 => ?_) (fun c1 => ?_)
  · refine wp_n 2 (pc' := 23) (L' := [(2, 47), (9, 0)]) (st' := [(0, 1), (2, 47)]) (g' := g) rfl ?_
    refine wp_cv (as := [(2, 47), (0, 1)]) (rest := []) rfl rfl rfl (Nat.le_of_ble_eq_true rfl) rfl (e_refuseH (f := 1) hH (by omega)) (by decide) (fun r2 h3 => ?_)
    obtain rfl := h3
    refine wp_eq (L' := [(2, 47), (9, 0)]) (st' := []) (g' := (am_up (am_up g 47 2 1) 47 3 ((p : Nat) : Int))) ?_
    exact wp_ret rfl rfl rfl (Or.inr ⟨_, 1, p, rfl, (FrCt.rfl.up (by omega)).up (by omega), hH.y (by decide), Or.inl ⟨hke, by omega, rfl, rfl⟩⟩)
  · refine wp_n 2 (pc' := 13) (L' := [(2, 47), (9, 0)]) (st' := [(0, (g 47 11))]) (g' := g) rfl ?_
    refine wp_eq (L' := [(2, 47), (9, 0)]) (st' := [(0, (tV T L p))]) (g' := g) ?_ (by rfl) (by rw [hH.v (by omega)]) (by rfl)
    refine wp_n 2 (pc' := 15) (L' := [(2, 47), (9, 0)]) (st' := [(0, 3), (0, 0), (0, (tV T L p))]) (g' := g) rfl ?_
    refine wp_cs (as := [(0, (tV T L p)), (0, 0), (0, 3)]) (rest := []) rfl (by decide) rfl (Nat.le_of_ble_eq_true rfl) (e_within (by omega) (by omega) (by omega)) (by decide) (fun r5 h6 => ?_)
    rcases h6 with ⟨rfl, p4⟩ | ⟨rfl, p4⟩
    · have hft := hfr (tV T L p).toNat (by omega)
      refine wp_eq (L' := [(2, 47), (9, 0)]) (st' := [(0, 1)]) (g' := g) ?_
      refine wp_n 3 (pc' := 31) (L' := [(2, 47), (9, 0)]) (st' := [(0, (g 47 5))]) (g' := g) rfl ?_
      refine wp_eq (L' := [(2, 47), (9, 0)]) (st' := [(0, ((t : Nat) : Int))]) (g' := g) ?_ (by rfl) (by rw [hH.2.1]) (by rfl)
      refine wp_n 4 (pc' := 37) (L' := [(2, 47), (9, 0)]) (st' := [(0, (g 47 11)), (0, (((t : Nat) : Int) * 4))]) (g' := g) rfl ?_
      refine wp_eq (L' := [(2, 47), (9, 0)]) (st' := [(0, (tV T L p)), (0, (((t : Nat) : Int) * 4))]) (g' := g) ?_ (by rfl) (by rw [hH.v (by omega)]) (by rfl)
      refine wp_n 6 (pc' := 47) (L' := [(2, 47), (0, ((((t : Nat) : Int) * 4) + (tV T L p)))]) (st' := [(0, ((((t : Nat) : Int) * 4) + (tV T L p))), (2, 8)]) (g' := g) rfl ?_
      refine wp_iald (k := 8) ((4 * t + (tV T L p).toNat)) rfl rfl (by omega) (by omega) (by decide) ?_
      refine wp_n 1 (pc' := 49) (L' := [(2, 47), (0, ((((t : Nat) : Int) * 4) + (tV T L p)))]) (st' := [(0, (-1)), (0, (g 8 (4 * t + (tV T L p).toNat)))]) (g' := g) rfl ?_
      refine wp_ic_eq rfl (fun c7 => ?_) (fun c7 => ?_)
      · have hF1 : FrCt t g (am_up (am_up g 47 6 (tV T L p)) 8 ((4 * t + (tV T L p).toNat)) (((300 * t + F) : Nat) : Int)) := (FrCt.rfl.up (by omega)).up (by omega)
        have hG1 : RdG T L t (tV T L p).toNat p F (am_up (am_up g 47 6 (tV T L p)) 8 ((4 * t + (tV T L p).toNat)) (((300 * t + F) : Nat) : Int)) := (hH.same fun c j q => (up_ne (by omega)).trans (up_no (by omega))).g ((up_ne (by decide)).trans (up_eq.trans (Int.toNat_of_nonneg (by omega)).symm)) (by omega)
        refine wp_n 3 (pc' := 63) (L' := [(2, 47), (0, ((((t : Nat) : Int) * 4) + (tV T L p)))]) (st' := [(0, (g 47 11)), (2, 47)]) (g' := g) rfl ?_
        refine wp_eq (L' := [(2, 47), (0, ((((t : Nat) : Int) * 4) + (tV T L p)))]) (st' := [(0, (tV T L p)), (2, 47)]) (g' := g) ?_ (by rfl) (by rw [hH.v (by omega)]) (by rfl)
        refine wp_n 7 (pc' := 78) (L' := [(2, 47), (0, ((((t : Nat) : Int) * 4) + (tV T L p)))]) (st' := [(0, (g 47 7)), (0, ((((t : Nat) : Int) * 4) + (tV T L p))), (2, 8)]) (g' := (am_up g 47 6 (tV T L p))) rfl ?_
        refine wp_eq (L' := [(2, 47), (0, ((((t : Nat) : Int) * 4) + (tV T L p)))]) (st' := [(0, (((300 * t + F) : Nat) : Int)), (0, ((((t : Nat) : Int) * 4) + (tV T L p))), (2, 8)]) (g' := (am_up g 47 6 (tV T L p))) ?_ (by rfl) (by first | rw [hH.2.2.2.2.2.2] | rw [up_nj (by decide), hH.2.2.2.2.2.2]) (by rfl)
        refine wp_iast (k := 8) ((4 * t + (tV T L p).toNat)) rfl rfl (by omega) (by omega) (by decide) ?_
        refine wp_n 1 (pc' := 80) (L' := [(2, 47), (0, ((((t : Nat) : Int) * 4) + (tV T L p)))]) (st' := [(2, 47)]) (g' := (am_up (am_up g 47 6 (tV T L p)) 8 ((4 * t + (tV T L p).toNat)) (((300 * t + F) : Nat) : Int))) rfl ?_
        refine wp_cv (as := [(2, 47)]) (rest := []) rfl rfl rfl (Nat.le_of_ble_eq_true rfl) rfl (e_advG hG1) (by decide) (fun r8 h9 => ?_)
        obtain ⟨g80, rfl, hG80, hF80⟩ := h9
        have hb80 := hG80.b
        have hlt80 := hG1.lt (by omega)
        have hn80 := nx_in (T := T) hG1.pl
        have hl80 := hG80.pl
        refine wp_eq (L' := [(2, 47), (0, ((((t : Nat) : Int) * 4) + (tV T L p)))]) (st' := []) (g' := g80) ?_
        refine wp_n 2 (pc' := 85) (L' := [(2, 47), (0, ((((t : Nat) : Int) * 4) + (tV T L p)))]) (st' := [(0, 0), (2, 47)]) (g' := g80) rfl ?_
        refine wp_cv (as := [(2, 47), (0, 0)]) (rest := []) rfl rfl rfl (Nat.le_of_ble_eq_true rfl) rfl (sp_sum sn sx _ T L t (tV T L p).toNat _ _ hG80 (by omega)) (by decide) (fun r10 h11 => ?_)
        rcases h11 with ⟨g85, p85, C85, rfl, hF85, hG85, hp85, hc85, hK85, hW85, hC85, hP85, hq85⟩ | ⟨x85, f85, q85, rfl, hF85, hX85, hP85⟩
        · have hb85 := hG85.b
          have hl85 := hG85.pl
          have hG97 : RdG T L t (tV T L p).toNat p85 (F + C85.length) (am_up g85 9 ((4 * t + (tV T L p).toNat)) (((300 * t + F + C85.length) : Nat) : Int)) := (hG85.h.same fun c j q => up_ne (by omega)).g ((up_ne (by decide)).trans hG85.1.2.2.1) (by omega)
          have hF97 := ((hF1.trans hF80.d.c).trans hF85.c).up (k := 9) (i := 4 * t + (tV T L p).toNat) (x := (((300 * t + F + C85.length) : Nat) : Int)) (by omega)
          have hlp85 := hG85.pl
          refine wp_eq (L' := [(2, 47), (0, ((((t : Nat) : Int) * 4) + (tV T L p)))]) (st' := []) (g' := g85) ?_
          refine wp_n 6 (pc' := 100) (L' := [(2, 47), (0, ((((t : Nat) : Int) * 4) + (tV T L p)))]) (st' := [(0, (g85 47 7)), (0, ((((t : Nat) : Int) * 4) + (tV T L p))), (2, 9)]) (g' := g85) rfl ?_
          refine wp_eq (L' := [(2, 47), (0, ((((t : Nat) : Int) * 4) + (tV T L p)))]) (st' := [(0, (((300 * t + F + C85.length) : Nat) : Int)), (0, ((((t : Nat) : Int) * 4) + (tV T L p))), (2, 9)]) (g' := g85) ?_ (by rfl) (by rw [hG85.2.2.2.2, Nat.add_assoc]) (by rfl)
          refine wp_iast (k := 9) ((4 * t + (tV T L p).toNat)) rfl rfl (by omega) (by omega) (by decide) ?_
          refine wp_n 2 (pc' := 104) (L' := [(2, 47), (0, ((((t : Nat) : Int) * 4) + (tV T L p)))]) (st' := [(0, 59), (2, 47)]) (g' := (am_up g85 9 ((4 * t + (tV T L p).toNat)) (((300 * t + F + C85.length) : Nat) : Int))) rfl ?_
          refine wp_cv (as := [(2, 47), (0, 59)]) (rest := []) rfl rfl rfl (Nat.le_of_ble_eq_true rfl) rfl (e_expG hG97 (by omega) (by decide)) (by decide) (fun r12 h13 => ?_)
          rcases h13 with ⟨g104, rfl, he104, hG104, hF104⟩ | ⟨x104, rfl, he104, hX104, hF104⟩
          · have hb104 := hG104.b
            have hlt104 := hG97.lt (by omega)
            have hn104 := nx_in (T := T) hG97.pl
            have hl104 := hG104.pl
            have hF104c := hF97.trans hF104.d.c
            refine wp_eq (L' := [(2, 47), (0, ((((t : Nat) : Int) * 4) + (tV T L p)))]) (st' := []) (g' := g104) ?_
            exact wp_ret rfl rfl rfl (Or.inl ⟨_, (tV T L p).toNat, p85, C85, rfl, hF104c, by omega, ⟨by omega, by omega, by omega, hP85, he104, by omega, hlt104, by omega, by have := hC85; exact this⟩, hG104.h, fun j hj => by rw [hF104 7 j (by omega), up_ne (by decide), hK85 j (by omega), hF80 7 j (by omega), up_ne (by decide), up_ne (by decide)], fun i hi => by rw [hF104 7 _ (by omega), up_ne (by decide)]; exact hW85 i hi, by rw [hF104 8 _ (by omega), up_ne (by decide), hF85 8 _ (by omega) (by omega), hF80 8 _ (by omega), up_eq], by rw [hF104 9 _ (by omega), up_eq], fun d hd hne => ⟨by rw [hF104 8 _ (by omega), up_ne (by decide), hF85 8 _ (by omega) (by omega), hF80 8 _ (by omega), up_nj (by omega), up_ne (by decide)], by rw [hF104 9 _ (by omega), up_nj (by omega), hF85 9 _ (by omega) (by omega), hF80 9 _ (by omega), up_ne (by decide), up_ne (by decide)]⟩⟩)
          · refine wp_eq (L' := [(2, 47), (0, ((((t : Nat) : Int) * 4) + (tV T L p)))]) (st' := []) (g' := x104) ?_
            exact wp_ret rfl rfl rfl (Or.inr ⟨_, _, _, rfl, (hF97.trans hF104.c), hX104.y, Or.inr ⟨(tV T L p).toNat, by omega, by omega, by omega, Or.inr ⟨by omega, Or.inr ⟨p85, C85, hP85, hq85, he104, rfl, rfl⟩⟩⟩⟩)
        · obtain ⟨F9, hF9, hF91, hF92⟩ := hX85.2.2.2.2
          have hX97 := hX85.same (h := (am_up x85 9 ((4 * t + (tV T L p).toNat)) ((F9 : Nat) : Int))) fun c j q => up_ne (by omega)
          have hF97 := ((hF1.trans hF80.d.c).trans hF85.c).up (k := 9) (i := 4 * t + (tV T L p).toNat) (x := ((F9 : Nat) : Int)) (by omega)
          refine wp_eq (L' := [(2, 47), (0, ((((t : Nat) : Int) * 4) + (tV T L p)))]) (st' := []) (g' := x85) ?_
          refine wp_n 6 (pc' := 100) (L' := [(2, 47), (0, ((((t : Nat) : Int) * 4) + (tV T L p)))]) (st' := [(0, (x85 47 7)), (0, ((((t : Nat) : Int) * 4) + (tV T L p))), (2, 9)]) (g' := x85) rfl ?_
          refine wp_eq (L' := [(2, 47), (0, ((((t : Nat) : Int) * 4) + (tV T L p)))]) (st' := [(0, ((F9 : Nat) : Int)), (0, ((((t : Nat) : Int) * 4) + (tV T L p))), (2, 9)]) (g' := x85) ?_ (by rfl) (by rw [hF9]) (by rfl)
          refine wp_iast (k := 9) ((4 * t + (tV T L p).toNat)) rfl rfl (by omega) (by omega) (by decide) ?_
          refine wp_n 2 (pc' := 104) (L' := [(2, 47), (0, ((((t : Nat) : Int) * 4) + (tV T L p)))]) (st' := [(0, 59), (2, 47)]) (g' := (am_up x85 9 ((4 * t + (tV T L p).toNat)) ((F9 : Nat) : Int))) rfl ?_
          refine wp_cv (as := [(2, 47), (0, 59)]) (rest := []) rfl rfl rfl (Nat.le_of_ble_eq_true rfl) rfl (e_expX hX97) (by decide) (fun r14 h15 => ?_)
          obtain rfl := h15
          refine wp_eq (L' := [(2, 47), (0, ((((t : Nat) : Int) * 4) + (tV T L p)))]) (st' := []) (g' := (am_up x85 9 ((4 * t + (tV T L p).toNat)) ((F9 : Nat) : Int))) ?_
          exact wp_ret rfl rfl rfl (Or.inr ⟨_, _, _, rfl, hF97, hX97.y, Or.inr ⟨(tV T L p).toNat, by omega, by omega, by omega, Or.inr ⟨by omega, Or.inl hP85⟩⟩⟩)
      · refine wp_n 2 (pc' := 54) (L' := [(2, 47), (0, ((((t : Nat) : Int) * 4) + (tV T L p)))]) (st' := [(0, 4), (2, 47)]) (g' := g) rfl ?_
        refine wp_cv (as := [(2, 47), (0, 4)]) (rest := []) rfl rfl rfl (Nat.le_of_ble_eq_true rfl) rfl (e_refuseH (f := 4) hH (by omega)) (by decide) (fun r16 h17 => ?_)
        obtain rfl := h17
        refine wp_eq (L' := [(2, 47), (0, ((((t : Nat) : Int) * 4) + (tV T L p)))]) (st' := []) (g' := (am_up (am_up g 47 2 4) 47 3 ((p : Nat) : Int))) ?_
        exact wp_ret rfl rfl rfl (Or.inr ⟨_, 4, p, rfl, (FrCt.rfl.up (by omega)).up (by omega), hH.y (by decide), Or.inr ⟨(tV T L p).toNat, by omega, by omega, by omega, Or.inl ⟨by omega, rfl, rfl⟩⟩⟩)
    · refine wp_eq (L' := [(2, 47), (9, 0)]) (st' := [(0, 0)]) (g' := g) ?_
      refine wp_n 3 (pc' := 23) (L' := [(2, 47), (9, 0)]) (st' := [(0, 1), (2, 47)]) (g' := g) rfl ?_
      refine wp_cv (as := [(2, 47), (0, 1)]) (rest := []) rfl rfl rfl (Nat.le_of_ble_eq_true rfl) rfl (e_refuseH (f := 1) hH (by omega)) (by decide) (fun r18 h19 => ?_)
      obtain rfl := h19
      refine wp_eq (L' := [(2, 47), (9, 0)]) (st' := []) (g' := (am_up (am_up g 47 2 1) 47 3 ((p : Nat) : Int))) ?_
      exact wp_ret rfl rfl rfl (Or.inr ⟨_, 1, p, rfl, (FrCt.rfl.up (by omega)).up (by omega), hH.y (by decide), Or.inl ⟨hke, by omega, rfl, rfl⟩⟩)
