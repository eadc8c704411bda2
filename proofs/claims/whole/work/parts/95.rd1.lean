/-! THE CLASS'S READER: its state, and the small methods -/
def RdS (T : Nat → Int) (L t k : Nat) (h : am_G) : Prop := RdT T L h ∧ h 47 5 = (t : Int) ∧ h 47 6 = (k : Int) ∧ t < 6 ∧ k < 4
/-- no fault yet: at token p, F codes put -/
def RdG (T : Nat → Int) (L t k p F : Nat) (h : am_G) : Prop := RdS T L t k h ∧ (h 47 2 = 0 ∧ h 47 3 = -1) ∧ TkC T L h p ∧ p ≤ L ∧ h 47 7 = ((300 * t + F : Nat) : Int)
/-- a fault f at q -/
def RdX (T : Nat → Int) (L t k f q : Nat) (h : am_G) : Prop := RdS T L t k h ∧ h 47 2 = (f : Int) ∧ (1 ≤ f ∧ f ≤ 5) ∧ h 47 3 = (q : Int) ∧ ∃ F : Nat, h 47 7 = (F : Int) ∧ 300 * t ≤ F ∧ F ≤ 1800
def FrDt (t : Nat) (g h : am_G) : Prop := ∀ c j, (c ≠ 47 ∨ j < 2 ∨ (4 ≤ j ∧ j ≤ 6)) → (c ≠ 7 ∨ j < 300 * t) → h c j = g c j
def CdK (t F : Nat) (g h : am_G) : Prop := ∀ j, j < 300 * t + F → h 7 j = g 7 j
def CdW (t F : Nat) (C : List Int) (h : am_G) : Prop := ∀ i, i < C.length → h 7 (300 * t + F + i) = C.getD i 0
theorem FrDt.rfl {t : Nat} {g : am_G} : FrDt t g g := fun _ _ _ _ => Eq.refl _
theorem FrDt.trans {t : Nat} {g h i : am_G} (h1 : FrDt t g h) (h2 : FrDt t h i) : FrDt t g i := fun c j a b => (h2 c j a b).trans (h1 c j a b)
theorem FrDt.up {t k i : Nat} {x : Int} {g h : am_G} (h1 : FrDt t g h) (hk : (k = 47 ∧ (i = 2 ∨ i = 3 ∨ 7 ≤ i)) ∨ (k = 7 ∧ 300 * t ≤ i)) : FrDt t g (am_up h k i x) := fun c j a b => (up_no (by omega)).trans (h1 c j a b)
theorem FrTk.d {t : Nat} {g h : am_G} (h1 : FrTk g h) : FrDt t g h := fun c j a b => h1 c j (by omega)
theorem CdK.rfl {t F : Nat} {g : am_G} : CdK t F g g := fun _ _ => Eq.refl _
theorem CdK.trans {t F F' : Nat} {g h i : am_G} (h1 : CdK t F g h) (h2 : CdK t F' h i) (hF : F ≤ F') : CdK t F g i := fun j hj => (h2 j (by omega)).trans (h1 j hj)
theorem FrTk.k {t F : Nat} {g h : am_G} (h1 : FrTk g h) : CdK t F g h := fun j _ => h1 7 j (by omega)
theorem CdW.keep {t F F' : Nat} {C : List Int} {g h : am_G} (h1 : CdW t F C g) (h2 : CdK t F' g h) (hF : F + C.length ≤ F') : CdW t F C h := fun i hi => (h2 _ (by omega)).trans (h1 i hi)
theorem CdW.app {t F : Nat} {C D : List Int} {g : am_G} (h1 : CdW t F C g) (h2 : CdW t (F + C.length) D g) : CdW t F (C ++ D) g := by
  intro i hi
  rw [List.length_append] at hi
  rw [List.getD_eq_getElem?_getD, List.getElem?_append]
  by_cases q : i < C.length
  · rw [if_pos q, ← List.getD_eq_getElem?_getD]; exact h1 i q
  · rw [if_neg q, ← List.getD_eq_getElem?_getD, ← h2 (i - C.length) (by omega), show 300 * t + (F + C.length) + (i - C.length) = 300 * t + F + i by omega]
theorem CdW.nil {t F : Nat} {g : am_G} : CdW t F [] g := fun i hi => absurd hi (Nat.not_lt_zero _)
theorem RdS.fr {T : Nat → Int} {L t k : Nat} {g h : am_G} (hS : RdS T L t k g) (hF : FrDt t g h) : RdS T L t k h := by
  obtain ⟨h1, h2, h3, h4⟩ := hS
  exact ⟨⟨(funext fun j => hF 48 j (by omega) (by omega)).trans h1.1, (hF 47 1 (by omega) (by omega)).trans h1.2.1, h1.2.2⟩, (hF 47 5 (by omega) (by omega)).trans h2, (hF 47 6 (by omega) (by omega)).trans h3, h4⟩
theorem RdG.k {T : Nat → Int} {L t k p F : Nat} {h : am_G} (hG : RdG T L t k p F h) : h 47 9 = tK T L p := hG.2.2.1.2.1
theorem RdG.v {T : Nat → Int} {L t k p F : Nat} {h : am_G} (hG : RdG T L t k p F h) (hk : tK T L p = -2 ∨ tK T L p = -3) : h 47 11 = tV T L p := hG.2.2.1.2.2.2 hk
theorem RdG.f {T : Nat → Int} {L t k p F : Nat} {h : am_G} (hG : RdG T L t k p F h) : h 47 2 = 0 := hG.2.1.1
theorem RdG.pl {T : Nat → Int} {L t k p F : Nat} {h : am_G} (hG : RdG T L t k p F h) : p ≤ L := hG.2.2.2.1
theorem RdG.l3 {T : Nat → Int} {L t k p F : Nat} {h : am_G} (hG : RdG T L t k p F h) : L ≤ 300 := hG.1.1.2.2.1
theorem RdG.b {T : Nat → Int} {L t k p F : Nat} {h : am_G} (hG : RdG T L t k p F h) : -4 ≤ tK T L p ∧ tK T L p ≤ 59 := tK_in hG.1.1.2.2.2
theorem RdG.vb {T : Nat → Int} {L t k p F : Nat} {h : am_G} (hG : RdG T L t k p F h) : -1 ≤ tV T L p ∧ tV T L p ≤ 10000 := tV_in hG.pl
theorem RdG.lt {T : Nat → Int} {L t k p F : Nat} {h : am_G} (hG : RdG T L t k p F h) (hk : tK T L p ≠ -1) : p < L := tK_end hG.pl hk
theorem RdX.f {T : Nat → Int} {L t k f q : Nat} {h : am_G} (hX : RdX T L t k f q h) : h 47 2 = (f : Int) := hX.2.1
theorem RdX.b {T : Nat → Int} {L t k f q : Nat} {h : am_G} (hX : RdX T L t k f q h) : 1 ≤ f ∧ f ≤ 5 := hX.2.2.1
set_option maxHeartbeats 400000 in
set_option maxRecDepth 20000 in
theorem e_refuseG {sn : Nat} {sx : Nat → Int} {g : am_G} {T : Nat → Int} {L t k p F f : Nat} (hG : RdG T L t k p F g) (hf : 1 ≤ f ∧ f ≤ 5) (hF : F ≤ 300) : Ev sn sx 1 69 [(2, 47), (0, ((f : Nat) : Int))] (SH 7) g (fun r => ∃ g', r = (none, SH 7, g') ∧ RdX T L t k f p g' ∧ FrDt t g g') := by
  have hFr : FrDt t g (am_up (am_up g 47 2 (f : Int)) 47 3 (am_up g 47 2 (f : Int) 47 10)) := (FrDt.rfl.up (by omega)).up (by omega)
  refine ev_of (K := 0) T69 (by decide) rfl rfl (Nat.le_of_ble_eq_true rfl) ?_
  refine wp_eq (L' := [(2, 47), (0, ((f : Nat) : Int))]) (st' := []) (g' := g) ?_
  refine wp_n 2 (pc' := 4) (L' := [(2, 47), (0, ((f : Nat) : Int))]) (st' := [(0, (g 47 2))]) (g' := g) rfl ?_
  refine wp_eq (L' := [(2, 47), (0, ((f : Nat) : Int))]) (st' := [(0, 0)]) (g' := g) ?_ (by rfl) (by rw [hG.f]) (by rfl)
  refine wp_n 8 (pc' := 20) (L' := [(2, 47), (0, ((f : Nat) : Int))]) (st' := []) (g' := (am_up (am_up g 47 2 ((f : Nat) : Int)) 47 3 (g 47 10))) rfl ?_
  exact wp_ret rfl rfl rfl ⟨_, rfl, ⟨hG.1.fr hFr, (up_nj (by decide)).trans up_eq, hf, up_eq.trans hG.2.2.1.1, 300 * t + F, (up_nj (by decide)).trans ((up_nj (by decide)).trans hG.2.2.2.2), by omega, by have := hG.1.2.2.2.1; omega⟩, hFr⟩
set_option maxHeartbeats 400000 in
set_option maxRecDepth 20000 in
theorem e_refuseX {sn : Nat} {sx : Nat → Int} {g : am_G} {T : Nat → Int} {L t k e q f : Nat} (hX : RdX T L t k e q g) : Ev sn sx 1 69 [(2, 47), (0, ((f : Nat) : Int))] (SH 7) g (fun r => r = (none, SH 7, g)) := by
  have hb := hX.b
  refine ev_of (K := 0) T69 (by decide) rfl rfl (Nat.le_of_ble_eq_true rfl) ?_
  refine wp_eq (L' := [(2, 47), (0, ((f : Nat) : Int))]) (st' := []) (g' := g) ?_
  refine wp_n 2 (pc' := 4) (L' := [(2, 47), (0, ((f : Nat) : Int))]) (st' := [(0, (g 47 2))]) (g' := g) rfl ?_
  refine wp_eq (L' := [(2, 47), (0, ((f : Nat) : Int))]) (st' := [(0, ((e : Nat) : Int))]) (g' := g) ?_ (by rfl) (by rw [hX.f]) (by rfl)
  refine wp_if_ne rfl (fun c1 => ?_) (fun c1 => ?_)
  · exact wp_ret rfl rfl rfl rfl
  · exfalso; omega
set_option maxHeartbeats 400000 in
set_option maxRecDepth 20000 in
theorem e_putG {sn : Nat} {sx : Nat → Int} {g : am_G} {T : Nat → Int} {L t k p F : Nat} {c : Int} (hG : RdG T L t k p F g) (hF : F < 300) : Ev sn sx 2 70 [(2, 47), (0, c)] (SH 7) g (fun r => ∃ g', r = (none, SH 7, g') ∧ RdG T L t k p (F + 1) g' ∧ FrDt t g g' ∧ CdK t F g g' ∧ CdW t F [c] g') := by
  have ht := hG.1.2.2.2.1
  have hfl := hG.2.2.2.2
  have hFr : FrDt t g (am_up (am_up g 7 (300 * t + F) c) 47 7 (((300 * t + F : Nat) : Int) + 1)) := (FrDt.rfl.up (by omega)).up (by omega)
  refine ev_of (K := 1) T70 (by decide) rfl rfl (Nat.le_of_ble_eq_true rfl) ?_
  refine wp_eq (L' := [(2, 47), (0, c)]) (st' := []) (g' := g) ?_
  refine wp_n 2 (pc' := 4) (L' := [(2, 47), (0, c)]) (st' := [(0, (g 47 7))]) (g' := g) rfl ?_
  refine wp_eq (L' := [(2, 47), (0, c)]) (st' := [(0, (((300 * t + F) : Nat) : Int))]) (g' := g) ?_ (by rfl) (by rw [hfl]) (by rfl)
  refine wp_n 7 (pc' := 15) (L' := [(2, 47), (0, c)]) (st' := [(0, (1800 - 1)), (0, 0), (0, (((300 * t + F) : Nat) : Int))]) (g' := g) rfl ?_
  refine wp_cs (as := [(0, (((300 * t + F) : Nat) : Int)), (0, 0), (0, (1800 - 1))]) (rest := []) rfl (by decide) rfl (Nat.le_of_ble_eq_true rfl) (e_within (by omega) (by omega) (by omega)) (by decide) (fun r2 h3 => ?_)
  rcases h3 with ⟨rfl, p1⟩ | ⟨rfl, p1⟩
  · refine wp_eq (L' := [(2, 47), (0, c)]) (st' := [(0, 1)]) (g' := g) ?_
    refine wp_n 6 (pc' := 32) (L' := [(2, 47), (0, c)]) (st' := [(0, (g 47 7)), (2, 7)]) (g' := g) rfl ?_
    refine wp_eq (L' := [(2, 47), (0, c)]) (st' := [(0, (((300 * t + F) : Nat) : Int)), (2, 7)]) (g' := g) ?_ (by rfl) (by rw [hfl]) (by rfl)
    refine wp_n 1 (pc' := 33) (L' := [(2, 47), (0, c)]) (st' := [(0, c), (0, (((300 * t + F) : Nat) : Int)), (2, 7)]) (g' := g) rfl ?_
    refine wp_iast (k := 7) ((300 * t + F)) rfl rfl (by omega) (by omega) (by decide) ?_
    refine wp_n 3 (pc' := 39) (L' := [(2, 47), (0, c)]) (st' := [(0, (g 47 7)), (2, 47)]) (g' := (am_up g 7 ((300 * t + F)) c)) rfl ?_
    refine wp_eq (L' := [(2, 47), (0, c)]) (st' := [(0, (((300 * t + F) : Nat) : Int)), (2, 47)]) (g' := (am_up g 7 ((300 * t + F)) c)) ?_ (by rfl) (by first | rw [hfl] | rw [up_ne (by decide), hfl]) (by rfl)
    refine wp_n 3 (pc' := 44) (L' := [(2, 47), (0, c)]) (st' := []) (g' := (am_up (am_up g 7 ((300 * t + F)) c) 47 7 ((((300 * t + F) : Nat) : Int) + 1))) rfl ?_
    exact wp_ret rfl rfl rfl ⟨_, rfl, ⟨hG.1.fr hFr, ⟨(up_nj (by decide)).trans ((up_ne (by decide)).trans hG.f), (up_nj (by decide)).trans ((up_ne (by decide)).trans hG.2.1.2)⟩, ⟨(up_nj (by decide)).trans ((up_ne (by decide)).trans hG.2.2.1.1), (up_nj (by decide)).trans ((up_ne (by decide)).trans hG.2.2.1.2.1), (up_nj (by decide)).trans ((up_ne (by decide)).trans hG.2.2.1.2.2.1), fun q => (up_nj (by decide)).trans ((up_ne (by decide)).trans (hG.2.2.1.2.2.2 q))⟩, hG.pl, by rw [up_eq]; omega⟩, hFr, fun j hj => (up_ne (by decide)).trans (up_nj (by omega)), fun i hi => by
        obtain rfl : i = 0 := by (have : i < 1 := hi; omega)
        exact (up_ne (by decide)).trans up_eq⟩
  · exfalso; omega
set_option maxHeartbeats 400000 in
set_option maxRecDepth 20000 in
theorem e_putX {sn : Nat} {sx : Nat → Int} {g : am_G} {T : Nat → Int} {L t k f q : Nat} {c : Int} (hX : RdX T L t k f q g) : Ev sn sx 2 70 [(2, 47), (0, c)] (SH 7) g (fun r => ∃ g', r = (none, SH 7, g') ∧ RdX T L t k f q g' ∧ FrDt t g g') := by
  obtain ⟨F, hfl, hF1, hF2⟩ := hX.2.2.2.2
  have hFr : FrDt t g (am_up (am_up g 7 F c) 47 7 (((F : Nat) : Int) + 1)) := (FrDt.rfl.up (by omega)).up (by omega)
  refine ev_of (K := 1) T70 (by decide) rfl rfl (Nat.le_of_ble_eq_true rfl) ?_
  refine wp_eq (L' := [(2, 47), (0, c)]) (st' := []) (g' := g) ?_
  refine wp_n 2 (pc' := 4) (L' := [(2, 47), (0, c)]) (st' := [(0, (g 47 7))]) (g' := g) rfl ?_
  refine wp_eq (L' := [(2, 47), (0, c)]) (st' := [(0, ((F : Nat) : Int))]) (g' := g) ?_ (by rfl) (by rw [hfl]) (by rfl)
  refine wp_n 7 (pc' := 15) (L' := [(2, 47), (0, c)]) (st' := [(0, (1800 - 1)), (0, 0), (0, ((F : Nat) : Int))]) (g' := g) rfl ?_
  refine wp_cs (as := [(0, ((F : Nat) : Int)), (0, 0), (0, (1800 - 1))]) (rest := []) rfl (by decide) rfl (Nat.le_of_ble_eq_true rfl) (e_within (by omega) (by omega) (by omega)) (by decide) (fun r2 h3 => ?_)
  rcases h3 with ⟨rfl, p1⟩ | ⟨rfl, p1⟩
  · refine wp_eq (L' := [(2, 47), (0, c)]) (st' := [(0, 1)]) (g' := g) ?_
    refine wp_n 6 (pc' := 32) (L' := [(2, 47), (0, c)]) (st' := [(0, (g 47 7)), (2, 7)]) (g' := g) rfl ?_
    refine wp_eq (L' := [(2, 47), (0, c)]) (st' := [(0, ((F : Nat) : Int)), (2, 7)]) (g' := g) ?_ (by rfl) (by rw [hfl]) (by rfl)
    refine wp_n 1 (pc' := 33) (L' := [(2, 47), (0, c)]) (st' := [(0, c), (0, ((F : Nat) : Int)), (2, 7)]) (g' := g) rfl ?_
    refine wp_iast (k := 7) (F) rfl rfl (by omega) (by omega) (by decide) ?_
    refine wp_n 3 (pc' := 39) (L' := [(2, 47), (0, c)]) (st' := [(0, (g 47 7)), (2, 47)]) (g' := (am_up g 7 F c)) rfl ?_
    refine wp_eq (L' := [(2, 47), (0, c)]) (st' := [(0, ((F : Nat) : Int)), (2, 47)]) (g' := (am_up g 7 F c)) ?_ (by rfl) (by first | rw [hfl] | rw [up_ne (by decide), hfl]) (by rfl)
    refine wp_n 3 (pc' := 44) (L' := [(2, 47), (0, c)]) (st' := []) (g' := (am_up (am_up g 7 F c) 47 7 (((F : Nat) : Int) + 1))) rfl ?_
    exact wp_ret rfl rfl rfl ⟨_, rfl, ⟨hX.1.fr hFr, (up_nj (by decide)).trans ((up_ne (by decide)).trans hX.f), hX.b, (up_nj (by decide)).trans ((up_ne (by decide)).trans hX.2.2.2.1), F + 1, by rw [up_eq]; rfl, by omega, by omega⟩, hFr⟩
  · refine wp_eq (L' := [(2, 47), (0, c)]) (st' := [(0, 0)]) (g' := g) ?_
    refine wp_n 1 (pc' := 44) (L' := [(2, 47), (0, c)]) (st' := []) (g' := g) rfl ?_
    exact wp_ret rfl rfl rfl ⟨_, rfl, hX, FrDt.rfl⟩
theorem e_advG {sn : Nat} {sx : Nat → Int} {g : am_G} {T : Nat → Int} {L t k p F : Nat} (hG : RdG T L t k p F g) : Ev sn sx 9 71 [(2, 47)] (SH 7) g (fun r => ∃ g', r = (none, SH 7, g') ∧ RdG T L t k (nx T L p) F g' ∧ FrTk g g') := (e_advance (T := T) (L := L) hG.1.1 hG.2.2.1.2.2.1 (tE_in hG.pl).2.1).mono fun r h => by
  obtain ⟨g', h1, h2, h3⟩ := h
  exact ⟨g', h1, ⟨hG.1.fr h3.d, ⟨(h3 47 2 (by omega)).trans hG.f, (h3 47 3 (by omega)).trans hG.2.1.2⟩, h2, (nx_in hG.pl).2.1, (h3 47 7 (by omega)).trans hG.2.2.2.2⟩, h3⟩
set_option maxHeartbeats 400000 in
set_option maxRecDepth 20000 in
theorem e_expG {sn : Nat} {sx : Nat → Int} {g : am_G} {T : Nat → Int} {L t k p F : Nat} {s : Int} (hG : RdG T L t k p F g) (hF : F ≤ 300) (hs : R32 s) : Ev sn sx 10 68 [(2, 47), (0, s)] (SH 7) g (fun r => (∃ g', r = (none, SH 7, g') ∧ tK T L p = s ∧ RdG T L t k (nx T L p) F g' ∧ FrTk g g') ∨ (∃ g', r = (none, SH 7, g') ∧ tK T L p ≠ s ∧ RdX T L t k 1 p g' ∧ FrDt t g g')) := by
  have hb := hG.b
  have hs1 : -2147483648 ≤ s ∧ s < 2147483648 := hs
  refine ev_of (K := 9) T68 (by decide) rfl rfl (Nat.le_of_ble_eq_true rfl) ?_
  refine wp_eq (L' := [(2, 47), (0, s)]) (st' := []) (g' := g) ?_
  refine wp_n 2 (pc' := 4) (L' := [(2, 47), (0, s)]) (st' := [(0, (g 47 9))]) (g' := g) rfl ?_
  refine wp_eq (L' := [(2, 47), (0, s)]) (st' := [(0, (tK T L p))]) (g' := g) ?_ (by rfl) (by rw [hG.k]) (by rfl)
  refine wp_n 1 (pc' := 5) (L' := [(2, 47), (0, s)]) (st' := [(0, s), (0, (tK T L p))]) (g' := g) rfl ?_
  refine wp_ic_eq rfl (fun c1 => ?_) (fun c1 => ?_)
  · refine wp_n 2 (pc' := 20) (L' := [(2, 47), (0, s)]) (st' := [(0, (g 47 2))]) (g' := g) rfl ?_
    refine wp_eq (L' := [(2, 47), (0, s)]) (st' := [(0, 0)]) (g' := g) ?_ (by rfl) (by rw [hG.f]) (by rfl)
    refine wp_n 2 (pc' := 24) (L' := [(2, 47), (0, s)]) (st' := [(2, 47)]) (g' := g) rfl ?_
    refine wp_cv (as := [(2, 47)]) (rest := []) rfl rfl rfl (Nat.le_of_ble_eq_true rfl) rfl (e_advG hG) (by decide) (fun r2 h3 => ?_)
    obtain ⟨g24, rfl, hG24, hF24⟩ := h3
    refine wp_eq (L' := [(2, 47), (0, s)]) (st' := []) (g' := g24) ?_
    exact wp_ret rfl rfl rfl (Or.inl ⟨_, rfl, by omega, hG24, hF24⟩)
  · refine wp_n 2 (pc' := 10) (L' := [(2, 47), (0, s)]) (st' := [(0, 1), (2, 47)]) (g' := g) rfl ?_
    refine wp_cv (as := [(2, 47), (0, 1)]) (rest := []) rfl rfl rfl (Nat.le_of_ble_eq_true rfl) rfl (e_refuseG (f := 1) hG (by omega) (by omega)) (by decide) (fun r4 h5 => ?_)
    obtain ⟨g10, rfl, hX10, hF10⟩ := h5
    refine wp_eq (L' := [(2, 47), (0, s)]) (st' := []) (g' := g10) ?_
    refine wp_n 1 (pc' := 27) (L' := [(2, 47), (0, s)]) (st' := []) (g' := g10) rfl ?_
    exact wp_ret rfl rfl rfl (Or.inr ⟨_, rfl, by omega, hX10, hF10⟩)
set_option maxHeartbeats 400000 in
set_option maxRecDepth 20000 in
theorem e_expX {sn : Nat} {sx : Nat → Int} {g : am_G} {T : Nat → Int} {L t k f q : Nat} {s : Int} (hX : RdX T L t k f q g) : Ev sn sx 10 68 [(2, 47), (0, s)] (SH 7) g (fun r => r = (none, SH 7, g)) := by
  have hb := hX.b
  refine ev_of (K := 9) T68 (by decide) rfl rfl (Nat.le_of_ble_eq_true rfl) ?_
  refine wp_eq (L' := [(2, 47), (0, s)]) (st' := []) (g' := g) ?_
  refine wp_n 3 (pc' := 5) (L' := [(2, 47), (0, s)]) (st' := [(0, s), (0, (g 47 9))]) (g' := g) rfl ?_
  refine wp_ic_eq rfl (fun c1 => ?_) (fun c1 => ?_)
  · refine wp_n 2 (pc' := 20) (L' := [(2, 47), (0, s)]) (st' := [(0, (g 47 2))]) (g' := g) rfl ?_
    refine wp_eq (L' := [(2, 47), (0, s)]) (st' := [(0, ((f : Nat) : Int))]) (g' := g) ?_ (by rfl) (by rw [hX.f]) (by rfl)
    refine wp_if_ne rfl (fun c2 => ?_) (fun c2 => ?_)
    · exact wp_ret rfl rfl rfl rfl
    · exfalso; omega
  · refine wp_n 2 (pc' := 10) (L' := [(2, 47), (0, s)]) (st' := [(0, 1), (2, 47)]) (g' := g) rfl ?_
    refine wp_cv (as := [(2, 47), (0, 1)]) (rest := []) rfl rfl rfl (Nat.le_of_ble_eq_true rfl) rfl (e_refuseX (f := 1) hX) (by decide) (fun r3 h4 => ?_)
    obtain rfl := h4
    refine wp_eq (L' := [(2, 47), (0, s)]) (st' := []) (g' := g) ?_
    refine wp_n 1 (pc' := 27) (L' := [(2, 47), (0, s)]) (st' := []) (g' := g) rfl ?_
    exact wp_ret rfl rfl rfl rfl
set_option maxHeartbeats 400000 in
set_option maxRecDepth 20000 in
theorem e_mayOpen {sn : Nat} {sx : Nat → Int} {g : am_G} {T : Nat → Int} {L t k p F n : Nat} (hG : RdG T L t k p F g) (hF : F ≤ 300) (hn : n ≤ 8) : Ev sn sx 2 67 [(2, 47), (0, ((n : Nat) : Int))] (SH 7) g (fun r => (r = (some (0, 1), SH 7, g) ∧ n < 8) ∨ (∃ g', r = (some (0, 0), SH 7, g') ∧ n = 8 ∧ RdX T L t k 3 p g' ∧ FrDt t g g')) := by
  refine ev_of (K := 1) T67 (by decide) rfl rfl (Nat.le_of_ble_eq_true rfl) ?_
  refine wp_eq (L' := [(2, 47), (0, ((n : Nat) : Int))]) (st' := []) (g' := g) ?_
  refine wp_n 2 (pc' := 3) (L' := [(2, 47), (0, ((n : Nat) : Int))]) (st' := [(0, 8), (0, ((n : Nat) : Int))]) (g' := g) rfl ?_
  refine wp_ic_lt rfl (fun c1 => ?_) (fun c1 => ?_)
  · refine wp_n 1 (pc' := 14) (L' := [(2, 47), (0, ((n : Nat) : Int))]) (st' := [(0, 1)]) (g' := g) rfl ?_
    exact wp_ret rfl rfl rfl (Or.inl ⟨rfl, by omega⟩)
  · refine wp_n 2 (pc' := 8) (L' := [(2, 47), (0, ((n : Nat) : Int))]) (st' := [(0, 3), (2, 47)]) (g' := g) rfl ?_
    refine wp_cv (as := [(2, 47), (0, 3)]) (rest := []) rfl rfl rfl (Nat.le_of_ble_eq_true rfl) rfl (e_refuseG (f := 3) hG (by omega) (by omega)) (by decide) (fun r2 h3 => ?_)
    obtain ⟨g8, rfl, hX8, hF8⟩ := h3
    refine wp_eq (L' := [(2, 47), (0, ((n : Nat) : Int))]) (st' := []) (g' := g8) ?_
    refine wp_n 1 (pc' := 12) (L' := [(2, 47), (0, ((n : Nat) : Int))]) (st' := [(0, 0)]) (g' := g8) rfl ?_
    exact wp_ret rfl rfl rfl (Or.inr ⟨_, rfl, by omega, hX8, hF8⟩)
set_option maxHeartbeats 400000 in
set_option maxRecDepth 20000 in
theorem e_readNumber {sn : Nat} {sx : Nat → Int} {g : am_G} {T : Nat → Int} {L t k p F : Nat} (hG : RdG T L t k p F g) (hF : F < 300) (hk : tK T L p = -3) : Ev sn sx 10 64 [(2, 47)] (SH 7) g (fun r => (∃ g', r = (none, SH 7, g') ∧ tV T L p ≤ 9999 ∧ RdG T L t k (nx T L p) (F + 1) g' ∧ FrDt t g g' ∧ CdK t F g g' ∧ CdW t F [tV T L p] g') ∨ (∃ g', r = (none, SH 7, g') ∧ 9999 < tV T L p ∧ RdX T L t k 2 p g' ∧ FrDt t g g')) := by
  have hb := hG.vb
  refine ev_of (K := 9) T64 (by decide) rfl rfl (Nat.le_of_ble_eq_true rfl) ?_
  refine wp_eq (L' := [(2, 47)]) (st' := []) (g' := g) ?_
  refine wp_n 2 (pc' := 4) (L' := [(2, 47)]) (st' := [(0, (g 47 11))]) (g' := g) rfl ?_
  refine wp_eq (L' := [(2, 47)]) (st' := [(0, (tV T L p))]) (g' := g) ?_ (by rfl) (by rw [hG.v (Or.inr hk)]) (by rfl)
  refine wp_n 1 (pc' := 7) (L' := [(2, 47)]) (st' := [(0, 9999), (0, (tV T L p))]) (g' := g) rfl ?_
  refine wp_ic_le rfl (fun c1 => ?_) (fun c1 => ?_)
  · refine wp_n 3 (pc' := 21) (L' := [(2, 47)]) (st' := [(0, (g 47 11)), (2, 47)]) (g' := g) rfl ?_
    refine wp_eq (L' := [(2, 47)]) (st' := [(0, (tV T L p)), (2, 47)]) (g' := g) ?_ (by rfl) (by rw [hG.v (Or.inr hk)]) (by rfl)
    refine wp_cv (as := [(2, 47), (0, (tV T L p))]) (rest := []) rfl rfl rfl (Nat.le_of_ble_eq_true rfl) rfl (e_putG hG (by omega)) (by decide) (fun r2 h3 => ?_)
    obtain ⟨g21, rfl, hG21, hF21, hK21, hW21⟩ := h3
    refine wp_eq (L' := [(2, 47)]) (st' := []) (g' := g21) ?_
    refine wp_n 1 (pc' := 25) (L' := [(2, 47)]) (st' := [(2, 47)]) (g' := g21) rfl ?_
    refine wp_cv (as := [(2, 47)]) (rest := []) rfl rfl rfl (Nat.le_of_ble_eq_true rfl) rfl (e_advG hG21) (by decide) (fun r4 h5 => ?_)
    obtain ⟨g25, rfl, hG25, hF25⟩ := h5
    refine wp_eq (L' := [(2, 47)]) (st' := []) (g' := g25) ?_
    exact wp_ret rfl rfl rfl (Or.inl ⟨_, rfl, by omega, hG25, hF21.trans hF25.d, hK21.trans hF25.k (Nat.le_refl _), hW21.keep (hF25.k (F := F + 1)) (Nat.le_refl _)⟩)
  · refine wp_n 2 (pc' := 12) (L' := [(2, 47)]) (st' := [(0, 2), (2, 47)]) (g' := g) rfl ?_
    refine wp_cv (as := [(2, 47), (0, 2)]) (rest := []) rfl rfl rfl (Nat.le_of_ble_eq_true rfl) rfl (e_refuseG (f := 2) hG (by omega) (by omega)) (by decide) (fun r6 h7 => ?_)
    obtain ⟨g12, rfl, hX12, hF12⟩ := h7
    refine wp_eq (L' := [(2, 47)]) (st' := []) (g' := g12) ?_
    exact wp_ret rfl rfl rfl (Or.inr ⟨_, rfl, by omega, hX12, hF12⟩)
