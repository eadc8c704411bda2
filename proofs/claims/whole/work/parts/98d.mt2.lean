/-! THE REFERENCE'S READER: the pile -/
theorem tkM_or {T : Nat → Int} {L p : Nat} (hT : ∀ j, j < L → 0 ≤ T j ∧ T j ≤ 255) : (tK T L p = -1 ∧ tkM (tK T L p) = 0) ∨ (tK T L p = -3 ∧ tkM (tK T L p) = 1) ∨ (tK T L p = -2 ∧ tkM (tK T L p) = 2) ∨ (tK T L p = -4 ∧ tkM (tK T L p) = 3) ∨ (40 ≤ tK T L p ∧ tK T L p ≤ 59 ∧ tkM (tK T L p) = tK T L p) := by
  have h : tK T L p = -1 ∨ tK T L p = -3 ∨ tK T L p = -2 ∨ tK T L p = -4 ∨ (40 ≤ tK T L p ∧ tK T L p ≤ 59) := by
    unfold tK
    split
    · omega
    · split
      · omega
      · split
        · omega
        · split <;> omega
  rcases h with q | q | q | q | q
  · rw [q]; exact Or.inl ⟨rfl, rfl⟩
  · rw [q]; exact Or.inr (Or.inl ⟨rfl, rfl⟩)
  · rw [q]; exact Or.inr (Or.inr (Or.inl ⟨rfl, rfl⟩))
  · rw [q]; exact Or.inr (Or.inr (Or.inr (Or.inl ⟨rfl, rfl⟩)))
  · exact Or.inr (Or.inr (Or.inr (Or.inr ⟨q.1, q.2, tkM_sg q.1⟩)))
def wf : List Nat → Prop
  | [] => True
  | o :: t => wf t ∧ ((2 ≤ o ∧ o ≤ 6) ∨ (40 ≤ o ∧ o ≤ 44)) ∧ t.length + 1 ≤ 3 * opn (o :: t) + (if o = 2 ∨ 40 ≤ o then 0 else if o < 5 then 1 else 2)
theorem wf.len {σ : List Nat} (h : wf σ) : σ.length ≤ 3 * opn σ + 2 := by
  cases σ with
  | nil => exact Nat.zero_le _
  | cons o t =>
    have h3 := h.2.2
    show t.length + 1 ≤ _
    split at h3
    · omega
    · split at h3 <;> omega
theorem wf.opener {σ : List Nat} {o : Nat} (h : wf σ) (ho : o = 2 ∨ (40 ≤ o ∧ o ≤ 44)) : wf (o :: σ) := by
  have := h.len
  refine ⟨h, by omega, ?_⟩
  rw [if_pos (by omega), opn_y (by omega)]
  omega
theorem wf.stl {l : Nat} (hl : 3 ≤ l) : ∀ σ, wf σ → wf (stl l σ) ∧ opn (stl l σ) = opn σ := by
  intro σ
  induction σ with
  | nil => intro h; exact ⟨h, rfl⟩
  | cons o t ih =>
    intro h
    by_cases q : o < 40 ∧ l ≤ o
    · rw [stl_y q, opn_n (by omega)]; exact ih h.1
    · rw [stl_n q]; exact ⟨h, rfl⟩
theorem stl_top {l : Nat} : ∀ σ : List Nat, wf σ → stl l σ = [] ∨ ∃ o t, stl l σ = o :: t ∧ ¬ (o < 40 ∧ l ≤ o) := by
  intro σ
  induction σ with
  | nil => intro _; exact Or.inl rfl
  | cons o t ih =>
    intro h
    by_cases q : o < 40 ∧ l ≤ o
    · rw [stl_y q]; exact ih h.1
    · rw [stl_n q]; exact Or.inr ⟨o, t, rfl, q⟩
theorem wf_op {σ : List Nat} {o l : Nat} (h : wf σ) (ho : (l = 3 ∧ (o = 3 ∨ o = 4)) ∨ (l = 5 ∧ (o = 5 ∨ o = 6))) : wf (o :: stl l σ) := by
  have h1 := wf.stl (l := l) (by omega) σ h
  refine ⟨h1.1, by omega, ?_⟩
  rw [if_neg (by omega), opn_n (by omega)]
  rcases stl_top (l := l) σ h with e | ⟨x, τ, e, hx⟩
  · rw [e]; show 0 + 1 ≤ _; split <;> omega
  · have h2 := h1.1
    rw [e] at h2 ⊢
    have h3 := h2.2.2
    have h4 := h2.2.1
    show τ.length + 1 + 1 ≤ _
    by_cases q : x = 2 ∨ 40 ≤ x
    · rw [if_pos q] at h3; split <;> omega
    · rw [if_neg q, if_pos (by omega)] at h3; rw [if_neg (by omega)]; omega
/-- the pile and what is written -/
def PlR (h : am_G) : List Nat → Prop
  | [] => True
  | o :: t => h 132 t.length = (o : Int) ∧ PlR h t
def OtR (t W : Nat) (h : am_G) (out : List Int) : Prop := ∀ i, i < out.length → Cm (out.getD i 0) (h 130 (800 * t + 30 + 2 * (W + i))) (h 130 (800 * t + 30 + 2 * (W + i) + 1))
def PSt (t W N : Nat) (σ : List Nat) (out : List Int) (h : am_G) : Prop := PlR h σ ∧ h 127 19 = (σ.length : Int) ∧ h 127 20 = (opn σ : Int) ∧ h 127 16 = ((W + out.length : Nat) : Int) ∧ OtR t W h out ∧ h 127 14 = ((800 * t : Nat) : Int) ∧ wf σ ∧ opn σ ≤ 8 ∧ W + out.length + σ.length ≤ N ∧ N ≤ 301 ∧ t < 6
def FrP (t W : Nat) (g h : am_G) : Prop := ∀ c j, (c ≠ 127 ∨ (j ≠ 16 ∧ j ≠ 19 ∧ j ≠ 20 ∧ j ≠ 21)) → (c ≠ 130 ∨ j < 800 * t + 30 + 2 * W ∨ 800 * t + 800 ≤ j) → c ≠ 132 → h c j = g c j
theorem FrP.rfl {t W : Nat} {g : am_G} : FrP t W g g := fun _ _ _ _ _ => Eq.refl _
theorem FrP.trans {t W : Nat} {g h i : am_G} (h1 : FrP t W g h) (h2 : FrP t W h i) : FrP t W g i := fun c j a b x => (h2 c j a b x).trans (h1 c j a b x)
theorem FrP.up {t W k i : Nat} {x : Int} {g h : am_G} (h1 : FrP t W g h) (hk : (k = 127 ∧ (i = 16 ∨ i = 19 ∨ i = 20 ∨ i = 21)) ∨ (k = 130 ∧ 800 * t + 30 + 2 * W ≤ i ∧ i < 800 * t + 800) ∨ k = 132) : FrP t W g (am_up h k i x) := fun c j a b y => (up_no (by omega)).trans (h1 c j a b y)
theorem PlR.same {g h : am_G} : ∀ {σ : List Nat}, PlR g σ → (∀ j, j < σ.length → h 132 j = g 132 j) → PlR h σ
  | [], _, _ => trivial
  | _ :: t, hp, hF => ⟨(hF t.length (Nat.lt_succ_self _)).trans hp.1, hp.2.same fun j hj => hF j (Nat.lt_succ_of_lt hj)⟩
theorem OtR.same {t W : Nat} {g h : am_G} {out : List Int} (ho : OtR t W g out) (hF : ∀ j, 800 * t + 30 + 2 * W ≤ j → j < 800 * t + 30 + 2 * (W + out.length) → h 130 j = g 130 j) : OtR t W h out := fun i hi => by
  rw [hF _ (by omega) (by omega), hF _ (by omega) (by omega)]
  exact ho i hi
theorem OtR.snoc {t W : Nat} {h : am_G} {out : List Int} {x : Int} (ho : OtR t W h out) (hx : Cm x (h 130 (800 * t + 30 + 2 * (W + out.length))) (h 130 (800 * t + 30 + 2 * (W + out.length) + 1))) : OtR t W h (out ++ [x]) := fun i hi => by
  rw [List.length_append] at hi
  rw [List.getD_eq_getElem?_getD, List.getElem?_append]
  by_cases q : i < out.length
  · rw [if_pos q, ← List.getD_eq_getElem?_getD]; exact ho i q
  · have e : i = out.length := by (have : i < out.length + 1 := hi; omega)
    subst e
    rw [if_neg q, Nat.sub_self]
    exact hx
theorem PSt.same {t W N : Nat} {σ : List Nat} {out : List Int} {g h : am_G} (hP : PSt t W N σ out g) (h1 : ∀ j, j = 14 ∨ j = 16 ∨ j = 19 ∨ j = 20 → h 127 j = g 127 j) (h2 : ∀ j, h 130 j = g 130 j) (h3 : ∀ j, h 132 j = g 132 j) : PSt t W N σ out h := by
  obtain ⟨a1, a2, a3, a4, a5, a6, a7⟩ := hP
  exact ⟨a1.same fun j _ => h3 j, (h1 19 (by omega)).trans a2, (h1 20 (by omega)).trans a3, (h1 16 (by omega)).trans a4, a5.same fun j _ _ => h2 j, (h1 14 (by omega)).trans a6, a7⟩
theorem PSt.up {t W N N' : Nat} {σ : List Nat} {out : List Int} {h : am_G} (hP : PSt t W N σ out h) (hN : N ≤ N') (h3 : N' ≤ 301) : PSt t W N' σ out h := by
  obtain ⟨a1, a2, a3, a4, a5, a6, a7, a8, a9, a10, a11⟩ := hP
  exact ⟨a1, a2, a3, a4, a5, a6, a7, a8, by omega, h3, a11⟩
theorem PSt.emit {t W N : Nat} {σ : List Nat} {out : List Int} {h : am_G} {x o v : Int} (hP : PSt t W N σ out h) (hN : W + out.length + σ.length + 1 ≤ N) (hx : Cm x o v) : PSt t W N σ (out ++ [x]) (am_up (am_up (am_up h 130 (800 * t + 30 + 2 * (W + out.length)) o) 130 (800 * t + 30 + 2 * (W + out.length) + 1) v) 127 16 ((W + out.length : Nat) + 1)) := by
  obtain ⟨a1, a2, a3, a4, a5, a6, a7, a8, a9, a10, a11⟩ := hP
  refine ⟨a1.same fun j _ => (up_ne (by decide)).trans ((up_ne (by decide)).trans (up_ne (by decide))), (up_nj (by decide)).trans ((up_ne (by decide)).trans ((up_ne (by decide)).trans a2)), (up_nj (by decide)).trans ((up_ne (by decide)).trans ((up_ne (by decide)).trans a3)), ?_, ?_, (up_nj (by decide)).trans ((up_ne (by decide)).trans ((up_ne (by decide)).trans a6)), a7, a8, ?_, a10, a11⟩
  · rw [up_eq, List.length_append]; rfl
  · refine OtR.snoc (a5.same fun j h1 h2 => (up_ne (by decide)).trans ((up_nj (by omega)).trans (up_nj (by omega)))) ?_
    rw [up_ne (by decide), up_nj (by omega), up_eq, up_ne (by decide), up_eq]
    exact hx
  · rw [List.length_append]; show W + (out.length + 1) + σ.length ≤ N; omega
set_option maxHeartbeats 400000 in
set_option maxRecDepth 20000 in
theorem m_emit {sn : Nat} {sx : Nat → Int} {b : Nat} {g : am_G} {t W N : Nat} {σ : List Nat} {out : List Int} {x o v : Int} (hP : PSt t W N σ out g) (hN : W + out.length + σ.length + 1 ≤ N) (hx : Cm x o v) : Ev sn sx 1 172 [(2, 127), (0, o), (0, v)] (SH b) g (fun r => ∃ g', r = (none, SH b, g') ∧ PSt t W N σ (out ++ [x]) g' ∧ FrP t W g g' ∧ ∀ j, j ≠ 16 → g' 127 j = g 127 j) := by
  have hw := hP.2.2.2.1
  have ht := hP.2.2.2.2.2.1
  have hN3 := hP.2.2.2.2.2.2.2.2.2.1
  have ht6 := hP.2.2.2.2.2.2.2.2.2.2
  refine ev_of (K := 0) T172 (by decide) rfl rfl (Nat.le_of_ble_eq_true rfl) ?_
  refine wp_eq (L' := [(2, 127), (0, o), (0, v)]) (st' := []) (g' := g) ?_
  refine wp_n 4 (pc' := 8) (L' := [(2, 127), (0, o), (0, v)]) (st' := [(0, (g 127 14)), (2, 130)]) (g' := g) rfl ?_
  refine wp_eq (L' := [(2, 127), (0, o), (0, v)]) (st' := [(0, (((800 * t) : Nat) : Int)), (2, 130)]) (g' := g) ?_ (by rfl) (by rw [ht]) (by rfl)
  refine wp_n 5 (pc' := 16) (L' := [(2, 127), (0, o), (0, v)]) (st' := [(0, (g 127 16)), (0, 2), (0, ((((800 * t) : Nat) : Int) + 30)), (2, 130)]) (g' := g) rfl ?_
  refine wp_eq (L' := [(2, 127), (0, o), (0, v)]) (st' := [(0, (((W + out.length) : Nat) : Int)), (0, 2), (0, ((((800 * t) : Nat) : Int) + 30)), (2, 130)]) (g' := g) ?_ (by rfl) (by rw [hw]) (by rfl)
  refine wp_n 3 (pc' := 19) (L' := [(2, 127), (0, o), (0, v)]) (st' := [(0, o), (0, (((((800 * t) : Nat) : Int) + 30) + (2 * (((W + out.length) : Nat) : Int)))), (2, 130)]) (g' := g) rfl ?_
  refine wp_iast (k := 130) ((800 * t + 30 + 2 * (W + out.length))) rfl rfl (by omega) (by omega) (by decide) ?_
  refine wp_n 4 (pc' := 28) (L' := [(2, 127), (0, o), (0, v)]) (st' := [(0, (g 127 14)), (2, 130)]) (g' := (am_up g 130 ((800 * t + 30 + 2 * (W + out.length))) o)) rfl ?_
  refine wp_eq (L' := [(2, 127), (0, o), (0, v)]) (st' := [(0, (((800 * t) : Nat) : Int)), (2, 130)]) (g' := (am_up g 130 ((800 * t + 30 + 2 * (W + out.length))) o)) ?_ (by rfl) (by first | rw [ht] | rw [up_ne (by decide), ht]) (by rfl)
  refine wp_n 5 (pc' := 36) (L' := [(2, 127), (0, o), (0, v)]) (st' := [(0, (g 127 16)), (0, 2), (0, ((((800 * t) : Nat) : Int) + 30)), (2, 130)]) (g' := (am_up g 130 ((800 * t + 30 + 2 * (W + out.length))) o)) rfl ?_
  refine wp_eq (L' := [(2, 127), (0, o), (0, v)]) (st' := [(0, (((W + out.length) : Nat) : Int)), (0, 2), (0, ((((800 * t) : Nat) : Int) + 30)), (2, 130)]) (g' := (am_up g 130 ((800 * t + 30 + 2 * (W + out.length))) o)) ?_ (by rfl) (by first | rw [hw] | rw [up_ne (by decide), hw]) (by rfl)
  refine wp_n 5 (pc' := 41) (L' := [(2, 127), (0, o), (0, v)]) (st' := [(0, v), (0, ((((((800 * t) : Nat) : Int) + 30) + (2 * (((W + out.length) : Nat) : Int))) + 1)), (2, 130)]) (g' := (am_up g 130 ((800 * t + 30 + 2 * (W + out.length))) o)) rfl ?_
  refine wp_iast (k := 130) ((800 * t + 30 + 2 * (W + out.length) + 1)) rfl rfl (by omega) (by omega) (by decide) ?_
  refine wp_n 3 (pc' := 47) (L' := [(2, 127), (0, o), (0, v)]) (st' := [(0, (g 127 16)), (2, 127)]) (g' := (am_up (am_up g 130 ((800 * t + 30 + 2 * (W + out.length))) o) 130 ((800 * t + 30 + 2 * (W + out.length) + 1)) v)) rfl ?_
  refine wp_eq (L' := [(2, 127), (0, o), (0, v)]) (st' := [(0, (((W + out.length) : Nat) : Int)), (2, 127)]) (g' := (am_up (am_up g 130 ((800 * t + 30 + 2 * (W + out.length))) o) 130 ((800 * t + 30 + 2 * (W + out.length) + 1)) v)) ?_ (by rfl) (by first | rw [hw] | rw [up_ne (by decide), hw] | rw [up_ne (by decide), up_ne (by decide), hw]) (by rfl)
  refine wp_n 3 (pc' := 52) (L' := [(2, 127), (0, o), (0, v)]) (st' := []) (g' := (am_up (am_up (am_up g 130 ((800 * t + 30 + 2 * (W + out.length))) o) 130 ((800 * t + 30 + 2 * (W + out.length) + 1)) v) 127 16 ((((W + out.length) : Nat) : Int) + 1))) rfl ?_
  exact wp_ret rfl rfl rfl ⟨_, rfl, hP.emit hN hx, ((FrP.rfl.up (by omega)).up (by omega)).up (by omega), fun j hj => (up_nj hj).trans ((up_ne (by decide)).trans (up_ne (by decide)))⟩
set_option maxHeartbeats 400000 in
set_option maxRecDepth 20000 in
theorem m_push {sn : Nat} {sx : Nat → Int} {b : Nat} {g : am_G} {σ : List Nat} {q : Int} (hw : g 127 19 = (σ.length : Int)) (hl : σ.length ≤ 26) : Ev sn sx 1 173 [(2, 127), (0, q)] (SH b) g (fun r => r = (none, SH b, am_up (am_up g 132 σ.length q) 127 19 ((σ.length : Int) + 1))) := by
  refine ev_of (K := 0) T173 (by decide) rfl rfl (Nat.le_of_ble_eq_true rfl) ?_
  refine wp_eq (L' := [(2, 127), (0, q)]) (st' := []) (g' := g) ?_
  refine wp_n 4 (pc' := 8) (L' := [(2, 127), (0, q)]) (st' := [(0, (g 127 19)), (2, 132)]) (g' := g) rfl ?_
  refine wp_eq (L' := [(2, 127), (0, q)]) (st' := [(0, ((σ.length : Nat) : Int)), (2, 132)]) (g' := g) ?_ (by rfl) (by rw [hw]) (by rfl)
  refine wp_n 1 (pc' := 9) (L' := [(2, 127), (0, q)]) (st' := [(0, q), (0, ((σ.length : Nat) : Int)), (2, 132)]) (g' := g) rfl ?_
  refine wp_iast (k := 132) (σ.length) rfl rfl (by omega) (by omega) (by decide) ?_
  refine wp_n 3 (pc' := 15) (L' := [(2, 127), (0, q)]) (st' := [(0, (g 127 19)), (2, 127)]) (g' := (am_up g 132 (σ.length) q)) rfl ?_
  refine wp_eq (L' := [(2, 127), (0, q)]) (st' := [(0, ((σ.length : Nat) : Int)), (2, 127)]) (g' := (am_up g 132 (σ.length) q)) ?_ (by rfl) (by first | rw [hw] | rw [up_ne (by decide), hw]) (by rfl)
  refine wp_n 3 (pc' := 20) (L' := [(2, 127), (0, q)]) (st' := []) (g' := (am_up (am_up g 132 (σ.length) q) 127 19 (((σ.length : Nat) : Int) + 1))) rfl ?_
  exact wp_ret rfl rfl rfl rfl
set_option maxHeartbeats 400000 in
set_option maxRecDepth 20000 in
theorem m_whole {sn : Nat} {sx : Nat → Int} {b : Nat} {g : am_G} {t W N : Nat} {σ : List Nat} {out : List Int} (hP : PSt t W N σ out g) : Ev sn sx 2 174 [(2, 127)] (SH b) g (fun r => ∃ g', r = (none, SH b, g') ∧ PSt t W N (srp σ) (out ++ ngs σ) g' ∧ FrP t W g g' ∧ g' 127 21 = 1) := by
  refine ev_of (K := 1) T174 (by decide) rfl rfl (Nat.le_of_ble_eq_true rfl) ?_
  refine wp_eq (L' := [(2, 127)]) (st' := []) (g' := g) ?_
  refine wp_n 3 (pc' := 5) (L' := [(2, 127)]) (st' := []) (g' := (am_up g 127 21 1)) rfl ?_
  have L5 : ∀ (lf : Nat) (ρ : List Nat) (w : List Int) (h : am_G), ρ.length < lf → (PSt t W N ρ w h) → (srp ρ = srp σ) → (w ++ ngs ρ = out ++ ngs σ) → (FrP t W g h) → (h 127 21 = 1) → Wp sn sx 1 T174 5 [(2, 127)] [] (SH b) h (fun r => ∃ g', r = (none, SH b, g') ∧ PSt t W N (srp σ) (out ++ ngs σ) g' ∧ FrP t W g g' ∧ g' 127 21 = 1) := by
    intro lf
    induction lf with
    | zero => intro ρ w h hlf; exact absurd hlf (Nat.not_lt_zero _)
    | succ lf ih5 =>
      intro ρ w h hlf hPh hsr hng hF h21
      have hpl := hPh.2.1
      have hN3 := hPh.2.2.2.2.2.2.2.2.1
      have hN4 := hPh.2.2.2.2.2.2.2.2.2.1
      refine wp_n 2 (pc' := 9) (L' := [(2, 127)]) (st' := [(0, (h 127 19))]) (g' := h) rfl ?_
      refine wp_eq (L' := [(2, 127)]) (st' := [(0, ((ρ.length : Nat) : Int))]) (g' := h) ?_ (by rfl) (by rw [hpl]) (by rfl)
      refine wp_if_le rfl (fun c1 => ?_) (fun c1 => ?_)
      · have hs9 : ρ = [] := by cases ρ with | nil => rfl | cons _ _ => (exfalso; simp only [List.length_cons] at *; omega)
        have hs0 : srp ρ = ρ := by rw [hs9]; rfl
        have hn0 : ngs ρ = [] := by rw [hs9]; rfl
        exact wp_ret rfl rfl rfl ⟨_, rfl, by rw [← hsr, hs0, ← hng, hn0, List.append_nil]; exact hPh, hF, h21⟩
      · obtain ⟨q, τ, hqt⟩ : ∃ q τ, ρ = q :: τ := by cases ρ with | nil => (exfalso; simp only [List.length_nil] at *; omega) | cons q τ => exact ⟨q, τ, rfl⟩
        have hlt : ρ.length = τ.length + 1 := by rw [hqt]; rfl
        have hPq : h 132 τ.length = (q : Int) := by have := hPh.1; rw [hqt] at this; exact this.1
        have hwq := hPh.2.2.2.2.2.2.1
        rw [hqt] at hwq
        have hwq2 := hwq.2.1
        have hwq1 := hwq.1
        have hl9 := hPh.2.2.2.2.2.2.1.len
        have h89 := hPh.2.2.2.2.2.2.2.1
        refine wp_n 4 (pc' := 20) (L' := [(2, 127)]) (st' := [(0, (h 127 19)), (2, 132)]) (g' := h) rfl ?_
        refine wp_eq (L' := [(2, 127)]) (st' := [(0, ((ρ.length : Nat) : Int)), (2, 132)]) (g' := h) ?_ (by rfl) (by rw [hpl]) (by rfl)
        refine wp_n 2 (pc' := 22) (L' := [(2, 127)]) (st' := [(0, (((ρ.length : Nat) : Int) - 1)), (2, 132)]) (g' := h) rfl ?_
        refine wp_iald (k := 132) (τ.length) rfl rfl (by omega) (by omega) (by decide) ?_
        refine wp_eq (L' := [(2, 127)]) (st' := [(0, ((q : Nat) : Int))]) (g' := h) ?_ (by rfl) (by rw [hPq]) (by rfl)
        refine wp_n 1 (pc' := 24) (L' := [(2, 127)]) (st' := [(0, 2), (0, ((q : Nat) : Int))]) (g' := h) rfl ?_
        refine wp_ic_ne rfl (fun c2 => ?_) (fun c2 => ?_)
        · have hs0 : srp ρ = ρ := by rw [hqt]; exact srp_o (by omega) τ
          have hn0 : ngs ρ = [] := by rw [hqt]; exact ngs_o (by omega) τ
          exact wp_ret rfl rfl rfl ⟨_, rfl, by rw [← hsr, hs0, ← hng, hn0, List.append_nil]; exact hPh, hF, h21⟩
        · have hq2 : ρ = 2 :: τ := by rw [hqt]; congr 1; omega
          have ho9 : h 127 20 = ((opn τ : Nat) : Int) + 1 := by have := hPh.2.2.1; rw [hq2, opn_y (Or.inl rfl)] at this; exact this
          have hPt : PSt t W N τ w (am_up (am_up h 127 19 (((ρ.length : Nat) : Int) - 1)) 127 20 ((h 127 20) - 1)) := by
            obtain ⟨a1, a2, a3, a4, a5, a6, a7, a8, a9, a10, a11⟩ := hPh
            rw [hqt] at a1
            refine ⟨a1.2.same fun j _ => (up_ne (by decide)).trans (up_ne (by decide)), ?_, ?_, (up_nj (by decide)).trans ((up_nj (by decide)).trans a4), a5.same fun j _ _ => (up_ne (by decide)).trans (up_ne (by decide)), (up_nj (by decide)).trans ((up_nj (by decide)).trans a6), hwq1, ?_, by omega, a10, a11⟩
            · rw [up_nj (by decide), up_eq]; omega
            · rw [up_eq]; omega
            · rw [hq2, opn_y (Or.inl rfl)] at a8; omega
          refine wp_n 3 (pc' := 32) (L' := [(2, 127)]) (st' := [(0, (h 127 19)), (2, 127)]) (g' := h) rfl ?_
          refine wp_eq (L' := [(2, 127)]) (st' := [(0, ((ρ.length : Nat) : Int)), (2, 127)]) (g' := h) ?_ (by rfl) (by rw [hpl]) (by rfl)
          refine wp_n 12 (pc' := 50) (L' := [(2, 127)]) (st' := [(0, 0), (0, 2), (2, 127)]) (g' := (am_up (am_up h 127 19 (((ρ.length : Nat) : Int) - 1)) 127 20 ((h 127 20) - 1))) rfl ?_
          refine wp_cv (as := [(2, 127), (0, 2), (0, 0)]) (rest := []) rfl rfl rfl (Nat.le_of_ble_eq_true rfl) rfl (m_emit (x := 20006) hPt (by omega) (Or.inr (Or.inr (Or.inl ⟨rfl, rfl⟩)))) (by decide) (fun r3 h4 => ?_)
          obtain ⟨g50, rfl, hP50, hF50, hj50⟩ := h4
          refine wp_eq (L' := [(2, 127)]) (st' := []) (g' := g50) ?_
          refine wp_n 1 (pc' := 5) (L' := [(2, 127)]) (st' := []) (g' := g50) rfl ?_
          refine wp_eq (ih5 (τ) ((w ++ [20006])) (g50) ?_ ?_ ?_ ?_ ?_ ?_) (by first | rfl | (simp; done) | (simp; omega)) (by rfl) (by rfl)
          · (have h9 : (q :: τ).length < lf + 1 := by rw [← hqt]; assumption); exact Nat.lt_of_succ_lt_succ h9
          · exact hP50
          · rw [← hsr, hq2, srp_2]
          · rw [← hng, hq2, ngs_2, List.append_assoc]; rfl
          · exact ((hF.up (by omega)).up (by omega)).trans hF50
          · rw [hj50 21 (by decide), up_nj (by decide), up_nj (by decide)]; exact h21
  refine wp_eq (L5 (_ + 1) (σ) (out) ((am_up g 127 21 1)) (Nat.lt_succ_self _) ?_ ?_ ?_ ?_ ?_) (by first | rfl | (simp; done) | (simp; omega)) (by rfl) (by rfl)
  · exact hP.same (fun j hj => up_nj (by omega)) (fun j => up_ne (by decide)) (fun j => up_ne (by decide))
  · rfl
  · rfl
  · exact FrP.rfl.up (by omega)
  · exact up_eq
set_option maxHeartbeats 400000 in
set_option maxRecDepth 20000 in
theorem m_settle {sn : Nat} {sx : Nat → Int} {b : Nat} {g : am_G} {t W N l : Nat} (hl : l = 3 ∨ l = 5) {σ : List Nat} {out : List Int} (hP : PSt t W N σ out g) : Ev sn sx 2 175 [(2, 127), (0, ((l : Nat) : Int))] (SH b) g (fun r => ∃ g', r = (none, SH b, g') ∧ PSt t W N (stl l σ) (out ++ ste l σ) g' ∧ FrP t W g g' ∧ ∀ j, j ≠ 16 → j ≠ 19 → g' 127 j = g 127 j) := by
  refine ev_of (K := 1) T175 (by decide) rfl rfl (Nat.le_of_ble_eq_true rfl) ?_
  refine wp_eq (L' := [(2, 127), (0, ((l : Nat) : Int))]) (st' := []) (g' := g) ?_
  have L0 : ∀ (lf : Nat) (ρ : List Nat) (w : List Int) (h : am_G), ρ.length < lf → (PSt t W N ρ w h) → (stl l ρ = stl l σ) → (w ++ ste l ρ = out ++ ste l σ) → (FrP t W g h) → (∀ j, j ≠ 16 → j ≠ 19 → h 127 j = g 127 j) → Wp sn sx 1 T175 0 [(2, 127), (0, ((l : Nat) : Int))] [] (SH b) h (fun r => ∃ g', r = (none, SH b, g') ∧ PSt t W N (stl l σ) (out ++ ste l σ) g' ∧ FrP t W g g' ∧ ∀ j, j ≠ 16 → j ≠ 19 → g' 127 j = g 127 j) := by
    intro lf
    induction lf with
    | zero => intro ρ w h hlf; exact absurd hlf (Nat.not_lt_zero _)
    | succ lf ih0 =>
      intro ρ w h hlf hPh hsr hng hF hjj
      have hpl := hPh.2.1
      have hN3 := hPh.2.2.2.2.2.2.2.2.1
      have hN4 := hPh.2.2.2.2.2.2.2.2.2.1
      refine wp_n 2 (pc' := 4) (L' := [(2, 127), (0, ((l : Nat) : Int))]) (st' := [(0, (h 127 19))]) (g' := h) rfl ?_
      refine wp_eq (L' := [(2, 127), (0, ((l : Nat) : Int))]) (st' := [(0, ((ρ.length : Nat) : Int))]) (g' := h) ?_ (by rfl) (by rw [hpl]) (by rfl)
      refine wp_if_le rfl (fun c1 => ?_) (fun c1 => ?_)
      · have hs9 : ρ = [] := by cases ρ with | nil => rfl | cons _ _ => (exfalso; simp only [List.length_cons] at *; omega)
        have hs0 : stl l ρ = ρ := by rw [hs9]; rfl
        have hn0 : ste l ρ = [] := by rw [hs9]; rfl
        exact wp_ret rfl rfl rfl ⟨_, rfl, by rw [← hsr, hs0, ← hng, hn0, List.append_nil]; exact hPh, hF, hjj⟩
      · obtain ⟨q, τ, hqt⟩ : ∃ q τ, ρ = q :: τ := by cases ρ with | nil => (exfalso; simp only [List.length_nil] at *; omega) | cons q τ => exact ⟨q, τ, rfl⟩
        have hlt : ρ.length = τ.length + 1 := by rw [hqt]; rfl
        have hPq : h 132 τ.length = (q : Int) := by have := hPh.1; rw [hqt] at this; exact this.1
        have hwq := hPh.2.2.2.2.2.2.1
        rw [hqt] at hwq
        have hwq2 := hwq.2.1
        have hwq1 := hwq.1
        have hl9 := hPh.2.2.2.2.2.2.1.len
        have h89 := hPh.2.2.2.2.2.2.2.1
        refine wp_n 4 (pc' := 15) (L' := [(2, 127), (0, ((l : Nat) : Int))]) (st' := [(0, (h 127 19)), (2, 132)]) (g' := h) rfl ?_
        refine wp_eq (L' := [(2, 127), (0, ((l : Nat) : Int))]) (st' := [(0, ((ρ.length : Nat) : Int)), (2, 132)]) (g' := h) ?_ (by rfl) (by rw [hpl]) (by rfl)
        refine wp_n 2 (pc' := 17) (L' := [(2, 127), (0, ((l : Nat) : Int))]) (st' := [(0, (((ρ.length : Nat) : Int) - 1)), (2, 132)]) (g' := h) rfl ?_
        refine wp_iald (k := 132) (τ.length) rfl rfl (by omega) (by omega) (by decide) ?_
        refine wp_eq (L' := [(2, 127), (0, ((l : Nat) : Int))]) (st' := [(0, ((q : Nat) : Int))]) (g' := h) ?_ (by rfl) (by rw [hPq]) (by rfl)
        refine wp_n 1 (pc' := 20) (L' := [(2, 127), (0, ((l : Nat) : Int))]) (st' := [(0, 40), (0, ((q : Nat) : Int))]) (g' := h) rfl ?_
        refine wp_ic_ge rfl (fun c2 => ?_) (fun c2 => ?_)
        · have hs0 : stl l ρ = ρ := by rw [hqt]; exact stl_n (by omega) τ
          have hn0 : ste l ρ = [] := by rw [hqt]; exact ste_n (by omega) τ
          exact wp_ret rfl rfl rfl ⟨_, rfl, by rw [← hsr, hs0, ← hng, hn0, List.append_nil]; exact hPh, hF, hjj⟩
        · refine wp_n 4 (pc' := 31) (L' := [(2, 127), (0, ((l : Nat) : Int))]) (st' := [(0, (h 127 19)), (2, 132)]) (g' := h) rfl ?_
          refine wp_eq (L' := [(2, 127), (0, ((l : Nat) : Int))]) (st' := [(0, ((ρ.length : Nat) : Int)), (2, 132)]) (g' := h) ?_ (by rfl) (by rw [hpl]) (by rfl)
          refine wp_n 2 (pc' := 33) (L' := [(2, 127), (0, ((l : Nat) : Int))]) (st' := [(0, (((ρ.length : Nat) : Int) - 1)), (2, 132)]) (g' := h) rfl ?_
          refine wp_iald (k := 132) (τ.length) rfl rfl (by omega) (by omega) (by decide) ?_
          refine wp_eq (L' := [(2, 127), (0, ((l : Nat) : Int))]) (st' := [(0, ((q : Nat) : Int))]) (g' := h) ?_ (by rfl) (by rw [hPq]) (by rfl)
          refine wp_n 1 (pc' := 35) (L' := [(2, 127), (0, ((l : Nat) : Int))]) (st' := [(0, ((l : Nat) : Int)), (0, ((q : Nat) : Int))]) (g' := h) rfl ?_
          refine wp_ic_lt rfl (fun c3 => ?_) (fun c3 => ?_)
          · have hs0 : stl l ρ = ρ := by rw [hqt]; exact stl_n (by omega) τ
            have hn0 : ste l ρ = [] := by rw [hqt]; exact ste_n (by omega) τ
            exact wp_ret rfl rfl rfl ⟨_, rfl, by rw [← hsr, hs0, ← hng, hn0, List.append_nil]; exact hPh, hF, hjj⟩
          · have hql : q < 40 ∧ l ≤ q := by omega
            have hPt : PSt t W N τ w (am_up h 127 19 (((ρ.length : Nat) : Int) - 1)) := by
              obtain ⟨a1, a2, a3, a4, a5, a6, a7, a8, a9, a10, a11⟩ := hPh
              rw [hqt] at a1
              refine ⟨a1.2.same fun j _ => up_ne (by decide), ?_, ?_, (up_nj (by decide)).trans a4, a5.same fun j _ _ => up_ne (by decide), (up_nj (by decide)).trans a6, hwq1, ?_, by omega, a10, a11⟩
              · rw [up_eq]; omega
              · rw [hqt, opn_n (by omega)] at a3; exact (up_nj (by decide)).trans a3
              · rw [hqt, opn_n (by omega)] at a8; exact a8
            refine wp_n 3 (pc' := 43) (L' := [(2, 127), (0, ((l : Nat) : Int))]) (st' := [(0, (h 127 19)), (2, 127)]) (g' := h) rfl ?_
            refine wp_eq (L' := [(2, 127), (0, ((l : Nat) : Int))]) (st' := [(0, ((ρ.length : Nat) : Int)), (2, 127)]) (g' := h) ?_ (by rfl) (by rw [hpl]) (by rfl)
            refine wp_n 8 (pc' := 57) (L' := [(2, 127), (0, ((l : Nat) : Int))]) (st' := [(0, (((ρ.length : Nat) : Int) - 1)), (2, 132), (2, 127)]) (g' := (am_up h 127 19 (((ρ.length : Nat) : Int) - 1))) rfl ?_
            refine wp_eq (L' := [(2, 127), (0, ((l : Nat) : Int))]) (st' := [(0, ((τ.length : Nat) : Int)), (2, 132), (2, 127)]) (g' := (am_up h 127 19 (((ρ.length : Nat) : Int) - 1))) ?_ (by rfl) (by rw [show ((ρ.length : Nat) : Int) - 1 = ((τ.length : Nat) : Int) by omega]) (by rfl)
            refine wp_iald (k := 132) (τ.length) rfl rfl (by omega) (by omega) (by decide) ?_
            refine wp_eq (L' := [(2, 127), (0, ((l : Nat) : Int))]) (st' := [(0, ((q : Nat) : Int)), (2, 127)]) (g' := (am_up h 127 19 (((ρ.length : Nat) : Int) - 1))) ?_ (by rfl) (by first | rw [hPq] | rw [up_ne (by decide), hPq]) (by rfl)
            refine wp_n 1 (pc' := 59) (L' := [(2, 127), (0, ((l : Nat) : Int))]) (st' := [(0, 0), (0, ((q : Nat) : Int)), (2, 127)]) (g' := (am_up h 127 19 (((ρ.length : Nat) : Int) - 1))) rfl ?_
            refine wp_cv (as := [(2, 127), (0, ((q : Nat) : Int)), (0, 0)]) (rest := []) rfl rfl rfl (Nat.le_of_ble_eq_true rfl) rfl (m_emit (x := ((q : Int) + 19997)) hPt (by omega) (Or.inr (Or.inr (Or.inr ⟨by omega, by omega, by omega⟩)))) (by decide) (fun r4 h5 => ?_)
            obtain ⟨g59, rfl, hP59, hF59, hj59⟩ := h5
            refine wp_eq (L' := [(2, 127), (0, ((l : Nat) : Int))]) (st' := []) (g' := g59) ?_
            refine wp_n 1 (pc' := 0) (L' := [(2, 127), (0, ((l : Nat) : Int))]) (st' := []) (g' := g59) rfl ?_
            refine wp_eq (ih0 (τ) ((w ++ [(q : Int) + 19997])) (g59) ?_ ?_ ?_ ?_ ?_ ?_) (by first | rfl | (simp; done) | (simp; omega)) (by rfl) (by rfl)
            · (have h9 : (q :: τ).length < lf + 1 := by rw [← hqt]; assumption); exact Nat.lt_of_succ_lt_succ h9
            · exact hP59
            · rw [← hsr, hqt, stl_y hql]
            · rw [← hng, hqt, ste_y hql, List.append_assoc]; rfl
            · exact (hF.up (by omega)).trans hF59
            · exact fun j h1 h2 => by rw [hj59 j h1, up_nj h2]; exact hjj j h1 h2
  refine wp_eq (L0 (_ + 1) (σ) (out) (g) (Nat.lt_succ_self _) ?_ ?_ ?_ ?_ ?_) (by first | rfl | (simp; done) | (simp; omega)) (by rfl) (by rfl)
  · exact hP
  · rfl
  · rfl
  · exact FrP.rfl
  · exact fun _ _ _ => rfl
set_option maxHeartbeats 400000 in
set_option maxRecDepth 20000 in
theorem m_latest {sn : Nat} {sx : Nat → Int} {b : Nat} {g : am_G} {t W N : Nat} {σ : List Nat} {out : List Int} (hP : PSt t W N σ out g) : Ev sn sx 1 179 [(2, 127)] (SH b) g (fun r => r = (some (0, ((lat σ : Nat) : Int)), SH b, g)) := by
  have hpl := hP.2.1
  refine ev_of (K := 0) T179 (by decide) rfl rfl (Nat.le_of_ble_eq_true rfl) ?_
  refine wp_eq (L' := [(2, 127), (9, 0)]) (st' := []) (g' := g) ?_
  refine wp_n 2 (pc' := 4) (L' := [(2, 127), (9, 0)]) (st' := [(0, (g 127 19))]) (g' := g) rfl ?_
  refine wp_eq (L' := [(2, 127), (9, 0)]) (st' := [(0, ((σ.length : Nat) : Int))]) (g' := g) ?_ (by rfl) (by rw [hpl]) (by rfl)
  refine wp_n 3 (pc' := 7) (L' := [(2, 127), (0, (((σ.length : Nat) : Int) - 1))]) (st' := []) (g' := g) rfl ?_
  have L7 : ∀ (lf : Nat) (ρ : List Nat), ρ.length < lf → (PlR g ρ) → (wf ρ) → (ρ.length ≤ 26) → (lat ρ = lat σ) → Wp sn sx 0 T179 7 [(2, 127), (0, (((ρ.length : Nat) : Int) - 1))] [] (SH b) g (fun r => r = (some (0, ((lat σ : Nat) : Int)), SH b, g)) := by
    intro lf
    induction lf with
    | zero => intro ρ hlf; exact absurd hlf (Nat.not_lt_zero _)
    | succ lf ih7 =>
      intro ρ hlf hPr hwr hlr hla
      refine wp_n 1 (pc' := 8) (L' := [(2, 127), (0, (((ρ.length : Nat) : Int) - 1))]) (st' := [(0, (((ρ.length : Nat) : Int) - 1))]) (g' := g) rfl ?_
      refine wp_if_lt rfl (fun c1 => ?_) (fun c1 => ?_)
      · have hs9 : ρ = [] := by cases ρ with | nil => rfl | cons _ _ => (exfalso; simp only [List.length_cons] at *; omega)
        have hla0 : lat ρ = 0 := by rw [hs9]; rfl
        refine wp_n 1 (pc' := 36) (L' := [(2, 127), (0, (((ρ.length : Nat) : Int) - 1))]) (st' := [(0, 0)]) (g' := g) rfl ?_
        exact wp_ret rfl rfl rfl (by rw [← hla, hla0]; rfl)
      · obtain ⟨q, τ, hqt⟩ : ∃ q τ, ρ = q :: τ := by cases ρ with | nil => (exfalso; simp only [List.length_nil] at *; omega) | cons q τ => exact ⟨q, τ, rfl⟩
        have hlt : ρ.length = τ.length + 1 := by rw [hqt]; rfl
        have hPq : g 132 τ.length = (q : Int) := by have := hPr; rw [hqt] at this; exact this.1
        have hwq := hwr
        rw [hqt] at hwq
        have hwq2 := hwq.2.1
        have hwq1 := hwq.1
        refine wp_n 3 (pc' := 16) (L' := [(2, 127), (0, (((ρ.length : Nat) : Int) - 1))]) (st' := [(0, (((ρ.length : Nat) : Int) - 1)), (2, 132)]) (g' := g) rfl ?_
        refine wp_iald (k := 132) (τ.length) rfl rfl (by omega) (by omega) (by decide) ?_
        refine wp_eq (L' := [(2, 127), (0, (((ρ.length : Nat) : Int) - 1))]) (st' := [(0, ((q : Nat) : Int))]) (g' := g) ?_ (by rfl) (by rw [hPq]) (by rfl)
        refine wp_n 1 (pc' := 19) (L' := [(2, 127), (0, (((ρ.length : Nat) : Int) - 1))]) (st' := [(0, 40), (0, ((q : Nat) : Int))]) (g' := g) rfl ?_
        refine wp_ic_lt rfl (fun c2 => ?_) (fun c2 => ?_)
        · refine wp_n 2 (pc' := 7) (L' := [(2, 127), (0, ((((ρ.length : Nat) : Int) - 1) + (-1)))]) (st' := []) (g' := g) rfl ?_
          refine wp_eq (ih7 (τ) ?_ ?_ ?_ ?_ ?_) (by rw [show (((ρ.length : Nat) : Int) - 1) + -1 = ((τ.length : Nat) : Int) - 1 by omega]) (by rfl) (by rfl)
          · (have h9 : (q :: τ).length < lf + 1 := by rw [← hqt]; assumption); exact Nat.lt_of_succ_lt_succ h9
          · rw [hqt] at hPr; exact hPr.2
          · exact hwq1
          · omega
          · rw [← hla, hqt, lat_n (by omega)]
        · refine wp_n 3 (pc' := 27) (L' := [(2, 127), (0, (((ρ.length : Nat) : Int) - 1))]) (st' := [(0, (((ρ.length : Nat) : Int) - 1)), (2, 132)]) (g' := g) rfl ?_
          refine wp_iald (k := 132) (τ.length) rfl rfl (by omega) (by omega) (by decide) ?_
          refine wp_eq (L' := [(2, 127), (0, (((ρ.length : Nat) : Int) - 1))]) (st' := [(0, ((q : Nat) : Int))]) (g' := g) ?_ (by rfl) (by rw [hPq]) (by rfl)
          exact wp_ret rfl rfl rfl (by rw [← hla, hqt, lat_y (by omega)])
  refine wp_eq (L7 (_ + 1) (σ) (Nat.lt_succ_self _) ?_ ?_ ?_ ?_) (by rfl) (by rfl) (by rfl)
  · exact hP.1
  · exact hP.2.2.2.2.2.2.1
  · have h1 := hP.2.2.2.2.2.2.1.len; have h2 := hP.2.2.2.2.2.2.2.1; omega
  · rfl
theorem lat_in {σ : List Nat} (h : wf σ) : lat σ = 0 ∨ (40 ≤ lat σ ∧ lat σ ≤ 44) := by
  induction σ with
  | nil => exact Or.inl rfl
  | cons o t ih =>
    by_cases q : 40 ≤ o
    · rw [lat_y q]; have := h.2.1; omega
    · rw [lat_n q]; exact ih h.1
set_option maxHeartbeats 400000 in
set_option maxRecDepth 20000 in
theorem m_goesOn {sn : Nat} {sx : Nat → Int} {b : Nat} {g : am_G} {T : Nat → Int} {L p t W N : Nat} {σ : List Nat} {out : List Int} (hR : RdM T L g) (hT : TkM T L g p) (hP : PSt t W N σ out g) : Ev sn sx 2 180 [(2, 127)] (SH b) g (fun r => Is1 r (SH b) g (gon T L p σ)) := by
  have hto := tkM_or (p := p) hR.2.2.2
  have hlx := lat_in hP.2.2.2.2.2.2.1
  refine ev_of (K := 1) T180 (by decide) rfl rfl (Nat.le_of_ble_eq_true rfl) ?_
  refine wp_eq (L' := [(2, 127)]) (st' := []) (g' := g) ?_
  refine wp_n 2 (pc' := 4) (L' := [(2, 127)]) (st' := [(0, (g 127 11))]) (g' := g) rfl ?_
  refine wp_eq (L' := [(2, 127)]) (st' := [(0, (tkM (tK T L p)))]) (g' := g) ?_ (by rfl) (by rw [hT.2.1]) (by rfl)
  refine wp_n 1 (pc' := 6) (L' := [(2, 127)]) (st' := [(0, 43), (0, (tkM (tK T L p)))]) (g' := g) rfl ?_
  refine wp_ic_eq rfl (fun c1 => ?_) (fun c1 => ?_)
  · refine wp_n 2 (pc' := 66) (L' := [(2, 127)]) (st' := [(0, 1)]) (g' := g) rfl ?_
    exact wp_ret rfl rfl rfl (Or.inl ⟨rfl, by unfold gon; omega⟩)
  · refine wp_n 2 (pc' := 13) (L' := [(2, 127)]) (st' := [(0, (g 127 11))]) (g' := g) rfl ?_
    refine wp_eq (L' := [(2, 127)]) (st' := [(0, (tkM (tK T L p)))]) (g' := g) ?_ (by rfl) (by rw [hT.2.1]) (by rfl)
    refine wp_n 1 (pc' := 15) (L' := [(2, 127)]) (st' := [(0, 45), (0, (tkM (tK T L p)))]) (g' := g) rfl ?_
    refine wp_ic_eq rfl (fun c2 => ?_) (fun c2 => ?_)
    · refine wp_n 2 (pc' := 66) (L' := [(2, 127)]) (st' := [(0, 1)]) (g' := g) rfl ?_
      exact wp_ret rfl rfl rfl (Or.inl ⟨rfl, by unfold gon; omega⟩)
    · refine wp_n 2 (pc' := 22) (L' := [(2, 127)]) (st' := [(0, (g 127 11))]) (g' := g) rfl ?_
      refine wp_eq (L' := [(2, 127)]) (st' := [(0, (tkM (tK T L p)))]) (g' := g) ?_ (by rfl) (by rw [hT.2.1]) (by rfl)
      refine wp_n 1 (pc' := 24) (L' := [(2, 127)]) (st' := [(0, 42), (0, (tkM (tK T L p)))]) (g' := g) rfl ?_
      refine wp_ic_eq rfl (fun c3 => ?_) (fun c3 => ?_)
      · refine wp_n 2 (pc' := 66) (L' := [(2, 127)]) (st' := [(0, 1)]) (g' := g) rfl ?_
        exact wp_ret rfl rfl rfl (Or.inl ⟨rfl, by unfold gon; omega⟩)
      · refine wp_n 2 (pc' := 31) (L' := [(2, 127)]) (st' := [(0, (g 127 11))]) (g' := g) rfl ?_
        refine wp_eq (L' := [(2, 127)]) (st' := [(0, (tkM (tK T L p)))]) (g' := g) ?_ (by rfl) (by rw [hT.2.1]) (by rfl)
        refine wp_n 1 (pc' := 33) (L' := [(2, 127)]) (st' := [(0, 47), (0, (tkM (tK T L p)))]) (g' := g) rfl ?_
        refine wp_ic_eq rfl (fun c4 => ?_) (fun c4 => ?_)
        · refine wp_n 2 (pc' := 66) (L' := [(2, 127)]) (st' := [(0, 1)]) (g' := g) rfl ?_
          exact wp_ret rfl rfl rfl (Or.inl ⟨rfl, by unfold gon; omega⟩)
        · refine wp_n 2 (pc' := 40) (L' := [(2, 127)]) (st' := [(0, (g 127 11))]) (g' := g) rfl ?_
          refine wp_eq (L' := [(2, 127)]) (st' := [(0, (tkM (tK T L p)))]) (g' := g) ?_ (by rfl) (by rw [hT.2.1]) (by rfl)
          refine wp_n 1 (pc' := 42) (L' := [(2, 127)]) (st' := [(0, 41), (0, (tkM (tK T L p)))]) (g' := g) rfl ?_
          refine wp_ic_eq rfl (fun c5 => ?_) (fun c5 => ?_)
          · refine wp_n 1 (pc' := 55) (L' := [(2, 127)]) (st' := [(2, 127)]) (g' := g) rfl ?_
            refine wp_cv (as := [(2, 127)]) (rest := []) rfl rfl rfl (Nat.le_of_ble_eq_true rfl) rfl (m_latest (by assumption)) (by decide) (fun r6 h7 => ?_)
            obtain rfl := h7
            refine wp_eq (L' := [(2, 127)]) (st' := [(0, (((lat σ) : Nat) : Int))]) (g' := g) ?_
            refine wp_if_le rfl (fun c8 => ?_) (fun c8 => ?_)
            · refine wp_n 1 (pc' := 66) (L' := [(2, 127)]) (st' := [(0, 0)]) (g' := g) rfl ?_
              exact wp_ret rfl rfl rfl (Or.inr ⟨rfl, by unfold gon; omega⟩)
            · refine wp_n 2 (pc' := 66) (L' := [(2, 127)]) (st' := [(0, 1)]) (g' := g) rfl ?_
              exact wp_ret rfl rfl rfl (Or.inl ⟨rfl, by unfold gon; omega⟩)
          · refine wp_n 2 (pc' := 49) (L' := [(2, 127)]) (st' := [(0, (g 127 11))]) (g' := g) rfl ?_
            refine wp_eq (L' := [(2, 127)]) (st' := [(0, (tkM (tK T L p)))]) (g' := g) ?_ (by rfl) (by rw [hT.2.1]) (by rfl)
            refine wp_n 1 (pc' := 51) (L' := [(2, 127)]) (st' := [(0, 44), (0, (tkM (tK T L p)))]) (g' := g) rfl ?_
            refine wp_ic_ne rfl (fun c9 => ?_) (fun c9 => ?_)
            · refine wp_n 1 (pc' := 66) (L' := [(2, 127)]) (st' := [(0, 0)]) (g' := g) rfl ?_
              exact wp_ret rfl rfl rfl (Or.inr ⟨rfl, by unfold gon; omega⟩)
            · refine wp_n 1 (pc' := 55) (L' := [(2, 127)]) (st' := [(2, 127)]) (g' := g) rfl ?_
              refine wp_cv (as := [(2, 127)]) (rest := []) rfl rfl rfl (Nat.le_of_ble_eq_true rfl) rfl (m_latest (by assumption)) (by decide) (fun r10 h11 => ?_)
              obtain rfl := h11
              refine wp_eq (L' := [(2, 127)]) (st' := [(0, (((lat σ) : Nat) : Int))]) (g' := g) ?_
              refine wp_if_le rfl (fun c12 => ?_) (fun c12 => ?_)
              · refine wp_n 1 (pc' := 66) (L' := [(2, 127)]) (st' := [(0, 0)]) (g' := g) rfl ?_
                exact wp_ret rfl rfl rfl (Or.inr ⟨rfl, by unfold gon; omega⟩)
              · refine wp_n 2 (pc' := 66) (L' := [(2, 127)]) (st' := [(0, 1)]) (g' := g) rfl ?_
                exact wp_ret rfl rfl rfl (Or.inl ⟨rfl, by unfold gon; omega⟩)
theorem PSt.push {t W N q : Nat} {σ : List Nat} {out : List Int} {g g1 : am_G} (hP : PSt t W N σ out g) (hF : ∀ c j, (c ≠ 127 ∨ j ≠ 20) → g1 c j = g c j) (h20 : g1 127 20 = (opn (q :: σ) : Int)) (hw : wf (q :: σ)) (h8 : opn (q :: σ) ≤ 8) (hN : W + out.length + σ.length + 1 ≤ N) : PSt t W N (q :: σ) out (am_up (am_up g1 132 σ.length (q : Int)) 127 19 ((σ.length : Int) + 1)) := by
  obtain ⟨a1, a2, a3, a4, a5, a6, a7, a8, a9, a10, a11⟩ := hP
  refine ⟨⟨(up_ne (by decide)).trans up_eq, a1.same fun j hj => (up_ne (by decide)).trans ((up_nj (by omega)).trans (hF 132 j (by omega)))⟩, ?_, (up_nj (by decide)).trans ((up_ne (by decide)).trans h20), (up_nj (by decide)).trans ((up_ne (by decide)).trans ((hF 127 16 (by omega)).trans a4)), a5.same fun j _ _ => (up_ne (by decide)).trans ((up_ne (by decide)).trans (hF 130 j (by omega))), (up_nj (by decide)).trans ((up_ne (by decide)).trans ((hF 127 14 (by omega)).trans a6)), hw, h8, ?_, a10, a11⟩
  · rw [up_eq]; rfl
  · show W + out.length + (σ.length + 1) ≤ N; omega
theorem stl_lat {l : Nat} : ∀ σ : List Nat, stl l σ = [] → lat σ = 0 := by
  intro σ
  induction σ with
  | nil => intro _; rfl
  | cons o t ih =>
    intro h
    by_cases q : o < 40 ∧ l ≤ o
    · rw [stl_y q] at h; rw [lat_n (by omega)]; exact ih h
    · rw [stl_n q] at h; cases h
