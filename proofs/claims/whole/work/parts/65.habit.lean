/-! HABIT -/
def hlast (c : am_G) (h : Int) : Nat → Int
  | 0 => -1
  | n + 1 => if c 13 n = h ∧ c 14 n ≠ -1 then c 14 n else hlast c h n
theorem hlast_s (c : am_G) (h : Int) (n : Nat) : hlast c h (n + 1) = if c 13 n = h ∧ c 14 n ≠ -1 then c 14 n else hlast c h n := rfl
def hman (c : am_G) (h : Int) : Nat → Nat
  | 0 => 0
  | n + 1 => hman c h n + (if c 13 n = h ∧ c 14 n ≠ -1 ∧ hlast c h n ≠ -1 then 1 else 0)
theorem hman_s (c : am_G) (h : Int) (n : Nat) : hman c h (n + 1) = hman c h n + (if c 13 n = h ∧ c 14 n ≠ -1 ∧ hlast c h n ≠ -1 then 1 else 0) := rfl
def htl (c : am_G) (P : Nat) (h : Int) (j : Nat) : Nat → Int
  | 0 => 0
  | n + 1 => htl c P h j n + (if c 13 n = h ∧ c 14 n ≠ -1 ∧ hlast c h n ≠ -1 then (if j = ((c 14 n - hlast c h n) % (P : Int)).toNat then 1 else 0) else 0)
theorem htl_s (c : am_G) (P : Nat) (h : Int) (j n : Nat) : htl c P h j (n + 1) = htl c P h j n + (if c 13 n = h ∧ c 14 n ≠ -1 ∧ hlast c h n ≠ -1 then (if j = ((c 14 n - hlast c h n) % (P : Int)).toNat then 1 else 0) else 0) := rfl
theorem hman_le (c : am_G) (h : Int) (n : Nat) : hman c h n ≤ n := by
  induction n with
  | zero => exact Nat.le_refl _
  | succ n ih => rw [hman_s]; split <;> omega
theorem htl_in (c : am_G) (P : Nat) (h : Int) (j n : Nat) : 0 ≤ htl c P h j n ∧ htl c P h j n ≤ (hman c h n : Int) := by
  induction n with
  | zero => exact ⟨Int.le_refl _, Int.le_refl _⟩
  | succ n ih =>
    rw [htl_s, hman_s]
    split
    · split <;> omega
    · omega
theorem hlast_in {c : am_G} {P : Nat} {h : Int} (hR : Rng P 0 c) (h5 : 5 ≤ P) : ∀ n, n ≤ 200 → -1 ≤ hlast c h n ∧ hlast c h n < (P : Int) := by
  intro n
  induction n with
  | zero => intro _; show -1 ≤ -1 ∧ (-1 : Int) < (P : Int); omega
  | succ n ih =>
    intro hn
    have h0 := ih (by omega)
    have h1 := hR.r14_13 n (by omega)
    rw [hlast_s]
    split <;> omega
def ws (T : Nat → Int) (P f : Nat) : Nat → Int
  | 0 => 0
  | i + 1 => ws T P f i + T ((f + i) % P)
theorem ws_s (T : Nat → Int) (P f i : Nat) : ws T P f (i + 1) = ws T P f i + T ((f + i) % P) := rfl
theorem ws_eq {T T' : Nat → Int} {P f : Nat} (hP : 0 < P) (h : ∀ j, j < P → T' j = T j) (i : Nat) : ws T' P f i = ws T P f i := by
  induction i with
  | zero => rfl
  | succ i ih => rw [ws_s, ws_s, ih, h _ (Nat.mod_lt _ hP)]
theorem ws_in {T : Nat → Int} {P f : Nat} {M : Int} (hP : 0 < P) (h : ∀ j, j < P → 0 ≤ T j ∧ T j ≤ M) (i : Nat) : 0 ≤ ws T P f i ∧ ws T P f i ≤ M * (i : Int) := by
  induction i with
  | zero => exact ⟨Int.le_refl _, by show (0 : Int) ≤ M * 0; omega⟩
  | succ i ih =>
    have := h _ (Nat.mod_lt (f + i) hP)
    rw [ws_s, Int.natCast_add, Int.natCast_one, Int.mul_add, Int.mul_one]
    omega
theorem ws_add (T U : Nat → Int) (P f i : Nat) : ws (fun j => T j + U j) P f i = ws T P f i + ws U P f i := by
  induction i with
  | zero => rfl
  | succ i ih => rw [ws_s, ws_s, ws_s, ih]; omega
theorem ws_one {P f d : Nat} (h5 : 5 ≤ P) (hf : f < P) {i : Nat} (hi : i ≤ 4) : ws (fun j => if j = d then 1 else 0) P f i ≤ 1 := by
  have m (k : Nat) (hk : k < 4) : (f + k) % P = f + k ∧ f + k < P ∨ (f + k) % P = f + k - P ∧ P ≤ f + k := by
    by_cases e : f + k < P
    · exact Or.inl ⟨Nat.mod_eq_of_lt e, e⟩
    · refine Or.inr ⟨?_, by omega⟩
      rw [Nat.mod_eq_sub_mod (by omega)]
      exact Nat.mod_eq_of_lt (by omega)
  have m0 := m 0 (by decide)
  have m1 := m 1 (by decide)
  have m2 := m 2 (by decide)
  have m3 := m 3 (by decide)
  rcases (show i = 0 ∨ i = 1 ∨ i = 2 ∨ i = 3 ∨ i = 4 by omega) with e | e | e | e | e <;> subst e
  · show (0 : Int) ≤ 1; decide
  · show 0 + (if (f + 0) % P = d then (1 : Int) else 0) ≤ 1
    split <;> omega
  · show 0 + (if (f + 0) % P = d then (1 : Int) else 0) + (if (f + 1) % P = d then (1 : Int) else 0) ≤ 1
    split <;> split <;> omega
  · show 0 + (if (f + 0) % P = d then (1 : Int) else 0) + (if (f + 1) % P = d then (1 : Int) else 0) + (if (f + 2) % P = d then (1 : Int) else 0) ≤ 1
    split <;> split <;> split <;> omega
  · show 0 + (if (f + 0) % P = d then (1 : Int) else 0) + (if (f + 1) % P = d then (1 : Int) else 0) + (if (f + 2) % P = d then (1 : Int) else 0) + (if (f + 3) % P = d then (1 : Int) else 0) ≤ 1
    split <;> split <;> split <;> split <;> omega
theorem ws_le {c : am_G} {P f : Nat} {h : Int} (h5 : 5 ≤ P) (hf : f < P) {i : Nat} (hi : i ≤ 4) (n : Nat) : ws (fun j => htl c P h j n) P f i ≤ (hman c h n : Int) := by
  induction n with
  | zero =>
    have := (ws_in (T := fun j => htl c P h j 0) (P := P) (f := f) (M := 0) (by omega) (fun j _ => ⟨Int.le_refl _, Int.le_refl _⟩) i).2
    show ws (fun j => htl c P h j 0) P f i ≤ 0
    omega
  | succ n ih =>
    have e : (fun j => htl c P h j (n + 1)) = fun j => htl c P h j n + (if c 13 n = h ∧ c 14 n ≠ -1 ∧ hlast c h n ≠ -1 then (if j = ((c 14 n - hlast c h n) % (P : Int)).toNat then 1 else 0) else 0) := funext fun j => htl_s c P h j n
    rw [e, ws_add, hman_s]
    by_cases q : c 13 n = h ∧ c 14 n ≠ -1 ∧ hlast c h n ≠ -1
    · rw [if_pos q]
      have := ws_one (d := ((c 14 n - hlast c h n) % (P : Int)).toNat) h5 hf hi
      simp only [if_pos q]
      omega
    · rw [if_neg q]
      have := (ws_in (T := fun _ => 0) (P := P) (f := f) (M := 0) (by omega) (fun j _ => ⟨Int.le_refl _, Int.le_refl _⟩) i).2
      simp only [if_neg q]
      omega
def hbT (c : am_G) (P : Nat) (h : Int) (j : Nat) : Int := htl c P h j (c 10 4).toNat
def hbF (c : am_G) (P : Nat) (h w : Int) : Nat := gmx (fun f => ws (hbT c P h) P f w.toNat) (P - 1)
def hbM (c : am_G) (P : Nat) (h w : Int) : Int := ws (hbT c P h) P (hbF c P h w) w.toNat
def HbD (h w x : Int) : Prop := 0 ≤ h ∧ h ≤ 3 ∧ 1 ≤ w ∧ w ≤ 4 ∧ 0 ≤ x ∧ x ≤ 3
def HbA (c : am_G) (P : Nat) (h w x v : Int) : Prop := (¬ HbD h w x ∧ v = -1) ∨ (HbD h w x ∧ hman c h (c 10 4).toNat = 0 ∧ v = -1) ∨ (HbD h w x ∧ hman c h (c 10 4).toNat ≠ 0 ∧ ((x = 0 ∧ v = (hbF c P h w : Int)) ∨ (x = 1 ∧ v = hbM c P h w) ∨ (x = 2 ∧ v = (hman c h (c 10 4).toNat : Int)) ∨ (x = 3 ∧ 60 < hman c h (c 10 4).toNat ∧ v = -1) ∨ (x = 3 ∧ hman c h (c 10 4).toNat ≤ 60 ∧ IsShare (tl w ((P : Int) - w) (hman c h (c 10 4).toNat) (hbM c P h w).toNat * (P : Int)) 1000000 ((P : Int) ^ (hman c h (c 10 4).toNat)) v)))
theorem HbA.uniq {c : am_G} {P : Nat} {h w x v v' : Int} (h5 : 5 ≤ P) (H : HbA c P h w x v) (H' : HbA c P h w x v') : v = v' := by
  have hw : (0 : Int) < (P : Int) ^ (hman c h (c 10 4).toNat) := Int.pow_pos (by omega)
  rcases H with H | H | ⟨a1, a2, H | H | H | H | H⟩ <;> rcases H' with H' | H' | ⟨a1', a2', H' | H' | H' | H' | H'⟩ <;> first | (exact H.2.2.uniq hw H'.2.2) | (exact absurd a1 H'.1) | (exact absurd a1' H.1) | (exact absurd H'.1 H.1) | (exact absurd H.1 H'.1) | (exfalso; have := H.1; have := H'.1; omega) | (exfalso; have := H.2.1; have := H'.2.1; omega) | (exfalso; have := H.2.1; omega) | (exfalso; have := H'.2.1; omega) | (exact H.2.trans H'.2.symm) | (exact H.2.2.trans H'.2.2.symm)
set_option maxHeartbeats 400000 in
set_option maxRecDepth 20000 in
theorem e_countD {sn : Nat} {sx : Nat → Int} {b : Nat} {g : am_G} {P : Nat} {x : Int} (hI : CInv P g) (hx : R32 x) : Ev sn sx 2 146 [(2, 0), (0, x)] (SH b) g (fun r => ∃ g', r = (some (0, ((hman g x (g 10 4).toNat : Nat) : Int)), SH b, g') ∧ (∀ j, j < 37 → g' 126 j = hbT g P x j) ∧ FrA 126 g g') := by
  have hP := hI.ck.2.1
  have h5 := hI.ck.1
  have hn := hI.rg.r10_6 4 rfl
  refine ev_of (K := 1) T146 (by decide) rfl rfl (Nat.le_of_ble_eq_true rfl) ?_
  refine wp_eq (L' := [(2, 0), (0, x), (9, 0), (9, 0), (9, 0), (9, 0)]) (st' := []) (g' := g) ?_
  refine wp_n 7 (pc' := 9) (L' := [(2, 0), (0, x), (0, 0), (0, (-1)), (9, 0), (9, 0)]) (st' := [(0, 0), (2, 126)]) (g' := g) rfl ?_
  refine wp_cs (as := [(2, 126), (0, 0)]) (rest := []) rfl (by decide) rfl (Nat.le_of_ble_eq_true rfl) (e_fill (k := 126) rfl) (by decide) (fun r1 h2 => ?_)
  obtain ⟨g9, rfl, hZ9, hF9⟩ := h2
  refine wp_eq (L' := [(2, 0), (0, x), (0, 0), (0, (-1)), (9, 0), (9, 0)]) (st' := []) (g' := g9) ?_
  refine wp_n 2 (pc' := 15) (L' := [(2, 0), (0, x), (0, 0), (0, (-1)), (0, 0), (9, 0)]) (st' := []) (g' := g9) rfl ?_
  have L15 : ∀ (lf : Nat) (i : Nat) (h : am_G) (w5 : am_V), (g 10 4).toNat - i < lf → (i ≤ (g 10 4).toNat) → (∀ j, j < 37 → h 126 j = htl g P x j i) → (FrA 126 g h) → Wp sn sx 1 T146 15 [(2, 0), (0, x), (0, (((hman g x i) : Nat) : Int)), (0, (hlast g x i)), (0, ((i : Nat) : Int)), w5] [] (SH b) h (fun r => ∃ g', r = (some (0, ((hman g x (g 10 4).toNat : Nat) : Int)), SH b, g') ∧ (∀ j, j < 37 → g' 126 j = hbT g P x j) ∧ FrA 126 g g') := by
    intro lf
    induction lf with
    | zero => intro i h w5 hlf; exact absurd hlf (Nat.not_lt_zero _)
    | succ lf ih15 =>
      intro i h w5 hlf hi hH hF
      refine wp_n 4 (pc' := 24) (L' := [(2, 0), (0, x), (0, (((hman g x i) : Nat) : Int)), (0, (hlast g x i)), (0, ((i : Nat) : Int)), w5]) (st' := [(0, (h 10 4)), (0, ((i : Nat) : Int))]) (g' := h) rfl ?_
      refine wp_eq (L' := [(2, 0), (0, x), (0, (((hman g x i) : Nat) : Int)), (0, (hlast g x i)), (0, ((i : Nat) : Int)), w5]) (st' := [(0, (g 10 4)), (0, ((i : Nat) : Int))]) (g' := h) ?_ (by rfl) (by rw [hF 10 _ (by decide)]) (by rfl)
      refine wp_ic_ge rfl (fun c3 => ?_) (fun c3 => ?_)
      · have hk2 : i = (g 10 4).toNat := by omega
        refine wp_n 1 (pc' := 97) (L' := [(2, 0), (0, x), (0, (((hman g x i) : Nat) : Int)), (0, (hlast g x i)), (0, ((i : Nat) : Int)), w5]) (st' := [(0, (((hman g x i) : Nat) : Int))]) (g' := h) rfl ?_
        exact wp_ret rfl rfl rfl ⟨_, by rw [hk2], fun j hj => by rw [hH j hj, hk2]; rfl, hF⟩
      · have h13 := hI.rg.r13_12 i (by omega)
        have h14 := hI.rg.r14_13 i (by omega)
        have hla := hlast_in (h := x) hI.rg h5.1 i (by omega)
        refine wp_n 4 (pc' := 36) (L' := [(2, 0), (0, x), (0, (((hman g x i) : Nat) : Int)), (0, (hlast g x i)), (0, ((i : Nat) : Int)), w5]) (st' := [(0, ((i : Nat) : Int)), (2, 14)]) (g' := h) rfl ?_
        refine wp_iald (k := 14) (i) rfl rfl (by omega) (by omega) (by decide) ?_
        refine wp_eq (L' := [(2, 0), (0, x), (0, (((hman g x i) : Nat) : Int)), (0, (hlast g x i)), (0, ((i : Nat) : Int)), w5]) (st' := [(0, (g 14 i))]) (g' := h) ?_ (by rfl) (by rw [hF 14 _ (by decide)]) (by rfl)
        refine wp_n 5 (pc' := 48) (L' := [(2, 0), (0, x), (0, (((hman g x i) : Nat) : Int)), (0, (hlast g x i)), (0, ((i : Nat) : Int)), (0, (g 14 i))]) (st' := [(0, ((i : Nat) : Int)), (2, 13)]) (g' := h) rfl ?_
        refine wp_iald (k := 13) (i) rfl rfl (by omega) (by omega) (by decide) ?_
        refine wp_eq (L' := [(2, 0), (0, x), (0, (((hman g x i) : Nat) : Int)), (0, (hlast g x i)), (0, ((i : Nat) : Int)), (0, (g 14 i))]) (st' := [(0, (g 13 i))]) (g' := h) ?_ (by rfl) (by rw [hF 13 _ (by decide)]) (by rfl)
        refine wp_n 1 (pc' := 50) (L' := [(2, 0), (0, x), (0, (((hman g x i) : Nat) : Int)), (0, (hlast g x i)), (0, ((i : Nat) : Int)), (0, (g 14 i))]) (st' := [(0, x), (0, (g 13 i))]) (g' := h) rfl ?_
        refine wp_ic_ne rfl (fun c4 => ?_) (fun c4 => ?_)
        · have hq2 : ¬ (g 13 i = x ∧ g 14 i ≠ -1) := fun e => absurd e.1 (by omega)
          have hq1 : ¬ (g 13 i = x ∧ g 14 i ≠ -1 ∧ hlast g x i ≠ -1) := fun e => absurd e.1 (by omega)
          refine wp_n 2 (pc' := 15) (L' := [(2, 0), (0, x), (0, (((hman g x i) : Nat) : Int)), (0, (hlast g x i)), (0, (((i : Nat) : Int) + 1)), (0, (g 14 i))]) (st' := []) (g' := h) rfl ?_
          refine wp_eq (ih15 (i + 1) (h) ((0, (g 14 i))) ?_ ?_ ?_ ?_) (by first
          | (rw [hman_s, hlast_s, if_neg hq1, if_neg hq2]; rfl)
          | (rw [hman_s, hlast_s, if_neg hq1, if_pos hq2]; rfl)
          | (rw [hman_s, hlast_s, if_pos hq1, if_pos hq2]; rfl)) (by rfl) (by rfl)
          · omega
          · omega
          · first
            | (intro j hj; rw [htl_s, if_neg hq1, Int.add_zero]; exact hH j hj)
            | (intro j hj
               rw [htl_s, if_pos hq1]
               by_cases q : j = ((g 14 i - hlast g x i) % (P : Int)).toNat
               · rw [if_pos q, ← q, up_eq, hH j hj]
               · rw [if_neg q, up_nj q, hH j hj, Int.add_zero])
          · first | exact hF | exact fun c j hc => by rw [up_ne hc]; exact hF c j hc
        · refine wp_n 2 (pc' := 56) (L' := [(2, 0), (0, x), (0, (((hman g x i) : Nat) : Int)), (0, (hlast g x i)), (0, ((i : Nat) : Int)), (0, (g 14 i))]) (st' := [(0, (-1)), (0, (g 14 i))]) (g' := h) rfl ?_
          refine wp_ic_eq rfl (fun c5 => ?_) (fun c5 => ?_)
          · have hq2 : ¬ (g 13 i = x ∧ g 14 i ≠ -1) := fun e => e.2 (by omega)
            have hq1 : ¬ (g 13 i = x ∧ g 14 i ≠ -1 ∧ hlast g x i ≠ -1) := fun e => e.2.1 (by omega)
            refine wp_n 2 (pc' := 15) (L' := [(2, 0), (0, x), (0, (((hman g x i) : Nat) : Int)), (0, (hlast g x i)), (0, (((i : Nat) : Int) + 1)), (0, (g 14 i))]) (st' := []) (g' := h) rfl ?_
            refine wp_eq (ih15 (i + 1) (h) ((0, (g 14 i))) ?_ ?_ ?_ ?_) (by first
            | (rw [hman_s, hlast_s, if_neg hq1, if_neg hq2]; rfl)
            | (rw [hman_s, hlast_s, if_neg hq1, if_pos hq2]; rfl)
            | (rw [hman_s, hlast_s, if_pos hq1, if_pos hq2]; rfl)) (by rfl) (by rfl)
            · omega
            · omega
            · first
              | (intro j hj; rw [htl_s, if_neg hq1, Int.add_zero]; exact hH j hj)
              | (intro j hj
                 rw [htl_s, if_pos hq1]
                 by_cases q : j = ((g 14 i - hlast g x i) % (P : Int)).toNat
                 · rw [if_pos q, ← q, up_eq, hH j hj]
                 · rw [if_neg q, up_nj q, hH j hj, Int.add_zero])
            · first | exact hF | exact fun c j hc => by rw [up_ne hc]; exact hF c j hc
          · refine wp_n 2 (pc' := 61) (L' := [(2, 0), (0, x), (0, (((hman g x i) : Nat) : Int)), (0, (hlast g x i)), (0, ((i : Nat) : Int)), (0, (g 14 i))]) (st' := [(0, (-1)), (0, (hlast g x i))]) (g' := h) rfl ?_
            refine wp_ic_eq rfl (fun c6 => ?_) (fun c6 => ?_)
            · have hq2 : g 13 i = x ∧ g 14 i ≠ -1 := ⟨by omega, by omega⟩
              have hq1 : ¬ (g 13 i = x ∧ g 14 i ≠ -1 ∧ hlast g x i ≠ -1) := fun e => e.2.2 (by omega)
              refine wp_n 4 (pc' := 15) (L' := [(2, 0), (0, x), (0, (((hman g x i) : Nat) : Int)), (0, (g 14 i)), (0, (((i : Nat) : Int) + 1)), (0, (g 14 i))]) (st' := []) (g' := h) rfl ?_
              refine wp_eq (ih15 (i + 1) (h) ((0, (g 14 i))) ?_ ?_ ?_ ?_) (by first
              | (rw [hman_s, hlast_s, if_neg hq1, if_neg hq2]; rfl)
              | (rw [hman_s, hlast_s, if_neg hq1, if_pos hq2]; rfl)
              | (rw [hman_s, hlast_s, if_pos hq1, if_pos hq2]; rfl)) (by rfl) (by rfl)
              · omega
              · omega
              · first
                | (intro j hj; rw [htl_s, if_neg hq1, Int.add_zero]; exact hH j hj)
                | (intro j hj
                   rw [htl_s, if_pos hq1]
                   by_cases q : j = ((g 14 i - hlast g x i) % (P : Int)).toNat
                   · rw [if_pos q, ← q, up_eq, hH j hj]
                   · rw [if_neg q, up_nj q, hH j hj, Int.add_zero])
              · first | exact hF | exact fun c j hc => by rw [up_ne hc]; exact hF c j hc
            · have hq2 : g 13 i = x ∧ g 14 i ≠ -1 := ⟨by omega, by omega⟩
              have hq1 : g 13 i = x ∧ g 14 i ≠ -1 ∧ hlast g x i ≠ -1 := ⟨by omega, by omega, by omega⟩
              have hm0 := Int.emod_nonneg (g 14 i - hlast g x i) (show (P : Int) ≠ 0 by omega)
              have hm1 := Int.emod_lt_of_pos (g 14 i - hlast g x i) (show (0 : Int) < (P : Int) by omega)
              refine wp_n 7 (pc' := 76) (L' := [(2, 0), (0, x), (0, (((hman g x i) : Nat) : Int)), (0, (hlast g x i)), (0, ((i : Nat) : Int)), (0, (g 14 i))]) (st' := [(0, (h 0 0)), (0, ((g 14 i) - (hlast g x i))), (2, 126)]) (g' := h) rfl ?_
              refine wp_eq (L' := [(2, 0), (0, x), (0, (((hman g x i) : Nat) : Int)), (0, (hlast g x i)), (0, ((i : Nat) : Int)), (0, (g 14 i))]) (st' := [(0, ((P : Nat) : Int)), (0, ((g 14 i) - (hlast g x i))), (2, 126)]) (g' := h) ?_ (by rfl) (by rw [hF 0 _ (by decide), hP]) (by rfl)
              refine wp_cs (as := [(0, ((g 14 i) - (hlast g x i))), (0, ((P : Nat) : Int))]) (rest := [(2, 126)]) rfl (by decide) rfl (Nat.le_of_ble_eq_true rfl) (e_floorMod (by omega) (by omega)) (by decide) (fun r7 h8 => ?_)
              obtain rfl := h8
              refine wp_eq (L' := [(2, 0), (0, x), (0, (((hman g x i) : Nat) : Int)), (0, (hlast g x i)), (0, ((i : Nat) : Int)), (0, (g 14 i))]) (st' := [(0, (((g 14 i) - (hlast g x i)) % ((P : Nat) : Int))), (2, 126)]) (g' := h) ?_
              refine wp_n 1 (pc' := 80) (L' := [(2, 0), (0, x), (0, (((hman g x i) : Nat) : Int)), (0, (hlast g x i)), (0, ((i : Nat) : Int)), (0, (g 14 i))]) (st' := [(0, (((g 14 i) - (hlast g x i)) % ((P : Nat) : Int))), (2, 126), (0, (((g 14 i) - (hlast g x i)) % ((P : Nat) : Int))), (2, 126)]) (g' := h) rfl ?_
              refine wp_iald (k := 126) (((g 14 i - hlast g x i) % (P : Int)).toNat) rfl rfl (by omega) (by omega) (by decide) ?_
              refine wp_n 2 (pc' := 83) (L' := [(2, 0), (0, x), (0, (((hman g x i) : Nat) : Int)), (0, (hlast g x i)), (0, ((i : Nat) : Int)), (0, (g 14 i))]) (st' := [(0, ((h 126 ((g 14 i - hlast g x i) % (P : Int)).toNat) + 1)), (0, (((g 14 i) - (hlast g x i)) % ((P : Nat) : Int))), (2, 126)]) (g' := h) rfl ?_
              refine wp_iast (k := 126) (((g 14 i - hlast g x i) % (P : Int)).toNat) rfl rfl (by omega) (by omega) (by decide) ?_
              refine wp_n 5 (pc' := 15) (L' := [(2, 0), (0, x), (0, ((((hman g x i) : Nat) : Int) + 1)), (0, (g 14 i)), (0, (((i : Nat) : Int) + 1)), (0, (g 14 i))]) (st' := []) (g' := (am_up h 126 (((g 14 i - hlast g x i) % (P : Int)).toNat) ((h 126 ((g 14 i - hlast g x i) % (P : Int)).toNat) + 1))) rfl ?_
              refine wp_eq (ih15 (i + 1) ((am_up h 126 (((g 14 i - hlast g x i) % (P : Int)).toNat) ((h 126 ((g 14 i - hlast g x i) % (P : Int)).toNat) + 1))) ((0, (g 14 i))) ?_ ?_ ?_ ?_) (by first
              | (rw [hman_s, hlast_s, if_neg hq1, if_neg hq2]; rfl)
              | (rw [hman_s, hlast_s, if_neg hq1, if_pos hq2]; rfl)
              | (rw [hman_s, hlast_s, if_pos hq1, if_pos hq2]; rfl)) (by rfl) (by rfl)
              · omega
              · omega
              · first
                | (intro j hj; rw [htl_s, if_neg hq1, Int.add_zero]; exact hH j hj)
                | (intro j hj
                   rw [htl_s, if_pos hq1]
                   by_cases q : j = ((g 14 i - hlast g x i) % (P : Int)).toNat
                   · rw [if_pos q, ← q, up_eq, hH j hj]
                   · rw [if_neg q, up_nj q, hH j hj, Int.add_zero])
              · first | exact hF | exact fun c j hc => by rw [up_ne hc]; exact hF c j hc
  refine wp_eq (L15 (_ + 1) (0) (g9) ((9, 0)) (Nat.lt_succ_self _) ?_ ?_ ?_) (by rfl) (by rfl) (by rfl)
  · exact Nat.zero_le _
  · exact hZ9
  · exact hF9
def FrKT (g h : am_G) : Prop := ∀ c j, c ≠ 126 → (c < 103 ∨ 119 < c ∨ c = 103 ∧ j < 9) → h c j = g c j
set_option maxHeartbeats 400000 in
set_option maxRecDepth 20000 in
theorem e_inWidth {sn : Nat} {sx : Nat → Int} {b : Nat} {g : am_G} {P f : Nat} {w : Int} (hP : g 0 0 = (P : Int)) (h5 : 5 ≤ P ∧ P ≤ 37) (hf : f < P) (hw : 1 ≤ w ∧ w ≤ 4) : Ev sn sx 1 148 [(2, 0), (0, ((f : Nat) : Int)), (0, w)] (SH b) g (fun r => r = (some (0, ws (g 126) P f w.toNat), SH b, g)) := by
  refine ev_of (K := 0) T148 (by decide) rfl rfl (Nat.le_of_ble_eq_true rfl) ?_
  refine wp_eq (L' := [(2, 0), (0, ((f : Nat) : Int)), (0, w), (9, 0), (9, 0)]) (st' := []) (g' := g) ?_
  refine wp_n 4 (pc' := 5) (L' := [(2, 0), (0, ((f : Nat) : Int)), (0, w), (0, 0), (0, 0)]) (st' := []) (g' := g) rfl ?_
  have L5 : ∀ (lf : Nat) (i : Nat), w.toNat - i < lf → (i ≤ w.toNat) → Wp sn sx 0 T148 5 [(2, 0), (0, ((f : Nat) : Int)), (0, w), (0, (ws (g 126) P f i)), (0, ((i : Nat) : Int))] [] (SH b) g (fun r => r = (some (0, ws (g 126) P f w.toNat), SH b, g)) := by
    intro lf
    induction lf with
    | zero => intro i hlf; exact absurd hlf (Nat.not_lt_zero _)
    | succ lf ih5 =>
      intro i hlf hi
      refine wp_n 2 (pc' := 8) (L' := [(2, 0), (0, ((f : Nat) : Int)), (0, w), (0, (ws (g 126) P f i)), (0, ((i : Nat) : Int))]) (st' := [(0, w), (0, ((i : Nat) : Int))]) (g' := g) rfl ?_
      refine wp_ic_ge rfl (fun c1 => ?_) (fun c1 => ?_)
      · have hk2 : w.toNat = i := by omega
        refine wp_n 1 (pc' := 35) (L' := [(2, 0), (0, ((f : Nat) : Int)), (0, w), (0, (ws (g 126) P f i)), (0, ((i : Nat) : Int))]) (st' := [(0, (ws (g 126) P f i))]) (g' := g) rfl ?_
        exact wp_ret rfl rfl rfl (by rw [hk2])
      · refine wp_n 8 (pc' := 24) (L' := [(2, 0), (0, ((f : Nat) : Int)), (0, w), (0, (ws (g 126) P f i)), (0, ((i : Nat) : Int))]) (st' := [(0, (g 0 0)), (0, (((f : Nat) : Int) + ((i : Nat) : Int))), (2, 126), (0, (ws (g 126) P f i))]) (g' := g) rfl ?_
        refine wp_eq (L' := [(2, 0), (0, ((f : Nat) : Int)), (0, w), (0, (ws (g 126) P f i)), (0, ((i : Nat) : Int))]) (st' := [(0, ((P : Nat) : Int)), (0, (((f : Nat) : Int) + ((i : Nat) : Int))), (2, 126), (0, (ws (g 126) P f i))]) (g' := g) ?_ (by rfl) (by rw [hP]) (by rfl)
        refine wp_irem rfl (by omega) (by omega) (by omega) ?_
        refine wp_eq (L' := [(2, 0), (0, ((f : Nat) : Int)), (0, w), (0, (ws (g 126) P f i)), (0, ((i : Nat) : Int))]) (st' := [(0, ((((f : Nat) : Int) + ((i : Nat) : Int)) % ((P : Nat) : Int))), (2, 126), (0, (ws (g 126) P f i))]) (g' := g) ?_ (by rfl) (by rw [Int.tmod_eq_emod_of_nonneg (show 0 ≤ (f : Int) + (i : Int) by omega)]) (by rfl)
        refine wp_iald (k := 126) (((f + i) % P)) rfl rfl rfl (Nat.lt_of_lt_of_le (Nat.mod_lt _ (by omega)) h5.2) (by decide) ?_
        refine wp_n 4 (pc' := 5) (L' := [(2, 0), (0, ((f : Nat) : Int)), (0, w), (0, ((ws (g 126) P f i) + (g 126 ((f + i) % P)))), (0, (((i : Nat) : Int) + 1))]) (st' := []) (g' := g) rfl ?_
        refine wp_eq (ih5 (i + 1) ?_ ?_) (by rw [ws_s]; rfl) (by rfl) (by rfl)
        · omega
        · omega
  refine wp_eq (L5 (_ + 1) (0) (Nat.lt_succ_self _) ?_) (by first | rfl | (simp; done) | (simp; omega)) (by rfl) (by rfl)
  · exact Nat.zero_le _
set_option maxHeartbeats 400000 in
set_option maxRecDepth 20000 in
theorem e_widest {sn : Nat} {sx : Nat → Int} {b : Nat} {g : am_G} {P : Nat} {w : Int} (hP : g 0 0 = (P : Int)) (h5 : 5 ≤ P ∧ P ≤ 37) (hw : 1 ≤ w ∧ w ≤ 4) (hr : ∀ j, j < P → 0 ≤ g 126 j ∧ g 126 j ≤ 200) : Ev sn sx 2 147 [(2, 0), (0, w)] (SH b) g (fun r => r = (some (0, ((gmx (fun f => ws (g 126) P f w.toNat) (P - 1) : Nat) : Int)), SH b, g)) := by
  refine ev_of (K := 1) T147 (by decide) rfl rfl (Nat.le_of_ble_eq_true rfl) ?_
  refine wp_eq (L' := [(2, 0), (0, w), (9, 0), (9, 0)]) (st' := []) (g' := g) ?_
  refine wp_n 4 (pc' := 4) (L' := [(2, 0), (0, w), (0, 0), (0, 1)]) (st' := []) (g' := g) rfl ?_
  have L4 : ∀ (lf : Nat) (i : Nat), P - i < lf → (i + 1 ≤ P) → Wp sn sx 1 T147 4 [(2, 0), (0, w), (0, (((gmx (fun f => ws (g 126) P f w.toNat) i) : Nat) : Int)), (0, (((i + 1) : Nat) : Int))] [] (SH b) g (fun r => r = (some (0, ((gmx (fun f => ws (g 126) P f w.toNat) (P - 1) : Nat) : Int)), SH b, g)) := by
    intro lf
    induction lf with
    | zero => intro i hlf; exact absurd hlf (Nat.not_lt_zero _)
    | succ lf ih4 =>
      intro i hlf hi
      refine wp_n 3 (pc' := 9) (L' := [(2, 0), (0, w), (0, (((gmx (fun f => ws (g 126) P f w.toNat) i) : Nat) : Int)), (0, (((i + 1) : Nat) : Int))]) (st' := [(0, (g 0 0)), (0, (((i + 1) : Nat) : Int))]) (g' := g) rfl ?_
      refine wp_eq (L' := [(2, 0), (0, w), (0, (((gmx (fun f => ws (g 126) P f w.toNat) i) : Nat) : Int)), (0, (((i + 1) : Nat) : Int))]) (st' := [(0, ((P : Nat) : Int)), (0, (((i + 1) : Nat) : Int))]) (g' := g) ?_ (by rfl) (by rw [hP]) (by rfl)
      refine wp_ic_ge rfl (fun c1 => ?_) (fun c1 => ?_)
      · have hk2 : P - 1 = i := by omega
        refine wp_n 1 (pc' := 36) (L' := [(2, 0), (0, w), (0, (((gmx (fun f => ws (g 126) P f w.toNat) i) : Nat) : Int)), (0, (((i + 1) : Nat) : Int))]) (st' := [(0, (((gmx (fun f => ws (g 126) P f w.toNat) i) : Nat) : Int))]) (g' := g) rfl ?_
        exact wp_ret rfl rfl rfl (by rw [hk2])
      · have hg1 := gmx_le (fun f => ws (g 126) P f w.toNat) i
        have hw1 := ws_in (f := i + 1) (by omega) hr w.toNat
        have hw2 := ws_in (f := gmx (fun f => ws (g 126) P f w.toNat) i) (by omega) hr w.toNat
        refine wp_n 3 (pc' := 15) (L' := [(2, 0), (0, w), (0, (((gmx (fun f => ws (g 126) P f w.toNat) i) : Nat) : Int)), (0, (((i + 1) : Nat) : Int))]) (st' := [(0, w), (0, (((i + 1) : Nat) : Int)), (2, 0)]) (g' := g) rfl ?_
        refine wp_cv (as := [(2, 0), (0, (((i + 1) : Nat) : Int)), (0, w)]) (rest := []) rfl rfl rfl (Nat.le_of_ble_eq_true rfl) rfl (e_inWidth (P := P) (f := ((i + 1))) (by assumption) h5 (by omega) (by omega)) (by decide) (fun r2 h3 => ?_)
        obtain rfl := h3
        refine wp_eq (L' := [(2, 0), (0, w), (0, (((gmx (fun f => ws (g 126) P f w.toNat) i) : Nat) : Int)), (0, (((i + 1) : Nat) : Int))]) (st' := [(0, (ws (g 126) P ((i + 1)) w.toNat))]) (g' := g) ?_
        refine wp_n 3 (pc' := 21) (L' := [(2, 0), (0, w), (0, (((gmx (fun f => ws (g 126) P f w.toNat) i) : Nat) : Int)), (0, (((i + 1) : Nat) : Int))]) (st' := [(0, w), (0, (((gmx (fun f => ws (g 126) P f w.toNat) i) : Nat) : Int)), (2, 0), (0, (ws (g 126) P ((i + 1)) w.toNat))]) (g' := g) rfl ?_
        refine wp_cv (as := [(2, 0), (0, (((gmx (fun f => ws (g 126) P f w.toNat) i) : Nat) : Int)), (0, w)]) (rest := [(0, (ws (g 126) P ((i + 1)) w.toNat))]) rfl rfl rfl (Nat.le_of_ble_eq_true rfl) rfl (e_inWidth (P := P) (f := ((gmx (fun f => ws (g 126) P f w.toNat) i))) (by assumption) h5 (by omega) (by omega)) (by decide) (fun r4 h5 => ?_)
        obtain rfl := h5
        refine wp_eq (L' := [(2, 0), (0, w), (0, (((gmx (fun f => ws (g 126) P f w.toNat) i) : Nat) : Int)), (0, (((i + 1) : Nat) : Int))]) (st' := [(0, (ws (g 126) P ((gmx (fun f => ws (g 126) P f w.toNat) i)) w.toNat)), (0, (ws (g 126) P ((i + 1)) w.toNat))]) (g' := g) ?_
        refine wp_ic_le rfl (fun c6 => ?_) (fun c6 => ?_)
        · have hq : ¬ (fun f => ws (g 126) P f w.toNat) (gmx (fun f => ws (g 126) P f w.toNat) i) < (fun f => ws (g 126) P f w.toNat) (i + 1) := by show ¬ ws (g 126) P (gmx (fun f => ws (g 126) P f w.toNat) i) w.toNat < ws (g 126) P (i + 1) w.toNat; omega
          refine wp_n 2 (pc' := 4) (L' := [(2, 0), (0, w), (0, (((gmx (fun f => ws (g 126) P f w.toNat) i) : Nat) : Int)), (0, ((((i + 1) : Nat) : Int) + 1))]) (st' := []) (g' := g) rfl ?_
          refine wp_eq (ih4 (i + 1) ?_ ?_) (by first | (rw [gmx_s, if_pos hq]; rfl) | (rw [gmx_s, if_neg hq]; rfl)) (by rfl) (by rfl)
          · omega
          · omega
        · have hq : (fun f => ws (g 126) P f w.toNat) (gmx (fun f => ws (g 126) P f w.toNat) i) < (fun f => ws (g 126) P f w.toNat) (i + 1) := by show ws (g 126) P (gmx (fun f => ws (g 126) P f w.toNat) i) w.toNat < ws (g 126) P (i + 1) w.toNat; omega
          refine wp_n 4 (pc' := 4) (L' := [(2, 0), (0, w), (0, (((i + 1) : Nat) : Int)), (0, ((((i + 1) : Nat) : Int) + 1))]) (st' := []) (g' := g) rfl ?_
          refine wp_eq (ih4 (i + 1) ?_ ?_) (by first | (rw [gmx_s, if_pos hq]; rfl) | (rw [gmx_s, if_neg hq]; rfl)) (by rfl) (by rfl)
          · omega
          · omega
  refine wp_eq (L4 (_ + 1) (0) (Nat.lt_succ_self _) ?_) (by first | rfl | (simp; done) | (simp; omega)) (by rfl) (by rfl)
  · omega
set_option maxHeartbeats 400000 in
set_option maxRecDepth 20000 in
theorem e_habit {sn : Nat} {sx : Nat → Int} {b : Nat} {g : am_G} {P : Nat} {x w y : Int} (h_x : R32 x) (h_w : R32 w) (h_y : R32 y) (hI : CInv P g) : Ev sn sx 6 119 [(2, 0), (0, x), (0, w), (0, y)] (SH b) g (fun q => ∃ g' v, q = (some (0, v), SH b, g') ∧ HbA g P x w y v ∧ CLs g' ∧ FrKT g g') := by
  have hP := hI.ck.2.1
  have h5 := hI.ck.1
  have hn := hI.rg.r10_6 4 rfl
  have hml := hman_le g x (g 10 4).toNat
  refine ev_of (K := 5) T119 (by decide) rfl rfl (Nat.le_of_ble_eq_true rfl) ?_
  refine wp_eq (L' := [(2, 0), (0, x), (0, w), (0, y), (9, 0), (9, 0), (9, 0)]) (st' := []) (g' := g) ?_
  refine wp_n 1 (pc' := 1) (L' := [(2, 0), (0, x), (0, w), (0, y), (9, 0), (9, 0), (9, 0)]) (st' := [(0, x)]) (g' := g) rfl ?_
  refine wp_cs (as := [(0, x)]) (rest := []) rfl (by decide) rfl (Nat.le_of_ble_eq_true rfl) (e_isHand (by omega)) (by decide) (fun r2 h3 => ?_)
  rcases h3 with ⟨rfl, p1⟩ | ⟨rfl, p1⟩
  · refine wp_eq (L' := [(2, 0), (0, x), (0, w), (0, y), (9, 0), (9, 0), (9, 0)]) (st' := [(0, 1)]) (g' := g) ?_
    refine wp_n 4 (pc' := 10) (L' := [(2, 0), (0, x), (0, w), (0, y), (9, 0), (9, 0), (9, 0)]) (st' := [(0, 4), (0, 1), (0, w)]) (g' := g) rfl ?_
    refine wp_cs (as := [(0, w), (0, 1), (0, 4)]) (rest := []) rfl (by decide) rfl (Nat.le_of_ble_eq_true rfl) (e_within (by omega) (by omega) (by omega)) (by decide) (fun r5 h6 => ?_)
    rcases h6 with ⟨rfl, p4⟩ | ⟨rfl, p4⟩
    · refine wp_eq (L' := [(2, 0), (0, x), (0, w), (0, y), (9, 0), (9, 0), (9, 0)]) (st' := [(0, 1)]) (g' := g) ?_
      refine wp_n 4 (pc' := 19) (L' := [(2, 0), (0, x), (0, w), (0, y), (9, 0), (9, 0), (9, 0)]) (st' := [(0, 3), (0, 0), (0, y)]) (g' := g) rfl ?_
      refine wp_cs (as := [(0, y), (0, 0), (0, 3)]) (rest := []) rfl (by decide) rfl (Nat.le_of_ble_eq_true rfl) (e_within (by omega) (by omega) (by omega)) (by decide) (fun r8 h9 => ?_)
      rcases h9 with ⟨rfl, p7⟩ | ⟨rfl, p7⟩
      · refine wp_eq (L' := [(2, 0), (0, x), (0, w), (0, y), (9, 0), (9, 0), (9, 0)]) (st' := [(0, 1)]) (g' := g) ?_
        refine wp_n 3 (pc' := 29) (L' := [(2, 0), (0, x), (0, w), (0, y), (9, 0), (9, 0), (9, 0)]) (st' := [(0, x), (2, 0)]) (g' := g) rfl ?_
        refine wp_cv (as := [(2, 0), (0, x)]) (rest := []) rfl rfl rfl (Nat.le_of_ble_eq_true rfl) rfl (e_countD (P := P) hI (by omega)) (by decide) (fun r10 h11 => ?_)
        obtain ⟨g29, rfl, hH29, hF29⟩ := h11
        have hT : ∀ j, j < P → g29 126 j = hbT g P x j := fun j hj => hH29 j (by omega)
        have hws : ∀ f, ws (g29 126) P f w.toNat = ws (hbT g P x) P f w.toNat := fun f => ws_eq (by omega) hT w.toNat
        have hgm : gmx (fun f => ws (g29 126) P f w.toNat) (P - 1) = hbF g P x w := by rw [show (fun f => ws (g29 126) P f w.toNat) = fun f => ws (hbT g P x) P f w.toNat from funext hws]; rfl
        have hfl : hbF g P x w ≤ P - 1 := gmx_le _ _
        have hwi := ws_in (T := hbT g P x) (P := P) (f := hbF g P x w) (M := 200) (by omega) (fun j _ => by have := htl_in g P x j (g 10 4).toNat; unfold hbT; omega) w.toNat
        have hwl := ws_le (c := g) (P := P) (f := hbF g P x w) (h := x) h5.1 (by omega) (i := w.toNat) (by omega) (g 10 4).toNat
        have hm0 : 0 ≤ hbM g P x w ∧ hbM g P x w ≤ (hman g x (g 10 4).toNat : Int) := ⟨hwi.1, hwl⟩
        have hFK : FrKT g g29 := fun c j q1 q2 => hF29 c j q1
        have hP29 : g29 0 0 = (P : Int) := by rw [hF29 0 0 (by decide)]; exact hP
        have hP103 : g29 103 0 = (P : Int) := by rw [hF29 103 0 (by decide)]; exact hI.ck.2.2.2.2.2.2
        have hCL : CLs g29 := hI.cls.same fun c j q1 q2 => hF29 c j (by omega)
        refine wp_eq (L' := [(2, 0), (0, x), (0, w), (0, y), (9, 0), (9, 0), (9, 0)]) (st' := [(0, (((hman g x (g 10 4).toNat) : Nat) : Int))]) (g' := g29) ?_
        refine wp_n 2 (pc' := 36) (L' := [(2, 0), (0, x), (0, w), (0, y), (0, (((hman g x (g 10 4).toNat) : Nat) : Int)), (9, 0), (9, 0)]) (st' := [(0, (((hman g x (g 10 4).toNat) : Nat) : Int))]) (g' := g29) rfl ?_
        refine wp_if_ne rfl (fun c12 => ?_) (fun c12 => ?_)
        · refine wp_n 2 (pc' := 43) (L' := [(2, 0), (0, x), (0, w), (0, y), (0, (((hman g x (g 10 4).toNat) : Nat) : Int)), (9, 0), (9, 0)]) (st' := [(0, 2), (0, y)]) (g' := g29) rfl ?_
          refine wp_ic_ne rfl (fun c13 => ?_) (fun c13 => ?_)
          · refine wp_n 2 (pc' := 51) (L' := [(2, 0), (0, x), (0, w), (0, y), (0, (((hman g x (g 10 4).toNat) : Nat) : Int)), (9, 0), (9, 0)]) (st' := [(0, w), (2, 0)]) (g' := g29) rfl ?_
            refine wp_cv (as := [(2, 0), (0, w)]) (rest := []) rfl rfl rfl (Nat.le_of_ble_eq_true rfl) rfl (e_widest (P := P) hP29 h5 (by omega) (fun j hj => by rw [hT j hj]; have := htl_in g P x j (g 10 4).toNat; unfold hbT; omega)) (by decide) (fun r14 h15 => ?_)
            obtain rfl := h15
            refine wp_eq (L' := [(2, 0), (0, x), (0, w), (0, y), (0, (((hman g x (g 10 4).toNat) : Nat) : Int)), (9, 0), (9, 0)]) (st' := [(0, (((gmx (fun f => ws (g29 126) P f w.toNat) (P - 1)) : Nat) : Int))]) (g' := g29) ?_
            refine wp_eq (L' := [(2, 0), (0, x), (0, w), (0, y), (0, (((hman g x (g 10 4).toNat) : Nat) : Int)), (9, 0), (9, 0)]) (st' := [(0, (((hbF g P x w) : Nat) : Int))]) (g' := g29) ?_ (by rfl) (by rw [hgm]) (by rfl)
            refine wp_n 2 (pc' := 57) (L' := [(2, 0), (0, x), (0, w), (0, y), (0, (((hman g x (g 10 4).toNat) : Nat) : Int)), (0, (((hbF g P x w) : Nat) : Int)), (9, 0)]) (st' := [(0, y)]) (g' := g29) rfl ?_
            refine wp_if_ne rfl (fun c16 => ?_) (fun c16 => ?_)
            · refine wp_n 3 (pc' := 67) (L' := [(2, 0), (0, x), (0, w), (0, y), (0, (((hman g x (g 10 4).toNat) : Nat) : Int)), (0, (((hbF g P x w) : Nat) : Int)), (9, 0)]) (st' := [(0, w), (0, (((hbF g P x w) : Nat) : Int)), (2, 0)]) (g' := g29) rfl ?_
              refine wp_cv (as := [(2, 0), (0, (((hbF g P x w) : Nat) : Int)), (0, w)]) (rest := []) rfl rfl rfl (Nat.le_of_ble_eq_true rfl) rfl (e_inWidth (P := P) (f := ((hbF g P x w))) hP29 h5 (by omega) (by omega)) (by decide) (fun r17 h18 => ?_)
              obtain rfl := h18
              refine wp_eq (L' := [(2, 0), (0, x), (0, w), (0, y), (0, (((hman g x (g 10 4).toNat) : Nat) : Int)), (0, (((hbF g P x w) : Nat) : Int)), (9, 0)]) (st' := [(0, (ws (g29 126) P ((hbF g P x w)) w.toNat))]) (g' := g29) ?_
              refine wp_eq (L' := [(2, 0), (0, x), (0, w), (0, y), (0, (((hman g x (g 10 4).toNat) : Nat) : Int)), (0, (((hbF g P x w) : Nat) : Int)), (9, 0)]) (st' := [(0, (((hbM g P x w).toNat : Nat) : Int))]) (g' := g29) ?_ (by rfl) (by rw [hws, Int.toNat_of_nonneg hm0.1]; rfl) (by rfl)
              refine wp_n 3 (pc' := 74) (L' := [(2, 0), (0, x), (0, w), (0, y), (0, (((hman g x (g 10 4).toNat) : Nat) : Int)), (0, (((hbF g P x w) : Nat) : Int)), (0, (((hbM g P x w).toNat : Nat) : Int))]) (st' := [(0, 1), (0, y)]) (g' := g29) rfl ?_
              refine wp_ic_ne rfl (fun c19 => ?_) (fun c19 => ?_)
              · refine wp_n 2 (pc' := 84) (L' := [(2, 0), (0, x), (0, w), (0, y), (0, (((hman g x (g 10 4).toNat) : Nat) : Int)), (0, (((hbF g P x w) : Nat) : Int)), (0, (((hbM g P x w).toNat : Nat) : Int))]) (st' := [(0, 60), (0, (((hman g x (g 10 4).toNat) : Nat) : Int))]) (g' := g29) rfl ?_
                refine wp_ic_le rfl (fun c20 => ?_) (fun c20 => ?_)
                · refine wp_n 7 (pc' := 104) (L' := [(2, 0), (0, x), (0, w), (0, y), (0, (((hman g x (g 10 4).toNat) : Nat) : Int)), (0, (((hbF g P x w) : Nat) : Int)), (0, (((hbM g P x w).toNat : Nat) : Int))]) (st' := [(0, (g29 0 0)), (0, w), (0, (((hbM g P x w).toNat : Nat) : Int)), (0, (((hman g x (g 10 4).toNat) : Nat) : Int)), (2, 103)]) (g' := g29) rfl ?_
                  refine wp_eq (L' := [(2, 0), (0, x), (0, w), (0, y), (0, (((hman g x (g 10 4).toNat) : Nat) : Int)), (0, (((hbF g P x w) : Nat) : Int)), (0, (((hbM g P x w).toNat : Nat) : Int))]) (st' := [(0, ((P : Nat) : Int)), (0, w), (0, (((hbM g P x w).toNat : Nat) : Int)), (0, (((hman g x (g 10 4).toNat) : Nat) : Int)), (2, 103)]) (g' := g29) ?_ (by rfl) (by rw [hP29]) (by rfl)
                  refine wp_cv (as := [(2, 103), (0, (((hman g x (g 10 4).toNat) : Nat) : Int)), (0, (((hbM g P x w).toNat : Nat) : Int)), (0, w), (0, ((P : Nat) : Int))]) (rest := []) rfl rfl rfl (Nat.le_of_ble_eq_true rfl) rfl (e_even (n := (hman g x (g 10 4).toNat)) (k := (hbM g P x w).toNat) hP103 (by omega) (by omega) (by omega) (by omega) (by omega) hCL) (by decide) (fun r21 h22 => ?_)
                  obtain ⟨g104, q104, rfl, hS104, hL104, hF104⟩ := h22
                  refine wp_eq (L' := [(2, 0), (0, x), (0, w), (0, y), (0, (((hman g x (g 10 4).toNat) : Nat) : Int)), (0, (((hbF g P x w) : Nat) : Int)), (0, (((hbM g P x w).toNat : Nat) : Int))]) (st' := [(0, q104)]) (g' := g104) ?_
                  exact wp_ret rfl rfl rfl ⟨_, _, rfl, Or.inr (Or.inr ⟨by unfold HbD; omega, by omega, Or.inr (Or.inr (Or.inr (Or.inr ⟨by omega, by omega, hS104⟩)))⟩), hL104, fun c j q1 q2 => (hF104 c j (by omega)).trans (hFK c j q1 q2)⟩
                · refine wp_n 2 (pc' := 107) (L' := [(2, 0), (0, x), (0, w), (0, y), (0, (((hman g x (g 10 4).toNat) : Nat) : Int)), (0, (((hbF g P x w) : Nat) : Int)), (0, (((hbM g P x w).toNat : Nat) : Int))]) (st' := [(0, (-1))]) (g' := g29) rfl ?_
                  exact wp_ret rfl rfl rfl ⟨_, _, rfl, Or.inr (Or.inr ⟨by unfold HbD; omega, by omega, Or.inr (Or.inr (Or.inr (Or.inl ⟨by omega, by omega, rfl⟩)))⟩), hCL, hFK⟩
              · refine wp_n 1 (pc' := 79) (L' := [(2, 0), (0, x), (0, w), (0, y), (0, (((hman g x (g 10 4).toNat) : Nat) : Int)), (0, (((hbF g P x w) : Nat) : Int)), (0, (((hbM g P x w).toNat : Nat) : Int))]) (st' := [(0, (((hbM g P x w).toNat : Nat) : Int))]) (g' := g29) rfl ?_
                exact wp_ret rfl rfl rfl ⟨_, _, rfl, Or.inr (Or.inr ⟨by unfold HbD; omega, by omega, Or.inr (Or.inl ⟨by omega, Int.toNat_of_nonneg hm0.1⟩)⟩), hCL, hFK⟩
            · refine wp_n 1 (pc' := 62) (L' := [(2, 0), (0, x), (0, w), (0, y), (0, (((hman g x (g 10 4).toNat) : Nat) : Int)), (0, (((hbF g P x w) : Nat) : Int)), (9, 0)]) (st' := [(0, (((hbF g P x w) : Nat) : Int))]) (g' := g29) rfl ?_
              exact wp_ret rfl rfl rfl ⟨_, _, rfl, Or.inr (Or.inr ⟨by unfold HbD; omega, by omega, Or.inl ⟨by omega, rfl⟩⟩), hCL, hFK⟩
          · refine wp_n 1 (pc' := 48) (L' := [(2, 0), (0, x), (0, w), (0, y), (0, (((hman g x (g 10 4).toNat) : Nat) : Int)), (9, 0), (9, 0)]) (st' := [(0, (((hman g x (g 10 4).toNat) : Nat) : Int))]) (g' := g29) rfl ?_
            exact wp_ret rfl rfl rfl ⟨_, _, rfl, Or.inr (Or.inr ⟨by unfold HbD; omega, by omega, Or.inr (Or.inr (Or.inl ⟨by omega, rfl⟩))⟩), hCL, hFK⟩
        · refine wp_n 1 (pc' := 40) (L' := [(2, 0), (0, x), (0, w), (0, y), (0, (((hman g x (g 10 4).toNat) : Nat) : Int)), (9, 0), (9, 0)]) (st' := [(0, (-1))]) (g' := g29) rfl ?_
          exact wp_ret rfl rfl rfl ⟨_, _, rfl, Or.inr (Or.inl ⟨by unfold HbD; omega, by omega, rfl⟩), hCL, hFK⟩
      · refine wp_eq (L' := [(2, 0), (0, x), (0, w), (0, y), (9, 0), (9, 0), (9, 0)]) (st' := [(0, 0)]) (g' := g) ?_
        refine wp_n 2 (pc' := 26) (L' := [(2, 0), (0, x), (0, w), (0, y), (9, 0), (9, 0), (9, 0)]) (st' := [(0, (-1))]) (g' := g) rfl ?_
        exact wp_ret rfl rfl rfl ⟨_, _, rfl, Or.inl ⟨by unfold HbD; omega, rfl⟩, hI.cls, fun _ _ _ _ => rfl⟩
    · refine wp_eq (L' := [(2, 0), (0, x), (0, w), (0, y), (9, 0), (9, 0), (9, 0)]) (st' := [(0, 0)]) (g' := g) ?_
      refine wp_n 2 (pc' := 26) (L' := [(2, 0), (0, x), (0, w), (0, y), (9, 0), (9, 0), (9, 0)]) (st' := [(0, (-1))]) (g' := g) rfl ?_
      exact wp_ret rfl rfl rfl ⟨_, _, rfl, Or.inl ⟨by unfold HbD; omega, rfl⟩, hI.cls, fun _ _ _ _ => rfl⟩
  · refine wp_eq (L' := [(2, 0), (0, x), (0, w), (0, y), (9, 0), (9, 0), (9, 0)]) (st' := [(0, 0)]) (g' := g) ?_
    refine wp_n 2 (pc' := 26) (L' := [(2, 0), (0, x), (0, w), (0, y), (9, 0), (9, 0), (9, 0)]) (st' := [(0, (-1))]) (g' := g) rfl ?_
    exact wp_ret rfl rfl rfl ⟨_, _, rfl, Or.inl ⟨by unfold HbD; omega, rfl⟩, hI.cls, fun _ _ _ _ => rfl⟩
set_option maxHeartbeats 4000000 in
set_option maxRecDepth 20000 in
theorem m_habit {sn : Nat} {sx : Nat → Int} {b : Nat} {g : am_G} {c : am_G} {P : Nat} {x w y : Int} (h_x : R32 x) (h_w : R32 w) (h_y : R32 y) (hI : CInv P c) (hM : MRel c g) : Ev sn sx 5 239 [(2, 127), (0, x), (0, w), (0, y)] (SH b) g (fun q => ∃ g' v, q = (some (0, v), SH b, g') ∧ HbA c P x w y v ∧ FrN g g') := by
  have h5 := hI.ck.1
  have hP : g 127 0 = (P : Int) := hM.n.trans hI.ck.2.1
  have hn := hI.rg.r10_6 4 rfl
  have hml := hman_le c x (c 10 4).toNat
  refine ev_of (K := 4) T239 (by decide) rfl rfl (Nat.le_of_ble_eq_true rfl) ?_
  refine wp_eq (L' := [(2, 127), (0, x), (0, w), (0, y), (9, 0), (9, 0), (9, 0), (9, 0), (9, 0), (9, 0), (9, 0)]) (st' := []) (g' := g) ?_
  refine wp_n 1 (pc' := 1) (L' := [(2, 127), (0, x), (0, w), (0, y), (9, 0), (9, 0), (9, 0), (9, 0), (9, 0), (9, 0), (9, 0)]) (st' := [(0, x)]) (g' := g) rfl ?_
  refine wp_cs (as := [(0, x)]) (rest := []) rfl (by decide) rfl (Nat.le_of_ble_eq_true rfl) (e_MisHand (by omega)) (by decide) (fun r2 h3 => ?_)
  rcases h3 with ⟨rfl, p1⟩ | ⟨rfl, p1⟩
  · refine wp_eq (L' := [(2, 127), (0, x), (0, w), (0, y), (9, 0), (9, 0), (9, 0), (9, 0), (9, 0), (9, 0), (9, 0)]) (st' := [(0, 1)]) (g' := g) ?_
    refine wp_n 4 (pc' := 10) (L' := [(2, 127), (0, x), (0, w), (0, y), (9, 0), (9, 0), (9, 0), (9, 0), (9, 0), (9, 0), (9, 0)]) (st' := [(0, 4), (0, 1), (0, w)]) (g' := g) rfl ?_
    refine wp_cs (as := [(0, w), (0, 1), (0, 4)]) (rest := []) rfl (by decide) rfl (Nat.le_of_ble_eq_true rfl) (e_isIn (by omega) (by omega) (by omega)) (by decide) (fun r5 h6 => ?_)
    rcases h6 with ⟨rfl, p4⟩ | ⟨rfl, p4⟩
    · refine wp_eq (L' := [(2, 127), (0, x), (0, w), (0, y), (9, 0), (9, 0), (9, 0), (9, 0), (9, 0), (9, 0), (9, 0)]) (st' := [(0, 1)]) (g' := g) ?_
      refine wp_n 4 (pc' := 19) (L' := [(2, 127), (0, x), (0, w), (0, y), (9, 0), (9, 0), (9, 0), (9, 0), (9, 0), (9, 0), (9, 0)]) (st' := [(0, 3), (0, 0), (0, y)]) (g' := g) rfl ?_
      refine wp_cs (as := [(0, y), (0, 0), (0, 3)]) (rest := []) rfl (by decide) rfl (Nat.le_of_ble_eq_true rfl) (e_isIn (by omega) (by omega) (by omega)) (by decide) (fun r8 h9 => ?_)
      rcases h9 with ⟨rfl, p7⟩ | ⟨rfl, p7⟩
      · refine wp_eq (L' := [(2, 127), (0, x), (0, w), (0, y), (9, 0), (9, 0), (9, 0), (9, 0), (9, 0), (9, 0), (9, 0)]) (st' := [(0, 1)]) (g' := g) ?_
        refine wp_n 3 (pc' := 30) (L' := [(2, 127), (0, x), (0, w), (0, y), (0, 0), (9, 0), (9, 0), (9, 0), (9, 0), (9, 0), (9, 0)]) (st' := []) (g' := g) rfl ?_
        have L30 : ∀ (lf : Nat) (i : Nat) (h : am_G), 37 - i < lf → (i ≤ 37) → (∀ j, j < i → h 141 j = 0) → (FrN g h) → Wp sn sx 4 T239 30 [(2, 127), (0, x), (0, w), (0, y), (0, ((i : Nat) : Int)), (9, 0), (9, 0), (9, 0), (9, 0), (9, 0), (9, 0)] [] (SH b) h (fun q => ∃ g' v, q = (some (0, v), SH b, g') ∧ HbA c P x w y v ∧ FrN g g') := by
          intro lf
          induction lf with
          | zero => intro i h hlf; exact absurd hlf (Nat.not_lt_zero _)
          | succ lf ih30 =>
            intro i h hlf hi hH hF
            refine wp_n 2 (pc' := 34) (L' := [(2, 127), (0, x), (0, w), (0, y), (0, ((i : Nat) : Int)), (9, 0), (9, 0), (9, 0), (9, 0), (9, 0), (9, 0)]) (st' := [(0, 37), (0, ((i : Nat) : Int))]) (g' := h) rfl ?_
            refine wp_ic_ge rfl (fun c10 => ?_) (fun c10 => ?_)
            · refine wp_n 6 (pc' := 60) (L' := [(2, 127), (0, x), (0, w), (0, y), (0, 0), (0, (-1)), (0, 0), (9, 0), (9, 0), (9, 0), (9, 0)]) (st' := []) (g' := h) rfl ?_
              have L60 : ∀ (lf : Nat) (i : Nat) (h : am_G) (w7 : am_V), (c 10 4).toNat - i < lf → (i ≤ (c 10 4).toNat) → (∀ j, j < 37 → h 141 j = htl c P x j i) → (FrN g h) → Wp sn sx 4 T239 60 [(2, 127), (0, x), (0, w), (0, y), (0, (((hman c x i) : Nat) : Int)), (0, (hlast c x i)), (0, ((i : Nat) : Int)), w7, (9, 0), (9, 0), (9, 0)] [] (SH b) h (fun q => ∃ g' v, q = (some (0, v), SH b, g') ∧ HbA c P x w y v ∧ FrN g g') := by
                intro lf
                induction lf with
                | zero => intro i h w7 hlf; exact absurd hlf (Nat.not_lt_zero _)
                | succ lf ih60 =>
                  intro i h w7 hlf hi hH hF
                  have hMh := hM.g_same hF
                  refine wp_n 4 (pc' := 67) (L' := [(2, 127), (0, x), (0, w), (0, y), (0, (((hman c x i) : Nat) : Int)), (0, (hlast c x i)), (0, ((i : Nat) : Int)), w7, (9, 0), (9, 0), (9, 0)]) (st' := [(0, 2), (2, 128), (0, ((i : Nat) : Int))]) (g' := h) rfl ?_
                  refine wp_iald (k := 128) (2) rfl rfl (by omega) (by omega) (by decide) ?_
                  refine wp_eq (L' := [(2, 127), (0, x), (0, w), (0, y), (0, (((hman c x i) : Nat) : Int)), (0, (hlast c x i)), (0, ((i : Nat) : Int)), w7, (9, 0), (9, 0), (9, 0)]) (st' := [(0, (c 10 4)), (0, ((i : Nat) : Int))]) (g' := h) ?_ (by rfl) (by rw [hMh.written]) (by rfl)
                  refine wp_ic_ge rfl (fun c11 => ?_) (fun c11 => ?_)
                  · have hk2 : i = (c 10 4).toNat := by omega
                    have hT : ∀ j, j < 37 → h 141 j = hbT c P x j := fun j hj => by rw [hH j hj, hk2]; rfl
                    have hmn2 : hman c x i = hman c x (c 10 4).toNat := by rw [hk2]
                    have hPh : h 127 0 = (P : Int) := by rw [hF 127 0 (by unfold Sm; omega)]; exact hP
                    have hwi : ∀ f, 0 ≤ ws (hbT c P x) P f w.toNat ∧ ws (hbT c P x) P f w.toNat ≤ 200 * (w.toNat : Int) := fun f => ws_in (by omega) (fun j _ => by have := htl_in c P x j (c 10 4).toNat; unfold hbT; omega) w.toNat
                    refine wp_n 1 (pc' := 159) (L' := [(2, 127), (0, x), (0, w), (0, y), (0, (((hman c x i) : Nat) : Int)), (0, (hlast c x i)), (0, ((i : Nat) : Int)), w7, (9, 0), (9, 0), (9, 0)]) (st' := [(0, (((hman c x i) : Nat) : Int))]) (g' := h) rfl ?_
                    refine wp_if_ne rfl (fun c12 => ?_) (fun c12 => ?_)
                    · refine wp_n 6 (pc' := 173) (L' := [(2, 127), (0, x), (0, w), (0, y), (0, (((hman c x i) : Nat) : Int)), (0, (hlast c x i)), (0, 0), (0, (-1)), (0, 0), (9, 0), (9, 0)]) (st' := []) (g' := h) rfl ?_
                      have L173 : ∀ (lf : Nat) (f : Nat) (l6 l7 : Int) (w9 w10 : am_V), P - f < lf → (f ≤ P) → ((f = 0 ∧ l6 = 0 ∧ l7 = -1) ∨ (0 < f ∧ l6 = (gmx (fun f => ws (hbT c P x) P f w.toNat) (f - 1) : Int) ∧ l7 = ws (hbT c P x) P (gmx (fun f => ws (hbT c P x) P f w.toNat) (f - 1)) w.toNat)) → Wp sn sx 4 T239 173 [(2, 127), (0, x), (0, w), (0, y), (0, (((hman c x i) : Nat) : Int)), (0, (hlast c x i)), (0, l6), (0, l7), (0, ((f : Nat) : Int)), w9, w10] [] (SH b) h (fun q => ∃ g' v, q = (some (0, v), SH b, g') ∧ HbA c P x w y v ∧ FrN g g') := by
                        intro lf
                        induction lf with
                        | zero => intro f l6 l7 w9 w10 hlf; exact absurd hlf (Nat.not_lt_zero _)
                        | succ lf ih173 =>
                          intro f l6 l7 w9 w10 hlf hf hb7
                          refine wp_n 3 (pc' := 179) (L' := [(2, 127), (0, x), (0, w), (0, y), (0, (((hman c x i) : Nat) : Int)), (0, (hlast c x i)), (0, l6), (0, l7), (0, ((f : Nat) : Int)), w9, w10]) (st' := [(0, (h 127 0)), (0, ((f : Nat) : Int))]) (g' := h) rfl ?_
                          refine wp_eq (L' := [(2, 127), (0, x), (0, w), (0, y), (0, (((hman c x i) : Nat) : Int)), (0, (hlast c x i)), (0, l6), (0, l7), (0, ((f : Nat) : Int)), w9, w10]) (st' := [(0, ((P : Nat) : Int)), (0, ((f : Nat) : Int))]) (g' := h) ?_ (by rfl) (by rw [hPh]) (by rfl)
                          refine wp_ic_ge rfl (fun c13 => ?_) (fun c13 => ?_)
                          · have hfP : f = P := by omega
                            have hb8 : l6 = (hbF c P x w : Int) ∧ l7 = hbM c P x w := by
                              rcases hb7 with e | ⟨e1, e2, e3⟩
                              · omega
                              · rw [hfP] at e2 e3
                                exact ⟨e2, e3⟩
                            have hwm := hwi (hbF c P x w)
                            have hfl : hbF c P x w ≤ P - 1 := gmx_le _ _
                            have hm0 : 0 ≤ hbM c P x w := hwm.1
                            have hwl : hbM c P x w ≤ (hman c x (c 10 4).toNat : Int) := ws_le (c := c) (P := P) (f := hbF c P x w) (h := x) h5.1 (by omega) (i := w.toNat) (by omega) (c 10 4).toNat
                            refine wp_n 2 (pc' := 246) (L' := [(2, 127), (0, x), (0, w), (0, y), (0, (((hman c x i) : Nat) : Int)), (0, (hlast c x i)), (0, l6), (0, l7), (0, ((f : Nat) : Int)), w9, w10]) (st' := [(0, 3), (0, y)]) (g' := h) rfl ?_
                            refine wp_ic_ge rfl (fun c14 => ?_) (fun c14 => ?_)
                            · refine wp_n 2 (pc' := 275) (L' := [(2, 127), (0, x), (0, w), (0, y), (0, (((hman c x i) : Nat) : Int)), (0, (hlast c x i)), (0, l6), (0, l7), (0, ((f : Nat) : Int)), w9, w10]) (st' := [(0, 60), (0, (((hman c x i) : Nat) : Int))]) (g' := h) rfl ?_
                              refine wp_ic_le rfl (fun c15 => ?_) (fun c15 => ?_)
                              · refine wp_n 2 (pc' := 283) (L' := [(2, 127), (0, x), (0, w), (0, y), (0, (((hman c x i) : Nat) : Int)), (0, (hlast c x i)), (0, l6), (0, l7), (0, ((f : Nat) : Int)), w9, w10]) (st' := [(0, (((hman c x i) : Nat) : Int)), (2, 127)]) (g' := h) rfl ?_
                                refine wp_eq (L' := [(2, 127), (0, x), (0, w), (0, y), (0, (((hman c x i) : Nat) : Int)), (0, (hlast c x i)), (0, l6), (0, l7), (0, ((f : Nat) : Int)), w9, w10]) (st' := [(0, (((hman c x (c 10 4).toNat) : Nat) : Int)), (2, 127)]) (g' := h) ?_ (by rfl) (by rw [hmn2]) (by rfl)
                                refine wp_n 1 (pc' := 285) (L' := [(2, 127), (0, x), (0, w), (0, y), (0, (((hman c x i) : Nat) : Int)), (0, (hlast c x i)), (0, l6), (0, l7), (0, ((f : Nat) : Int)), w9, w10]) (st' := [(0, l7), (0, (((hman c x (c 10 4).toNat) : Nat) : Int)), (2, 127)]) (g' := h) rfl ?_
                                refine wp_eq (L' := [(2, 127), (0, x), (0, w), (0, y), (0, (((hman c x i) : Nat) : Int)), (0, (hlast c x i)), (0, l6), (0, l7), (0, ((f : Nat) : Int)), w9, w10]) (st' := [(0, (((hbM c P x w).toNat : Nat) : Int)), (0, (((hman c x (c 10 4).toNat) : Nat) : Int)), (2, 127)]) (g' := h) ?_ (by rfl) (by rw [Int.toNat_of_nonneg hm0, hb8.2]) (by rfl)
                                refine wp_n 1 (pc' := 286) (L' := [(2, 127), (0, x), (0, w), (0, y), (0, (((hman c x i) : Nat) : Int)), (0, (hlast c x i)), (0, l6), (0, l7), (0, ((f : Nat) : Int)), w9, w10]) (st' := [(0, w), (0, (((hbM c P x w).toNat : Nat) : Int)), (0, (((hman c x (c 10 4).toNat) : Nat) : Int)), (2, 127)]) (g' := h) rfl ?_
                                refine wp_cv (as := [(2, 127), (0, (((hman c x (c 10 4).toNat) : Nat) : Int)), (0, (((hbM c P x w).toNat : Nat) : Int)), (0, w)]) (rest := []) rfl rfl rfl (Nat.le_of_ble_eq_true rfl) rfl (m_tail (t := ((hman c x (c 10 4).toNat))) (k := ((hbM c P x w).toNat)) hPh (by omega) (by omega) (by omega) (by omega)) (by decide) (fun r16 h17 => ?_)
                                obtain ⟨g286, rfl, hR286, hW286, hF286⟩ := h17
                                have ht0 := tl_in (p := w) (q := (P : Int) - w) (t := hman c x (c 10 4).toNat) (k := (hbM c P x w).toNat) (by omega) (by omega) (by omega)
                                rw [show w + ((P : Int) - w) = (P : Int) by omega] at ht0
                                have hp0 := pow_2001 (x := (P : Int)) (n := hman c x (c 10 4).toNat) (by omega) (by omega) (by omega)
                                have hp1 : 0 ≤ (P : Int) ^ (hman c x (c 10 4).toNat) := Int.pow_nonneg (by omega)
                                have ht1 := Int.mul_le_mul_of_nonneg_left (show (P : Int) ≤ 37 by omega) ht0.1
                                have ht2 := Int.mul_nonneg ht0.1 (show (0 : Int) ≤ (P : Int) by omega)
                                have hP286 : g286 127 0 = (P : Int) := by rw [hF286 127 0 (fun e => absurd e (by decide))]; exact hPh
                                refine wp_eq (L' := [(2, 127), (0, x), (0, w), (0, y), (0, (((hman c x i) : Nat) : Int)), (0, (hlast c x i)), (0, l6), (0, l7), (0, ((f : Nat) : Int)), w9, w10]) (st' := []) (g' := g286) ?_
                                refine wp_n 4 (pc' := 296) (L' := [(2, 127), (0, x), (0, w), (0, y), (0, (((hman c x i) : Nat) : Int)), (0, (hlast c x i)), (0, l6), (0, l7), (0, ((f : Nat) : Int)), w9, w10]) (st' := [(0, (g286 127 0)), (0, 124), (2, 127)]) (g' := g286) rfl ?_
                                refine wp_eq (L' := [(2, 127), (0, x), (0, w), (0, y), (0, (((hman c x i) : Nat) : Int)), (0, (hlast c x i)), (0, l6), (0, l7), (0, ((f : Nat) : Int)), w9, w10]) (st' := [(0, ((P : Nat) : Int)), (0, 124), (2, 127)]) (g' := g286) ?_ (by rfl) (by rw [hP286]) (by rfl)
                                refine wp_cv (as := [(2, 127), (0, 124), (0, ((P : Nat) : Int))]) (rest := []) rfl rfl rfl (Nat.le_of_ble_eq_true rfl) rfl (m_times (r := 124) (by omega) hR286 (by omega) (by omega)) (by decide) (fun r18 h19 => ?_)
                                obtain ⟨g296, rfl, hR296, hF296⟩ := h19
                                refine wp_eq (L' := [(2, 127), (0, x), (0, w), (0, y), (0, (((hman c x i) : Nat) : Int)), (0, (hlast c x i)), (0, l6), (0, l7), (0, ((f : Nat) : Int)), w9, w10]) (st' := []) (g' := g296) ?_
                                refine wp_n 1 (pc' := 300) (L' := [(2, 127), (0, x), (0, w), (0, y), (0, (((hman c x i) : Nat) : Int)), (0, (hlast c x i)), (0, l6), (0, l7), (0, ((f : Nat) : Int)), w9, w10]) (st' := [(2, 127)]) (g' := g296) rfl ?_
                                refine wp_cv (as := [(2, 127)]) (rest := []) rfl rfl rfl (Nat.le_of_ble_eq_true rfl) rfl (m_millionths hR296 (hW286.fr hF296 (by omega)) (by omega) (pow_10 hp1 hp0)) (by decide) (fun r20 h21 => ?_)
                                obtain ⟨g300, q300, rfl, hI300, hF300⟩ := h21
                                refine wp_eq (L' := [(2, 127), (0, x), (0, w), (0, y), (0, (((hman c x i) : Nat) : Int)), (0, (hlast c x i)), (0, l6), (0, l7), (0, ((f : Nat) : Int)), w9, w10]) (st' := [(0, q300)]) (g' := g300) ?_
                                first
                                | (exfalso; omega)
                                | exact wp_ret rfl rfl rfl ⟨_, _, rfl, Or.inl ⟨by unfold HbD; omega, rfl⟩, FrN.rfl⟩
                                | exact wp_ret rfl rfl rfl ⟨_, _, rfl, Or.inr (Or.inl ⟨by unfold HbD; omega, by omega, rfl⟩), hF⟩
                                | exact wp_ret rfl rfl rfl ⟨_, _, rfl, Or.inr (Or.inr ⟨by unfold HbD; omega, by omega, Or.inr (Or.inr (Or.inr (Or.inr ⟨by omega, by omega, ⟨hI300.1, hI300.2.1, hI300.2.2.1, hI300.2.2.2⟩⟩)))⟩), ((hF.r hF286).m hF296).r hF300⟩
                                | exact wp_ret rfl rfl rfl ⟨_, _, rfl, Or.inr (Or.inr ⟨by unfold HbD; omega, by omega, Or.inr (Or.inr (Or.inr (Or.inl ⟨by omega, by omega, rfl⟩)))⟩), hF⟩
                                | exact wp_ret rfl rfl rfl ⟨_, _, rfl, Or.inr (Or.inr ⟨by unfold HbD; omega, by omega, Or.inl ⟨by omega, hb8.1⟩⟩), hF⟩
                                | exact wp_ret rfl rfl rfl ⟨_, _, rfl, Or.inr (Or.inr ⟨by unfold HbD; omega, by omega, Or.inr (Or.inl ⟨by omega, hb8.2⟩)⟩), hF⟩
                                | exact wp_ret rfl rfl rfl ⟨_, _, rfl, Or.inr (Or.inr ⟨by unfold HbD; omega, by omega, Or.inr (Or.inr (Or.inl ⟨by omega, by rw [hmn2]⟩))⟩), hF⟩
                              · refine wp_n 1 (pc' := 279) (L' := [(2, 127), (0, x), (0, w), (0, y), (0, (((hman c x i) : Nat) : Int)), (0, (hlast c x i)), (0, l6), (0, l7), (0, ((f : Nat) : Int)), w9, w10]) (st' := [(0, (-1))]) (g' := h) rfl ?_
                                first
                                | (exfalso; omega)
                                | exact wp_ret rfl rfl rfl ⟨_, _, rfl, Or.inl ⟨by unfold HbD; omega, rfl⟩, FrN.rfl⟩
                                | exact wp_ret rfl rfl rfl ⟨_, _, rfl, Or.inr (Or.inl ⟨by unfold HbD; omega, by omega, rfl⟩), hF⟩
                                | exact wp_ret rfl rfl rfl ⟨_, _, rfl, Or.inr (Or.inr ⟨by unfold HbD; omega, by omega, Or.inr (Or.inr (Or.inr (Or.inr ⟨by omega, by omega, ⟨hI300.1, hI300.2.1, hI300.2.2.1, hI300.2.2.2⟩⟩)))⟩), ((hF.r hF286).m hF296).r hF300⟩
                                | exact wp_ret rfl rfl rfl ⟨_, _, rfl, Or.inr (Or.inr ⟨by unfold HbD; omega, by omega, Or.inr (Or.inr (Or.inr (Or.inl ⟨by omega, by omega, rfl⟩)))⟩), hF⟩
                                | exact wp_ret rfl rfl rfl ⟨_, _, rfl, Or.inr (Or.inr ⟨by unfold HbD; omega, by omega, Or.inl ⟨by omega, hb8.1⟩⟩), hF⟩
                                | exact wp_ret rfl rfl rfl ⟨_, _, rfl, Or.inr (Or.inr ⟨by unfold HbD; omega, by omega, Or.inr (Or.inl ⟨by omega, hb8.2⟩)⟩), hF⟩
                                | exact wp_ret rfl rfl rfl ⟨_, _, rfl, Or.inr (Or.inr ⟨by unfold HbD; omega, by omega, Or.inr (Or.inr (Or.inl ⟨by omega, by rw [hmn2]⟩))⟩), hF⟩
                            · refine wp_n 1 (pc' := 250) (L' := [(2, 127), (0, x), (0, w), (0, y), (0, (((hman c x i) : Nat) : Int)), (0, (hlast c x i)), (0, l6), (0, l7), (0, ((f : Nat) : Int)), w9, w10]) (st' := [(0, y)]) (g' := h) rfl ?_
                              refine wp_if_ne rfl (fun c22 => ?_) (fun c22 => ?_)
                              · refine wp_n 2 (pc' := 260) (L' := [(2, 127), (0, x), (0, w), (0, y), (0, (((hman c x i) : Nat) : Int)), (0, (hlast c x i)), (0, l6), (0, l7), (0, ((f : Nat) : Int)), w9, w10]) (st' := [(0, 1), (0, y)]) (g' := h) rfl ?_
                                refine wp_ic_ne rfl (fun c23 => ?_) (fun c23 => ?_)
                                · refine wp_n 1 (pc' := 270) (L' := [(2, 127), (0, x), (0, w), (0, y), (0, (((hman c x i) : Nat) : Int)), (0, (hlast c x i)), (0, l6), (0, l7), (0, ((f : Nat) : Int)), w9, w10]) (st' := [(0, (((hman c x i) : Nat) : Int))]) (g' := h) rfl ?_
                                  first
                                  | (exfalso; omega)
                                  | exact wp_ret rfl rfl rfl ⟨_, _, rfl, Or.inl ⟨by unfold HbD; omega, rfl⟩, FrN.rfl⟩
                                  | exact wp_ret rfl rfl rfl ⟨_, _, rfl, Or.inr (Or.inl ⟨by unfold HbD; omega, by omega, rfl⟩), hF⟩
                                  | exact wp_ret rfl rfl rfl ⟨_, _, rfl, Or.inr (Or.inr ⟨by unfold HbD; omega, by omega, Or.inr (Or.inr (Or.inr (Or.inr ⟨by omega, by omega, ⟨hI300.1, hI300.2.1, hI300.2.2.1, hI300.2.2.2⟩⟩)))⟩), ((hF.r hF286).m hF296).r hF300⟩
                                  | exact wp_ret rfl rfl rfl ⟨_, _, rfl, Or.inr (Or.inr ⟨by unfold HbD; omega, by omega, Or.inr (Or.inr (Or.inr (Or.inl ⟨by omega, by omega, rfl⟩)))⟩), hF⟩
                                  | exact wp_ret rfl rfl rfl ⟨_, _, rfl, Or.inr (Or.inr ⟨by unfold HbD; omega, by omega, Or.inl ⟨by omega, hb8.1⟩⟩), hF⟩
                                  | exact wp_ret rfl rfl rfl ⟨_, _, rfl, Or.inr (Or.inr ⟨by unfold HbD; omega, by omega, Or.inr (Or.inl ⟨by omega, hb8.2⟩)⟩), hF⟩
                                  | exact wp_ret rfl rfl rfl ⟨_, _, rfl, Or.inr (Or.inr ⟨by unfold HbD; omega, by omega, Or.inr (Or.inr (Or.inl ⟨by omega, by rw [hmn2]⟩))⟩), hF⟩
                                · refine wp_n 2 (pc' := 270) (L' := [(2, 127), (0, x), (0, w), (0, y), (0, (((hman c x i) : Nat) : Int)), (0, (hlast c x i)), (0, l6), (0, l7), (0, ((f : Nat) : Int)), w9, w10]) (st' := [(0, l7)]) (g' := h) rfl ?_
                                  first
                                  | (exfalso; omega)
                                  | exact wp_ret rfl rfl rfl ⟨_, _, rfl, Or.inl ⟨by unfold HbD; omega, rfl⟩, FrN.rfl⟩
                                  | exact wp_ret rfl rfl rfl ⟨_, _, rfl, Or.inr (Or.inl ⟨by unfold HbD; omega, by omega, rfl⟩), hF⟩
                                  | exact wp_ret rfl rfl rfl ⟨_, _, rfl, Or.inr (Or.inr ⟨by unfold HbD; omega, by omega, Or.inr (Or.inr (Or.inr (Or.inr ⟨by omega, by omega, ⟨hI300.1, hI300.2.1, hI300.2.2.1, hI300.2.2.2⟩⟩)))⟩), ((hF.r hF286).m hF296).r hF300⟩
                                  | exact wp_ret rfl rfl rfl ⟨_, _, rfl, Or.inr (Or.inr ⟨by unfold HbD; omega, by omega, Or.inr (Or.inr (Or.inr (Or.inl ⟨by omega, by omega, rfl⟩)))⟩), hF⟩
                                  | exact wp_ret rfl rfl rfl ⟨_, _, rfl, Or.inr (Or.inr ⟨by unfold HbD; omega, by omega, Or.inl ⟨by omega, hb8.1⟩⟩), hF⟩
                                  | exact wp_ret rfl rfl rfl ⟨_, _, rfl, Or.inr (Or.inr ⟨by unfold HbD; omega, by omega, Or.inr (Or.inl ⟨by omega, hb8.2⟩)⟩), hF⟩
                                  | exact wp_ret rfl rfl rfl ⟨_, _, rfl, Or.inr (Or.inr ⟨by unfold HbD; omega, by omega, Or.inr (Or.inr (Or.inl ⟨by omega, by rw [hmn2]⟩))⟩), hF⟩
                              · refine wp_n 2 (pc' := 270) (L' := [(2, 127), (0, x), (0, w), (0, y), (0, (((hman c x i) : Nat) : Int)), (0, (hlast c x i)), (0, l6), (0, l7), (0, ((f : Nat) : Int)), w9, w10]) (st' := [(0, l6)]) (g' := h) rfl ?_
                                first
                                | (exfalso; omega)
                                | exact wp_ret rfl rfl rfl ⟨_, _, rfl, Or.inl ⟨by unfold HbD; omega, rfl⟩, FrN.rfl⟩
                                | exact wp_ret rfl rfl rfl ⟨_, _, rfl, Or.inr (Or.inl ⟨by unfold HbD; omega, by omega, rfl⟩), hF⟩
                                | exact wp_ret rfl rfl rfl ⟨_, _, rfl, Or.inr (Or.inr ⟨by unfold HbD; omega, by omega, Or.inr (Or.inr (Or.inr (Or.inr ⟨by omega, by omega, ⟨hI300.1, hI300.2.1, hI300.2.2.1, hI300.2.2.2⟩⟩)))⟩), ((hF.r hF286).m hF296).r hF300⟩
                                | exact wp_ret rfl rfl rfl ⟨_, _, rfl, Or.inr (Or.inr ⟨by unfold HbD; omega, by omega, Or.inr (Or.inr (Or.inr (Or.inl ⟨by omega, by omega, rfl⟩)))⟩), hF⟩
                                | exact wp_ret rfl rfl rfl ⟨_, _, rfl, Or.inr (Or.inr ⟨by unfold HbD; omega, by omega, Or.inl ⟨by omega, hb8.1⟩⟩), hF⟩
                                | exact wp_ret rfl rfl rfl ⟨_, _, rfl, Or.inr (Or.inr ⟨by unfold HbD; omega, by omega, Or.inr (Or.inl ⟨by omega, hb8.2⟩)⟩), hF⟩
                                | exact wp_ret rfl rfl rfl ⟨_, _, rfl, Or.inr (Or.inr ⟨by unfold HbD; omega, by omega, Or.inr (Or.inr (Or.inl ⟨by omega, by rw [hmn2]⟩))⟩), hF⟩
                          · refine wp_n 4 (pc' := 188) (L' := [(2, 127), (0, x), (0, w), (0, y), (0, (((hman c x i) : Nat) : Int)), (0, (hlast c x i)), (0, l6), (0, l7), (0, ((f : Nat) : Int)), (0, 0), (0, 0)]) (st' := []) (g' := h) rfl ?_
                            have L188 : ∀ (lf : Nat) (k : Nat), w.toNat - k < lf → (k ≤ w.toNat) → Wp sn sx 4 T239 188 [(2, 127), (0, x), (0, w), (0, y), (0, (((hman c x i) : Nat) : Int)), (0, (hlast c x i)), (0, l6), (0, l7), (0, ((f : Nat) : Int)), (0, (ws (hbT c P x) P f k)), (0, ((k : Nat) : Int))] [] (SH b) h (fun q => ∃ g' v, q = (some (0, v), SH b, g') ∧ HbA c P x w y v ∧ FrN g g') := by
                              intro lf
                              induction lf with
                              | zero => intro k hlf; exact absurd hlf (Nat.not_lt_zero _)
                              | succ lf ih188 =>
                                intro k hlf hk
                                refine wp_n 2 (pc' := 191) (L' := [(2, 127), (0, x), (0, w), (0, y), (0, (((hman c x i) : Nat) : Int)), (0, (hlast c x i)), (0, l6), (0, l7), (0, ((f : Nat) : Int)), (0, (ws (hbT c P x) P f k)), (0, ((k : Nat) : Int))]) (st' := [(0, w), (0, ((k : Nat) : Int))]) (g' := h) rfl ?_
                                refine wp_ic_ge rfl (fun c24 => ?_) (fun c24 => ?_)
                                · have hkw : k = w.toNat := by omega
                                  have hwf := hwi f
                                  have hwg : -1 ≤ l7 ∧ l7 ≤ 2000 := by
                                    rcases hb7 with e | ⟨e1, e2, e3⟩
                                    · omega
                                    · have := hwi (gmx (fun f => ws (hbT c P x) P f w.toNat) (f - 1)); omega
                                  have hkws : ws (hbT c P x) P f k = ws (hbT c P x) P f w.toNat := by rw [hkw]
                                  refine wp_n 2 (pc' := 224) (L' := [(2, 127), (0, x), (0, w), (0, y), (0, (((hman c x i) : Nat) : Int)), (0, (hlast c x i)), (0, l6), (0, l7), (0, ((f : Nat) : Int)), (0, (ws (hbT c P x) P f k)), (0, ((k : Nat) : Int))]) (st' := [(0, l7), (0, (ws (hbT c P x) P f k))]) (g' := h) rfl ?_
                                  refine wp_ic_gt rfl (fun c25 => ?_) (fun c25 => ?_)
                                  · have hcmp : l7 < ws (hbT c P x) P f k := by omega
                                    refine wp_n 6 (pc' := 173) (L' := [(2, 127), (0, x), (0, w), (0, y), (0, (((hman c x i) : Nat) : Int)), (0, (hlast c x i)), (0, ((f : Nat) : Int)), (0, (ws (hbT c P x) P f k)), (0, (((f : Nat) : Int) + 1)), (0, (ws (hbT c P x) P f k)), (0, ((k : Nat) : Int))]) (st' := []) (g' := h) rfl ?_
                                    refine wp_eq (ih173 (f + 1) (((f : Nat) : Int)) ((ws (hbT c P x) P f k)) ((0, (ws (hbT c P x) P f k))) ((0, ((k : Nat) : Int))) ?_ ?_ ?_) (by first | rfl | (simp; done) | (simp; omega)) (by rfl) (by rfl)
                                    · omega
                                    · omega
                                    · refine Or.inr ⟨Nat.succ_pos f, ?_⟩
                                      show ((f : Nat) : Int) = (gmx (fun f => ws (hbT c P x) P f w.toNat) f : Int) ∧ (ws (hbT c P x) P f k) = ws (hbT c P x) P (gmx (fun f => ws (hbT c P x) P f w.toNat) f) w.toNat
                                      rcases hb7 with ⟨e1, e2, e3⟩ | ⟨e1, e2, e3⟩
                                      · subst e1
                                        first
                                        | (exfalso; omega)
                                        | exact ⟨rfl, by rw [hkw]; rfl⟩
                                      · obtain ⟨m, rfl⟩ : ∃ m, f = m + 1 := ⟨f - 1, by omega⟩
                                        rw [Nat.add_sub_cancel] at e2 e3
                                        rw [gmx_s]
                                        have hmm : (fun f => ws (hbT c P x) P f w.toNat) (gmx (fun f => ws (hbT c P x) P f w.toNat) m) = ws (hbT c P x) P (gmx (fun f => ws (hbT c P x) P f w.toNat) m) w.toNat := rfl
                                        have hmn : (fun f => ws (hbT c P x) P f w.toNat) (m + 1) = ws (hbT c P x) P (m + 1) w.toNat := rfl
                                        rw [hkw] at hcmp
                                        first
                                        | (rw [if_pos (show (fun f => ws (hbT c P x) P f w.toNat) (gmx (fun f => ws (hbT c P x) P f w.toNat) m) < (fun f => ws (hbT c P x) P f w.toNat) (m + 1) by rw [hmm, hmn]; omega)]; exact ⟨rfl, by rw [hkw]⟩)
                                        | (rw [if_neg (show ¬ (fun f => ws (hbT c P x) P f w.toNat) (gmx (fun f => ws (hbT c P x) P f w.toNat) m) < (fun f => ws (hbT c P x) P f w.toNat) (m + 1) by rw [hmm, hmn]; omega)]; exact ⟨e2, e3⟩)
                                  · have hcmp : ws (hbT c P x) P f k ≤ l7 := by omega
                                    refine wp_n 3 (pc' := 173) (L' := [(2, 127), (0, x), (0, w), (0, y), (0, (((hman c x i) : Nat) : Int)), (0, (hlast c x i)), (0, l6), (0, l7), (0, (((f : Nat) : Int) + 1)), (0, (ws (hbT c P x) P f k)), (0, ((k : Nat) : Int))]) (st' := []) (g' := h) rfl ?_
                                    refine wp_eq (ih173 (f + 1) (l6) (l7) ((0, (ws (hbT c P x) P f k))) ((0, ((k : Nat) : Int))) ?_ ?_ ?_) (by first | rfl | (simp; done) | (simp; omega)) (by rfl) (by rfl)
                                    · omega
                                    · omega
                                    · refine Or.inr ⟨Nat.succ_pos f, ?_⟩
                                      show l6 = (gmx (fun f => ws (hbT c P x) P f w.toNat) f : Int) ∧ l7 = ws (hbT c P x) P (gmx (fun f => ws (hbT c P x) P f w.toNat) f) w.toNat
                                      rcases hb7 with ⟨e1, e2, e3⟩ | ⟨e1, e2, e3⟩
                                      · subst e1
                                        first
                                        | (exfalso; omega)
                                        | exact ⟨rfl, by rw [hkw]; rfl⟩
                                      · obtain ⟨m, rfl⟩ : ∃ m, f = m + 1 := ⟨f - 1, by omega⟩
                                        rw [Nat.add_sub_cancel] at e2 e3
                                        rw [gmx_s]
                                        have hmm : (fun f => ws (hbT c P x) P f w.toNat) (gmx (fun f => ws (hbT c P x) P f w.toNat) m) = ws (hbT c P x) P (gmx (fun f => ws (hbT c P x) P f w.toNat) m) w.toNat := rfl
                                        have hmn : (fun f => ws (hbT c P x) P f w.toNat) (m + 1) = ws (hbT c P x) P (m + 1) w.toNat := rfl
                                        rw [hkw] at hcmp
                                        first
                                        | (rw [if_pos (show (fun f => ws (hbT c P x) P f w.toNat) (gmx (fun f => ws (hbT c P x) P f w.toNat) m) < (fun f => ws (hbT c P x) P f w.toNat) (m + 1) by rw [hmm, hmn]; omega)]; exact ⟨rfl, by rw [hkw]⟩)
                                        | (rw [if_neg (show ¬ (fun f => ws (hbT c P x) P f w.toNat) (gmx (fun f => ws (hbT c P x) P f w.toNat) m) < (fun f => ws (hbT c P x) P f w.toNat) (m + 1) by rw [hmm, hmn]; omega)]; exact ⟨e2, e3⟩)
                                · refine wp_n 8 (pc' := 209) (L' := [(2, 127), (0, x), (0, w), (0, y), (0, (((hman c x i) : Nat) : Int)), (0, (hlast c x i)), (0, l6), (0, l7), (0, ((f : Nat) : Int)), (0, (ws (hbT c P x) P f k)), (0, ((k : Nat) : Int))]) (st' := [(0, (h 127 0)), (0, (((f : Nat) : Int) + ((k : Nat) : Int))), (2, 141), (0, (ws (hbT c P x) P f k))]) (g' := h) rfl ?_
                                  refine wp_eq (L' := [(2, 127), (0, x), (0, w), (0, y), (0, (((hman c x i) : Nat) : Int)), (0, (hlast c x i)), (0, l6), (0, l7), (0, ((f : Nat) : Int)), (0, (ws (hbT c P x) P f k)), (0, ((k : Nat) : Int))]) (st' := [(0, ((P : Nat) : Int)), (0, (((f : Nat) : Int) + ((k : Nat) : Int))), (2, 141), (0, (ws (hbT c P x) P f k))]) (g' := h) ?_ (by rfl) (by rw [hPh]) (by rfl)
                                  refine wp_irem rfl (by omega) (by omega) (by omega) ?_
                                  refine wp_eq (L' := [(2, 127), (0, x), (0, w), (0, y), (0, (((hman c x i) : Nat) : Int)), (0, (hlast c x i)), (0, l6), (0, l7), (0, ((f : Nat) : Int)), (0, (ws (hbT c P x) P f k)), (0, ((k : Nat) : Int))]) (st' := [(0, ((((f : Nat) : Int) + ((k : Nat) : Int)) % ((P : Nat) : Int))), (2, 141), (0, (ws (hbT c P x) P f k))]) (g' := h) ?_ (by rfl) (by rw [Int.tmod_eq_emod_of_nonneg (show 0 ≤ (f : Int) + (k : Int) by omega)]) (by rfl)
                                  refine wp_iald (k := 141) (((f + k) % P)) rfl rfl rfl (Nat.lt_of_lt_of_le (Nat.mod_lt _ (by omega)) h5.2) (by decide) ?_
                                  refine wp_eq (L' := [(2, 127), (0, x), (0, w), (0, y), (0, (((hman c x i) : Nat) : Int)), (0, (hlast c x i)), (0, l6), (0, l7), (0, ((f : Nat) : Int)), (0, (ws (hbT c P x) P f k)), (0, ((k : Nat) : Int))]) (st' := [(0, (hbT c P x ((f + k) % P))), (0, (ws (hbT c P x) P f k))]) (g' := h) ?_ (by rfl) (by rw [hT _ (Nat.lt_of_lt_of_le (Nat.mod_lt _ (by omega)) h5.2)]) (by rfl)
                                  refine wp_n 4 (pc' := 188) (L' := [(2, 127), (0, x), (0, w), (0, y), (0, (((hman c x i) : Nat) : Int)), (0, (hlast c x i)), (0, l6), (0, l7), (0, ((f : Nat) : Int)), (0, ((ws (hbT c P x) P f k) + (hbT c P x ((f + k) % P)))), (0, (((k : Nat) : Int) + 1))]) (st' := []) (g' := h) rfl ?_
                                  refine wp_eq (ih188 (k + 1) ?_ ?_) (by rw [ws_s]; rfl) (by rfl) (by rfl)
                                  · omega
                                  · omega
                            refine wp_eq (L188 (_ + 1) (0) (Nat.lt_succ_self _) ?_) (by first | rfl | (simp; done) | (simp; omega)) (by rfl) (by rfl)
                            · exact Nat.zero_le _
                      refine wp_eq (L173 (_ + 1) (0) (0) (-1) ((9, 0)) ((9, 0)) (Nat.lt_succ_self _) ?_ ?_) (by rfl) (by rfl) (by rfl)
                      · exact Nat.zero_le _
                      · exact Or.inl ⟨rfl, rfl, rfl⟩
                    · refine wp_n 1 (pc' := 163) (L' := [(2, 127), (0, x), (0, w), (0, y), (0, (((hman c x i) : Nat) : Int)), (0, (hlast c x i)), (0, ((i : Nat) : Int)), w7, (9, 0), (9, 0), (9, 0)]) (st' := [(0, (-1))]) (g' := h) rfl ?_
                      first
                      | (exfalso; omega)
                      | exact wp_ret rfl rfl rfl ⟨_, _, rfl, Or.inl ⟨by unfold HbD; omega, rfl⟩, FrN.rfl⟩
                      | exact wp_ret rfl rfl rfl ⟨_, _, rfl, Or.inr (Or.inl ⟨by unfold HbD; omega, by omega, rfl⟩), hF⟩
                      | exact wp_ret rfl rfl rfl ⟨_, _, rfl, Or.inr (Or.inr ⟨by unfold HbD; omega, by omega, Or.inr (Or.inr (Or.inr (Or.inr ⟨by omega, by omega, ⟨hI300.1, hI300.2.1, hI300.2.2.1, hI300.2.2.2⟩⟩)))⟩), ((hF.r hF286).m hF296).r hF300⟩
                      | exact wp_ret rfl rfl rfl ⟨_, _, rfl, Or.inr (Or.inr ⟨by unfold HbD; omega, by omega, Or.inr (Or.inr (Or.inr (Or.inl ⟨by omega, by omega, rfl⟩)))⟩), hF⟩
                      | exact wp_ret rfl rfl rfl ⟨_, _, rfl, Or.inr (Or.inr ⟨by unfold HbD; omega, by omega, Or.inl ⟨by omega, hb8.1⟩⟩), hF⟩
                      | exact wp_ret rfl rfl rfl ⟨_, _, rfl, Or.inr (Or.inr ⟨by unfold HbD; omega, by omega, Or.inr (Or.inl ⟨by omega, hb8.2⟩)⟩), hF⟩
                      | exact wp_ret rfl rfl rfl ⟨_, _, rfl, Or.inr (Or.inr ⟨by unfold HbD; omega, by omega, Or.inr (Or.inr (Or.inl ⟨by omega, by rw [hmn2]⟩))⟩), hF⟩
                  · have h13 := hI.rg.r13_12 i (by omega)
                    have h14 := hI.rg.r14_13 i (by omega)
                    have hla := hlast_in (h := x) hI.rg h5.1 i (by omega)
                    refine wp_n 9 (pc' := 85) (L' := [(2, 127), (0, x), (0, w), (0, y), (0, (((hman c x i) : Nat) : Int)), (0, (hlast c x i)), (0, ((i : Nat) : Int)), w7, (9, 0), (9, 0), (9, 0)]) (st' := [(0, ((580 + (4 * ((i : Nat) : Int))) + 3)), (2, 128)]) (g' := h) rfl ?_
                    refine wp_iald (k := 128) ((580 + 4 * i + 3)) rfl rfl (by omega) (by omega) (by decide) ?_
                    refine wp_eq (L' := [(2, 127), (0, x), (0, w), (0, y), (0, (((hman c x i) : Nat) : Int)), (0, (hlast c x i)), (0, ((i : Nat) : Int)), w7, (9, 0), (9, 0), (9, 0)]) (st' := [(0, (c 14 i))]) (g' := h) ?_ (by rfl) (by rw [hMh.fl _ (by omega)]) (by rfl)
                    refine wp_n 10 (pc' := 102) (L' := [(2, 127), (0, x), (0, w), (0, y), (0, (((hman c x i) : Nat) : Int)), (0, (hlast c x i)), (0, ((i : Nat) : Int)), (0, (c 14 i)), (9, 0), (9, 0), (9, 0)]) (st' := [(0, ((580 + (4 * ((i : Nat) : Int))) + 2)), (2, 128)]) (g' := h) rfl ?_
                    refine wp_iald (k := 128) ((580 + 4 * i + 2)) rfl rfl (by omega) (by omega) (by decide) ?_
                    refine wp_eq (L' := [(2, 127), (0, x), (0, w), (0, y), (0, (((hman c x i) : Nat) : Int)), (0, (hlast c x i)), (0, ((i : Nat) : Int)), (0, (c 14 i)), (9, 0), (9, 0), (9, 0)]) (st' := [(0, (c 13 i))]) (g' := h) ?_ (by rfl) (by rw [hMh.hd _ (by omega)]) (by rfl)
                    refine wp_n 1 (pc' := 104) (L' := [(2, 127), (0, x), (0, w), (0, y), (0, (((hman c x i) : Nat) : Int)), (0, (hlast c x i)), (0, ((i : Nat) : Int)), (0, (c 14 i)), (9, 0), (9, 0), (9, 0)]) (st' := [(0, x), (0, (c 13 i))]) (g' := h) rfl ?_
                    refine wp_ic_ne rfl (fun c26 => ?_) (fun c26 => ?_)
                    · have hq2 : ¬ (c 13 i = x ∧ c 14 i ≠ -1) := fun e => absurd e.1 (by omega)
                      have hq1 : ¬ (c 13 i = x ∧ c 14 i ≠ -1 ∧ hlast c x i ≠ -1) := fun e => absurd e.1 (by omega)
                      refine wp_n 2 (pc' := 60) (L' := [(2, 127), (0, x), (0, w), (0, y), (0, (((hman c x i) : Nat) : Int)), (0, (hlast c x i)), (0, (((i : Nat) : Int) + 1)), (0, (c 14 i)), (9, 0), (9, 0), (9, 0)]) (st' := []) (g' := h) rfl ?_
                      refine wp_eq (ih60 (i + 1) (h) ((0, (c 14 i))) ?_ ?_ ?_ ?_) (by first
                      | (rw [hman_s, hlast_s, if_neg hq1, if_neg hq2]; rfl)
                      | (rw [hman_s, hlast_s, if_neg hq1, if_pos hq2]; rfl)
                      | (rw [hman_s, hlast_s, if_pos hq1, if_pos hq2]; rfl)) (by rfl) (by rfl)
                      · omega
                      · omega
                      · first
                        | (intro j hj; rw [htl_s, if_neg hq1, Int.add_zero]; exact hH j hj)
                        | (intro j hj
                           rw [htl_s, if_pos hq1]
                           by_cases q : j = ((c 14 i - hlast c x i) % (P : Int)).toNat
                           · rw [if_pos q, ← q, up_eq, hH j hj]
                           · rw [if_neg q, up_nj q, hH j hj, Int.add_zero])
                      · first | exact hF | exact hF.up (by unfold Sm; omega)
                    · refine wp_n 1 (pc' := 109) (L' := [(2, 127), (0, x), (0, w), (0, y), (0, (((hman c x i) : Nat) : Int)), (0, (hlast c x i)), (0, ((i : Nat) : Int)), (0, (c 14 i)), (9, 0), (9, 0), (9, 0)]) (st' := [(0, (c 14 i))]) (g' := h) rfl ?_
                      refine wp_if_ge rfl (fun c27 => ?_) (fun c27 => ?_)
                      · refine wp_n 1 (pc' := 117) (L' := [(2, 127), (0, x), (0, w), (0, y), (0, (((hman c x i) : Nat) : Int)), (0, (hlast c x i)), (0, ((i : Nat) : Int)), (0, (c 14 i)), (9, 0), (9, 0), (9, 0)]) (st' := [(0, (hlast c x i))]) (g' := h) rfl ?_
                        refine wp_if_lt rfl (fun c28 => ?_) (fun c28 => ?_)
                        · have hq2 : c 13 i = x ∧ c 14 i ≠ -1 := ⟨by omega, by omega⟩
                          have hq1 : ¬ (c 13 i = x ∧ c 14 i ≠ -1 ∧ hlast c x i ≠ -1) := fun e => e.2.2 (by omega)
                          refine wp_n 4 (pc' := 60) (L' := [(2, 127), (0, x), (0, w), (0, y), (0, (((hman c x i) : Nat) : Int)), (0, (c 14 i)), (0, (((i : Nat) : Int) + 1)), (0, (c 14 i)), (9, 0), (9, 0), (9, 0)]) (st' := []) (g' := h) rfl ?_
                          refine wp_eq (ih60 (i + 1) (h) ((0, (c 14 i))) ?_ ?_ ?_ ?_) (by first
                          | (rw [hman_s, hlast_s, if_neg hq1, if_neg hq2]; rfl)
                          | (rw [hman_s, hlast_s, if_neg hq1, if_pos hq2]; rfl)
                          | (rw [hman_s, hlast_s, if_pos hq1, if_pos hq2]; rfl)) (by rfl) (by rfl)
                          · omega
                          · omega
                          · first
                            | (intro j hj; rw [htl_s, if_neg hq1, Int.add_zero]; exact hH j hj)
                            | (intro j hj
                               rw [htl_s, if_pos hq1]
                               by_cases q : j = ((c 14 i - hlast c x i) % (P : Int)).toNat
                               · rw [if_pos q, ← q, up_eq, hH j hj]
                               · rw [if_neg q, up_nj q, hH j hj, Int.add_zero])
                          · first | exact hF | exact hF.up (by unfold Sm; omega)
                        · have hq2 : c 13 i = x ∧ c 14 i ≠ -1 := ⟨by omega, by omega⟩
                          have hq1 : c 13 i = x ∧ c 14 i ≠ -1 ∧ hlast c x i ≠ -1 := ⟨by omega, by omega, by omega⟩
                          have hm0 := Int.emod_nonneg (c 14 i - hlast c x i) (show (P : Int) ≠ 0 by omega)
                          have hm1 := Int.emod_lt_of_pos (c 14 i - hlast c x i) (show (0 : Int) < (P : Int) by omega)
                          refine wp_n 7 (pc' := 133) (L' := [(2, 127), (0, x), (0, w), (0, y), (0, (((hman c x i) : Nat) : Int)), (0, (hlast c x i)), (0, ((i : Nat) : Int)), (0, (c 14 i)), (9, 0), (9, 0), (9, 0)]) (st' := [(0, (h 127 0)), (0, ((c 14 i) - (hlast c x i))), (2, 141)]) (g' := h) rfl ?_
                          refine wp_eq (L' := [(2, 127), (0, x), (0, w), (0, y), (0, (((hman c x i) : Nat) : Int)), (0, (hlast c x i)), (0, ((i : Nat) : Int)), (0, (c 14 i)), (9, 0), (9, 0), (9, 0)]) (st' := [(0, ((P : Nat) : Int)), (0, ((c 14 i) - (hlast c x i))), (2, 141)]) (g' := h) ?_ (by rfl) (by rw [hF 127 0 (by unfold Sm; omega), hP]) (by rfl)
                          refine wp_n 3 (pc' := 138) (L' := [(2, 127), (0, x), (0, w), (0, y), (0, (((hman c x i) : Nat) : Int)), (0, (hlast c x i)), (0, ((i : Nat) : Int)), (0, (c 14 i)), (9, 0), (9, 0), (9, 0)]) (st' := [(0, (h 127 0)), (0, (((c 14 i) - (hlast c x i)) + ((P : Nat) : Int))), (2, 141)]) (g' := h) rfl ?_
                          refine wp_eq (L' := [(2, 127), (0, x), (0, w), (0, y), (0, (((hman c x i) : Nat) : Int)), (0, (hlast c x i)), (0, ((i : Nat) : Int)), (0, (c 14 i)), (9, 0), (9, 0), (9, 0)]) (st' := [(0, ((P : Nat) : Int)), (0, (((c 14 i) - (hlast c x i)) + ((P : Nat) : Int))), (2, 141)]) (g' := h) ?_ (by rfl) (by rw [hF 127 0 (by unfold Sm; omega), hP]) (by rfl)
                          refine wp_irem rfl (by omega) (by omega) (by omega) ?_
                          refine wp_eq (L' := [(2, 127), (0, x), (0, w), (0, y), (0, (((hman c x i) : Nat) : Int)), (0, (hlast c x i)), (0, ((i : Nat) : Int)), (0, (c 14 i)), (9, 0), (9, 0), (9, 0)]) (st' := [(0, ((((c 14 i) - (hlast c x i)) + ((P : Nat) : Int)) % ((P : Nat) : Int))), (2, 141)]) (g' := h) ?_ (by rfl) (by rw [Int.tmod_eq_emod_of_nonneg (show 0 ≤ c 14 i - hlast c x i + (P : Int) by omega)]) (by rfl)
                          refine wp_n 1 (pc' := 140) (L' := [(2, 127), (0, x), (0, w), (0, y), (0, (((hman c x i) : Nat) : Int)), (0, (hlast c x i)), (0, ((i : Nat) : Int)), (0, (c 14 i)), (9, 0), (9, 0), (9, 0)]) (st' := [(0, ((((c 14 i) - (hlast c x i)) + ((P : Nat) : Int)) % ((P : Nat) : Int))), (2, 141), (0, ((((c 14 i) - (hlast c x i)) + ((P : Nat) : Int)) % ((P : Nat) : Int))), (2, 141)]) (g' := h) rfl ?_
                          refine wp_iald (k := 141) (((c 14 i - hlast c x i) % (P : Int)).toNat) rfl rfl (by rw [Int.add_emod_right]; omega) (by omega) (by decide) ?_
                          refine wp_n 2 (pc' := 143) (L' := [(2, 127), (0, x), (0, w), (0, y), (0, (((hman c x i) : Nat) : Int)), (0, (hlast c x i)), (0, ((i : Nat) : Int)), (0, (c 14 i)), (9, 0), (9, 0), (9, 0)]) (st' := [(0, ((h 141 ((c 14 i - hlast c x i) % (P : Int)).toNat) + 1)), (0, ((((c 14 i) - (hlast c x i)) + ((P : Nat) : Int)) % ((P : Nat) : Int))), (2, 141)]) (g' := h) rfl ?_
                          refine wp_iast (k := 141) (((c 14 i - hlast c x i) % (P : Int)).toNat) rfl rfl (by rw [Int.add_emod_right]; omega) (by omega) (by decide) ?_
                          refine wp_n 5 (pc' := 60) (L' := [(2, 127), (0, x), (0, w), (0, y), (0, ((((hman c x i) : Nat) : Int) + 1)), (0, (c 14 i)), (0, (((i : Nat) : Int) + 1)), (0, (c 14 i)), (9, 0), (9, 0), (9, 0)]) (st' := []) (g' := (am_up h 141 (((c 14 i - hlast c x i) % (P : Int)).toNat) ((h 141 ((c 14 i - hlast c x i) % (P : Int)).toNat) + 1))) rfl ?_
                          refine wp_eq (ih60 (i + 1) ((am_up h 141 (((c 14 i - hlast c x i) % (P : Int)).toNat) ((h 141 ((c 14 i - hlast c x i) % (P : Int)).toNat) + 1))) ((0, (c 14 i))) ?_ ?_ ?_ ?_) (by first
                          | (rw [hman_s, hlast_s, if_neg hq1, if_neg hq2]; rfl)
                          | (rw [hman_s, hlast_s, if_neg hq1, if_pos hq2]; rfl)
                          | (rw [hman_s, hlast_s, if_pos hq1, if_pos hq2]; rfl)) (by rfl) (by rfl)
                          · omega
                          · omega
                          · first
                            | (intro j hj; rw [htl_s, if_neg hq1, Int.add_zero]; exact hH j hj)
                            | (intro j hj
                               rw [htl_s, if_pos hq1]
                               by_cases q : j = ((c 14 i - hlast c x i) % (P : Int)).toNat
                               · rw [if_pos q, ← q, up_eq, hH j hj]
                               · rw [if_neg q, up_nj q, hH j hj, Int.add_zero])
                          · first | exact hF | exact hF.up (by unfold Sm; omega)
                      · have hq2 : ¬ (c 13 i = x ∧ c 14 i ≠ -1) := fun e => e.2 (by omega)
                        have hq1 : ¬ (c 13 i = x ∧ c 14 i ≠ -1 ∧ hlast c x i ≠ -1) := fun e => e.2.1 (by omega)
                        refine wp_n 3 (pc' := 60) (L' := [(2, 127), (0, x), (0, w), (0, y), (0, (((hman c x i) : Nat) : Int)), (0, (hlast c x i)), (0, (((i : Nat) : Int) + 1)), (0, (c 14 i)), (9, 0), (9, 0), (9, 0)]) (st' := []) (g' := h) rfl ?_
                        refine wp_eq (ih60 (i + 1) (h) ((0, (c 14 i))) ?_ ?_ ?_ ?_) (by first
                        | (rw [hman_s, hlast_s, if_neg hq1, if_neg hq2]; rfl)
                        | (rw [hman_s, hlast_s, if_neg hq1, if_pos hq2]; rfl)
                        | (rw [hman_s, hlast_s, if_pos hq1, if_pos hq2]; rfl)) (by rfl) (by rfl)
                        · omega
                        · omega
                        · first
                          | (intro j hj; rw [htl_s, if_neg hq1, Int.add_zero]; exact hH j hj)
                          | (intro j hj
                             rw [htl_s, if_pos hq1]
                             by_cases q : j = ((c 14 i - hlast c x i) % (P : Int)).toNat
                             · rw [if_pos q, ← q, up_eq, hH j hj]
                             · rw [if_neg q, up_nj q, hH j hj, Int.add_zero])
                        · first | exact hF | exact hF.up (by unfold Sm; omega)
              refine wp_eq (L60 (_ + 1) (0) (h) ((9, 0)) (Nat.lt_succ_self _) ?_ ?_ ?_) (by rfl) (by rfl) (by rfl)
              · exact Nat.zero_le _
              · exact fun j hj => hH j (by omega)
              · exact hF
            · refine wp_n 4 (pc' := 44) (L' := [(2, 127), (0, x), (0, w), (0, y), (0, ((i : Nat) : Int)), (9, 0), (9, 0), (9, 0), (9, 0), (9, 0), (9, 0)]) (st' := [(0, 0), (0, ((i : Nat) : Int)), (2, 141)]) (g' := h) rfl ?_
              refine wp_iast (k := 141) (i) rfl rfl (by omega) (by omega) (by decide) ?_
              refine wp_n 2 (pc' := 30) (L' := [(2, 127), (0, x), (0, w), (0, y), (0, (((i : Nat) : Int) + 1)), (9, 0), (9, 0), (9, 0), (9, 0), (9, 0), (9, 0)]) (st' := []) (g' := (am_up h 141 i 0)) rfl ?_
              refine wp_eq (ih30 (i + 1) ((am_up h 141 i 0)) ?_ ?_ ?_ ?_) (by first | rfl | (simp; done) | (simp; omega)) (by rfl) (by rfl)
              · omega
              · omega
              · intro j hj
                by_cases e : j = i
                · subst e; exact up_eq
                · rw [up_nj e]; exact hH j (by omega)
              · exact hF.up (by unfold Sm; omega)
        refine wp_eq (L30 (_ + 1) (0) (g) (Nat.lt_succ_self _) ?_ ?_ ?_) (by first | rfl | (simp; done) | (simp; omega)) (by rfl) (by rfl)
        · exact Nat.zero_le _
        · exact fun j hj => absurd hj (Nat.not_lt_zero _)
        · exact FrN.rfl
      · refine wp_eq (L' := [(2, 127), (0, x), (0, w), (0, y), (9, 0), (9, 0), (9, 0), (9, 0), (9, 0), (9, 0), (9, 0)]) (st' := [(0, 0)]) (g' := g) ?_
        refine wp_n 2 (pc' := 26) (L' := [(2, 127), (0, x), (0, w), (0, y), (9, 0), (9, 0), (9, 0), (9, 0), (9, 0), (9, 0), (9, 0)]) (st' := [(0, (-1))]) (g' := g) rfl ?_
        first
        | (exfalso; omega)
        | exact wp_ret rfl rfl rfl ⟨_, _, rfl, Or.inl ⟨by unfold HbD; omega, rfl⟩, FrN.rfl⟩
        | exact wp_ret rfl rfl rfl ⟨_, _, rfl, Or.inr (Or.inl ⟨by unfold HbD; omega, by omega, rfl⟩), hF⟩
        | exact wp_ret rfl rfl rfl ⟨_, _, rfl, Or.inr (Or.inr ⟨by unfold HbD; omega, by omega, Or.inr (Or.inr (Or.inr (Or.inr ⟨by omega, by omega, ⟨hI300.1, hI300.2.1, hI300.2.2.1, hI300.2.2.2⟩⟩)))⟩), ((hF.r hF286).m hF296).r hF300⟩
        | exact wp_ret rfl rfl rfl ⟨_, _, rfl, Or.inr (Or.inr ⟨by unfold HbD; omega, by omega, Or.inr (Or.inr (Or.inr (Or.inl ⟨by omega, by omega, rfl⟩)))⟩), hF⟩
        | exact wp_ret rfl rfl rfl ⟨_, _, rfl, Or.inr (Or.inr ⟨by unfold HbD; omega, by omega, Or.inl ⟨by omega, hb8.1⟩⟩), hF⟩
        | exact wp_ret rfl rfl rfl ⟨_, _, rfl, Or.inr (Or.inr ⟨by unfold HbD; omega, by omega, Or.inr (Or.inl ⟨by omega, hb8.2⟩)⟩), hF⟩
        | exact wp_ret rfl rfl rfl ⟨_, _, rfl, Or.inr (Or.inr ⟨by unfold HbD; omega, by omega, Or.inr (Or.inr (Or.inl ⟨by omega, by rw [hmn2]⟩))⟩), hF⟩
    · refine wp_eq (L' := [(2, 127), (0, x), (0, w), (0, y), (9, 0), (9, 0), (9, 0), (9, 0), (9, 0), (9, 0), (9, 0)]) (st' := [(0, 0)]) (g' := g) ?_
      refine wp_n 2 (pc' := 26) (L' := [(2, 127), (0, x), (0, w), (0, y), (9, 0), (9, 0), (9, 0), (9, 0), (9, 0), (9, 0), (9, 0)]) (st' := [(0, (-1))]) (g' := g) rfl ?_
      first
      | (exfalso; omega)
      | exact wp_ret rfl rfl rfl ⟨_, _, rfl, Or.inl ⟨by unfold HbD; omega, rfl⟩, FrN.rfl⟩
      | exact wp_ret rfl rfl rfl ⟨_, _, rfl, Or.inr (Or.inl ⟨by unfold HbD; omega, by omega, rfl⟩), hF⟩
      | exact wp_ret rfl rfl rfl ⟨_, _, rfl, Or.inr (Or.inr ⟨by unfold HbD; omega, by omega, Or.inr (Or.inr (Or.inr (Or.inr ⟨by omega, by omega, ⟨hI300.1, hI300.2.1, hI300.2.2.1, hI300.2.2.2⟩⟩)))⟩), ((hF.r hF286).m hF296).r hF300⟩
      | exact wp_ret rfl rfl rfl ⟨_, _, rfl, Or.inr (Or.inr ⟨by unfold HbD; omega, by omega, Or.inr (Or.inr (Or.inr (Or.inl ⟨by omega, by omega, rfl⟩)))⟩), hF⟩
      | exact wp_ret rfl rfl rfl ⟨_, _, rfl, Or.inr (Or.inr ⟨by unfold HbD; omega, by omega, Or.inl ⟨by omega, hb8.1⟩⟩), hF⟩
      | exact wp_ret rfl rfl rfl ⟨_, _, rfl, Or.inr (Or.inr ⟨by unfold HbD; omega, by omega, Or.inr (Or.inl ⟨by omega, hb8.2⟩)⟩), hF⟩
      | exact wp_ret rfl rfl rfl ⟨_, _, rfl, Or.inr (Or.inr ⟨by unfold HbD; omega, by omega, Or.inr (Or.inr (Or.inl ⟨by omega, by rw [hmn2]⟩))⟩), hF⟩
  · refine wp_eq (L' := [(2, 127), (0, x), (0, w), (0, y), (9, 0), (9, 0), (9, 0), (9, 0), (9, 0), (9, 0), (9, 0)]) (st' := [(0, 0)]) (g' := g) ?_
    refine wp_n 2 (pc' := 26) (L' := [(2, 127), (0, x), (0, w), (0, y), (9, 0), (9, 0), (9, 0), (9, 0), (9, 0), (9, 0), (9, 0)]) (st' := [(0, (-1))]) (g' := g) rfl ?_
    first
    | (exfalso; omega)
    | exact wp_ret rfl rfl rfl ⟨_, _, rfl, Or.inl ⟨by unfold HbD; omega, rfl⟩, FrN.rfl⟩
    | exact wp_ret rfl rfl rfl ⟨_, _, rfl, Or.inr (Or.inl ⟨by unfold HbD; omega, by omega, rfl⟩), hF⟩
    | exact wp_ret rfl rfl rfl ⟨_, _, rfl, Or.inr (Or.inr ⟨by unfold HbD; omega, by omega, Or.inr (Or.inr (Or.inr (Or.inr ⟨by omega, by omega, ⟨hI300.1, hI300.2.1, hI300.2.2.1, hI300.2.2.2⟩⟩)))⟩), ((hF.r hF286).m hF296).r hF300⟩
    | exact wp_ret rfl rfl rfl ⟨_, _, rfl, Or.inr (Or.inr ⟨by unfold HbD; omega, by omega, Or.inr (Or.inr (Or.inr (Or.inl ⟨by omega, by omega, rfl⟩)))⟩), hF⟩
    | exact wp_ret rfl rfl rfl ⟨_, _, rfl, Or.inr (Or.inr ⟨by unfold HbD; omega, by omega, Or.inl ⟨by omega, hb8.1⟩⟩), hF⟩
    | exact wp_ret rfl rfl rfl ⟨_, _, rfl, Or.inr (Or.inr ⟨by unfold HbD; omega, by omega, Or.inr (Or.inl ⟨by omega, hb8.2⟩)⟩), hF⟩
    | exact wp_ret rfl rfl rfl ⟨_, _, rfl, Or.inr (Or.inr ⟨by unfold HbD; omega, by omega, Or.inr (Or.inr (Or.inl ⟨by omega, by rw [hmn2]⟩))⟩), hF⟩
theorem cpost_kt {P b : Nat} {g : am_G} {A : Int → Prop} {r : am_R} (hI : CInv P g) (h : ∃ g' v, r = (some (0, v), SH b, g') ∧ A v ∧ CLs g' ∧ FrKT g g') : CPost P g (fun c1 v1 => A v1 ∧ CoE g c1) r := by
  obtain ⟨g', v, h1, h2, h3, h4⟩ := h
  exact ⟨g', v, b, h1, hI.keep (fun c j hc => h4 c j (by unfold Sc Sq at hc; omega) (by unfold Sc Sq at hc; omega)) h3 (hI.wls.same fun c j q1 q2 => h4 c j (by omega) (by omega)), fun c j hc => h4 c j (by omega) (by omega), h2, fun c j hc => h4 c j (by unfold Co at hc; omega) (by unfold Co at hc; omega)⟩
theorem C_habit {sn : Nat} {sx : Nat → Int} {b : Nat} {g : am_G} {P : Nat} {x w y : Int} (h_x : R32 x) (h_w : R32 w) (h_y : R32 y) (hI : CInv P g) : Ev sn sx 6 119 [(2, 0), (0, x), (0, w), (0, y)] (SH b) g (CPost P g (fun c1 v1 => HbA g P x w y v1 ∧ CoE g c1)) := (e_habit h_x h_w h_y hI).mono fun r hh => cpost_kt (A := HbA g P x w y) hI hh
theorem M_habit {sn : Nat} {sx : Nat → Int} {b : Nat} {g c : am_G} {P : Nat} {x w y : Int} (h_x : R32 x) (h_w : R32 w) (h_y : R32 y) (hI : CInv P c) (hM : MRel c g) : Ev sn sx 5 239 [(2, 127), (0, x), (0, w), (0, y)] (SH b) g (MPost b g (fun c1 v1 => HbA c P x w y v1 ∧ CoE c c1)) := (m_habit h_x h_w h_y hI hM).mono fun r hh => mpost_n (A := HbA c P x w y) hM (fun _ _ => HbA.uniq hI.ck.1.1) hh
