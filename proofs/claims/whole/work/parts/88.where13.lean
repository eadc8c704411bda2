/-! WHERE: the reference goes through all ways -/
def WM (p : Nat → Prop) (v : Nat → Int) (B : Nat) (g : am_G) : Prop := g 127 31 = (cntW p B : Int) ∧ MR g 128 (sumW p v B) ∧ ((cntW p B = 0 ∧ MR g 127 0 ∧ ∀ t, t < 3 → g 138 t = -1) ∨ ∃ k, k < B ∧ p k ∧ MR g 127 (v k) ∧ (∀ j, j < B → p j → v j ≤ v k) ∧ (∀ j, j < k → p j → v j < v k) ∧ ∀ t, t < 3 → g 138 t = wy k t)
theorem lkw_eq {P n : Nat} {l ev tb fl sc : Nat → Int} (H : BkH P n l ev tb fl sc) {e : Int} {w w' : Nat → Int} (h : ∀ t : Nat, t < 3 → w t = w' t) : lkw P l ev tb fl e w n = lkw P l ev tb fl e w' n := by rw [lkw_chn H n (Nat.le_refl _), lkw_chn H n (Nat.le_refl _), h 0 (by decide), h 1 (by decide), h 2 (by decide)]
theorem MR.same {g g' : am_G} {r : Nat} {v : Int} (h : MR g r v) (hF : ∀ j, j < 100 → g' 136 (100 * r + j) = g 136 (100 * r + j)) : MR g' r v := by
  obtain ⟨h1, h2⟩ := h
  refine ⟨fun j hj => by rw [hF j hj]; exact h1 j hj, ?_⟩
  rw [← h2]
  exact mval_eq fun j hj => hF j hj
theorem MR.upn {g : am_G} {r k j : Nat} {v x : Int} (h : MR g r v) (hk : 136 ≠ k) : MR (am_up g k j x) r v := h.same fun i _ => up_ne hk
theorem WM.same {p : Nat → Prop} {v : Nat → Int} {B : Nat} {g g' : am_G} (h : WM p v B g) (h1 : g' 127 31 = g 127 31) (h2 : ∀ j, 12700 ≤ j → j < 12900 → g' 136 j = g 136 j) (h3 : ∀ j, g' 138 j = g 138 j) : WM p v B g' := by
  obtain ⟨w1, w2, w3⟩ := h
  refine ⟨h1.trans w1, w2.same fun j hj => h2 _ (by omega) (by omega), ?_⟩
  rcases w3 with ⟨q1, q2, q3⟩ | ⟨k, q1, q2, q3, q4, q5, q6⟩
  · exact Or.inl ⟨q1, q2.same fun j hj => h2 _ (by omega) (by omega), fun t ht => (h3 t).trans (q3 t ht)⟩
  · exact Or.inr ⟨k, q1, q2, q3.same fun j hj => h2 _ (by omega) (by omega), q4, q5, fun t ht => (h3 t).trans (q6 t ht)⟩
theorem WM.next {p : Nat → Prop} {v : Nat → Int} {B : Nat} {g : am_G} (h : WM p v B g) (hp : ¬ p B) : WM p v (B + 1) g := by
  obtain ⟨h1, h2, h3⟩ := h
  refine ⟨by rw [cntW_n hp]; exact h1, by rw [sumW_n hp]; exact h2, ?_⟩
  rcases h3 with ⟨q1, q2, q7⟩ | ⟨k, q1, q2, q3, q4, q5, q6⟩
  · exact Or.inl ⟨by rw [cntW_n hp]; exact q1, q2, q7⟩
  · refine Or.inr ⟨k, by omega, q2, q3, fun j hj hpj => ?_, q5, q6⟩
    by_cases e : j = B
    · subst e; exact absurd hpj hp
    · exact q4 j (by omega) hpj
theorem WM.put {p : Nat → Prop} {v : Nat → Int} {B : Nat} {g g' : am_G} (h : WM p v B g) (hp : p B) (h31 : g' 127 31 = g 127 31 + 1) (hA : MR g' 128 (sumW p v B + v B)) (hb : MR g' 127 (v B)) (hs : ∀ t, t < 3 → g' 138 t = wy B t) (hm : ∀ j, j < B → p j → v j < v B) : WM p v (B + 1) g' := by
  refine ⟨by rw [cntW_y hp, h31, h.1]; rfl, by rw [sumW_y hp]; exact hA, Or.inr ⟨B, by omega, hp, hb, fun j hj hpj => ?_, hm, hs⟩⟩
  by_cases q : j = B
  · subst q; exact Int.le_refl _
  · exact Int.le_of_lt (hm j (by omega) hpj)
theorem WM.hold {p : Nat → Prop} {v : Nat → Int} {B k : Nat} {g g' : am_G} (h : WM p v B g) (hp : p B) (h31 : g' 127 31 = g 127 31 + 1) (hA : MR g' 128 (sumW p v B + v B)) (hb : MR g' 127 (v k)) (hk : k < B) (hpk : p k) (h4 : ∀ j, j < B → p j → v j ≤ v k) (h5 : ∀ j, j < k → p j → v j < v k) (hs : ∀ t, t < 3 → g' 138 t = wy k t) (hv : v B ≤ v k) : WM p v (B + 1) g' := by
  refine ⟨by rw [cntW_y hp, h31, h.1]; rfl, by rw [sumW_y hp]; exact hA, Or.inr ⟨k, by omega, hpk, hb, fun j hj hpj => ?_, h5, hs⟩⟩
  by_cases q : j = B
  · subst q; exact hv
  · exact h4 j (by omega) hpj
/-- the reference's Where scratch -/
def FrF (g h : am_G) : Prop := ∀ c j, (c ≠ 127 ∨ j ≠ 31) → c ≠ 136 → c ≠ 137 → c ≠ 138 → h c j = g c j
theorem FrF.n {g h : am_G} (hF : FrF g h) : FrN g h := fun c j hc => hF c j (by unfold Sm at hc; omega) (by unfold Sm at hc; omega) (by unfold Sm at hc; omega) (by unfold Sm at hc; omega)
theorem FrF.trans {g h i : am_G} (h1 : FrF g h) (h2 : FrF h i) : FrF g i := fun c j a b x y => (h2 c j a b x y).trans (h1 c j a b x y)
theorem FrM.f {r : Nat} {g h : am_G} (hF : FrM r g h) : FrF g h := fun c j _ b _ _ => hF c j fun e => absurd e b
theorem FrF.up {g h : am_G} {k i : Nat} {x : Int} (h1 : FrF g h) (hk : (k = 127 ∧ i = 31) ∨ k = 137 ∨ k = 138) : FrF g (am_up h k i x) := fun c j a b y z => (up_no (by omega)).trans (h1 c j a b y z)
theorem FrF.rfl {g : am_G} : FrF g g := fun _ _ _ _ _ _ => Eq.refl _
set_option maxHeartbeats 400000 in
set_option maxRecDepth 20000 in
theorem m_findWays {sn : Nat} {sx : Nat → Int} {b : Nat} {g : am_G} {c : am_G} {P e : Nat} (hI : CInv P c) (hM : MRel c g) (he : e < 4) : Ev sn sx 5 233 [(2, 127), (0, ((e : Nat) : Int))] (SH b) g (fun r => ∃ g', r = (none, SH b, g') ∧ WM (fun k => okw (c 11) (c 12) (c 14) (c 15) (c 10 4).toNat e (wy k)) (fun k => lkw P (c 3) (c 11) (c 12) (c 14) (e : Int) (wy k) (c 10 4).toNat) 125 g' ∧ FrF g g') := by
  have h5 := hI.ck.1
  have hn := hI.rg.r10_6 4 rfl
  have hBk := hI.bk
  refine ev_of (K := 4) T233 (by decide) rfl rfl (Nat.le_of_ble_eq_true rfl) ?_
  refine wp_eq (L' := [(2, 127), (0, ((e : Nat) : Int)), (9, 0), (9, 0)]) (st' := []) (g' := g) ?_
  refine wp_n 6 (pc' := 9) (L' := [(2, 127), (0, ((e : Nat) : Int)), (9, 0), (9, 0)]) (st' := [(0, 0), (0, 127), (2, 127)]) (g' := (am_up g 127 31 0)) rfl ?_
  refine wp_cv (as := [(2, 127), (0, 127), (0, 0)]) (rest := []) rfl rfl rfl (Nat.le_of_ble_eq_true rfl) rfl (m_put (r := 127) (by omega) (by omega)) (by decide) (fun r1 h2 => ?_)
  obtain ⟨g9, rfl, hR9, hF9⟩ := h2
  refine wp_eq (L' := [(2, 127), (0, ((e : Nat) : Int)), (9, 0), (9, 0)]) (st' := []) (g' := g9) ?_
  refine wp_n 3 (pc' := 17) (L' := [(2, 127), (0, ((e : Nat) : Int)), (9, 0), (9, 0)]) (st' := [(0, 0), (0, 128), (2, 127)]) (g' := g9) rfl ?_
  refine wp_cv (as := [(2, 127), (0, 128), (0, 0)]) (rest := []) rfl rfl rfl (Nat.le_of_ble_eq_true rfl) rfl (m_put (r := 128) (by omega) (by omega)) (by decide) (fun r3 h4 => ?_)
  obtain ⟨g17, rfl, hR17, hF17⟩ := h4
  refine wp_eq (L' := [(2, 127), (0, ((e : Nat) : Int)), (9, 0), (9, 0)]) (st' := []) (g' := g17) ?_
  refine wp_n 2 (pc' := 22) (L' := [(2, 127), (0, ((e : Nat) : Int)), (0, 0), (9, 0)]) (st' := []) (g' := g17) rfl ?_
  have L22 : ∀ (lf : Nat) (t : Nat) (h : am_G) (w3 : am_V), 3 - t < lf → (t ≤ 3) → (∀ u : Nat, u < t → h 138 u = -1) → (h 127 31 = 0) → (MR h 127 0) → (MR h 128 0) → (FrF g h) → Wp sn sx 4 T233 22 [(2, 127), (0, ((e : Nat) : Int)), (0, ((t : Nat) : Int)), w3] [] (SH b) h (fun r => ∃ g', r = (none, SH b, g') ∧ WM (fun k => okw (c 11) (c 12) (c 14) (c 15) (c 10 4).toNat e (wy k)) (fun k => lkw P (c 3) (c 11) (c 12) (c 14) (e : Int) (wy k) (c 10 4).toNat) 125 g' ∧ FrF g g') := by
    intro lf
    induction lf with
    | zero => intro t h w3 hlf; exact absurd hlf (Nat.not_lt_zero _)
    | succ lf ih22 =>
      intro t h w3 hlf ht hz h31 hA hB hF0
      refine wp_n 2 (pc' := 24) (L' := [(2, 127), (0, ((e : Nat) : Int)), (0, ((t : Nat) : Int)), w3]) (st' := [(0, 3), (0, ((t : Nat) : Int))]) (g' := h) rfl ?_
      refine wp_ic_ge rfl (fun c5 => ?_) (fun c5 => ?_)
      · obtain rfl : t = 3 := by omega
        refine wp_n 2 (pc' := 42) (L' := [(2, 127), (0, ((e : Nat) : Int)), (0, 0), w3]) (st' := []) (g' := h) rfl ?_
        have L42 : ∀ (lf : Nat) (B : Nat) (h : am_G) (w3 : am_V), 125 - B < lf → (B ≤ 125) → (WM (fun k => okw (c 11) (c 12) (c 14) (c 15) (c 10 4).toNat e (wy k)) (fun k => lkw P (c 3) (c 11) (c 12) (c 14) (e : Int) (wy k) (c 10 4).toNat) B h) → (FrF g h) → Wp sn sx 4 T233 42 [(2, 127), (0, ((e : Nat) : Int)), (0, ((B : Nat) : Int)), w3] [] (SH b) h (fun r => ∃ g', r = (none, SH b, g') ∧ WM (fun k => okw (c 11) (c 12) (c 14) (c 15) (c 10 4).toNat e (wy k)) (fun k => lkw P (c 3) (c 11) (c 12) (c 14) (e : Int) (wy k) (c 10 4).toNat) 125 g' ∧ FrF g g') := by
          intro lf
          induction lf with
          | zero => intro B h w3 hlf; exact absurd hlf (Nat.not_lt_zero _)
          | succ lf ih42 =>
            intro B h w3 hlf hB hW hF
            refine wp_n 2 (pc' := 45) (L' := [(2, 127), (0, ((e : Nat) : Int)), (0, ((B : Nat) : Int)), w3]) (st' := [(0, 125), (0, ((B : Nat) : Int))]) (g' := h) rfl ?_
            refine wp_ic_ge rfl (fun c6 => ?_) (fun c6 => ?_)
            · obtain rfl : B = 125 := by omega
              exact wp_ret rfl rfl rfl ⟨_, rfl, hW, hF⟩
            · have hBlt : B < 125 := by omega
              have hb0 : wy B 0 = (B : Int) / 25 - 1 := by rw [wy0]; omega
              have hb1 : wy B 1 = (B : Int) / 5 % 5 - 1 := by rw [wy1]; omega
              have hb2 : wy B 2 = (B : Int) % 5 - 1 := by rw [wy2]; omega
              have hy : ∀ t : Nat, t < 3 → (am_up (am_up (am_up h 137 0 (wy B 0)) 137 1 (wy B 1)) 137 2 (wy B 2)) 137 t = wy B t := by
                intro t ht
                rcases (show t = 0 ∨ t = 1 ∨ t = 2 by omega) with q | q | q <;> subst q
                · rw [up_nj (by decide), up_nj (by decide), up_eq]
                · rw [up_nj (by decide), up_eq]
                · exact up_eq
              have hFy : FrF g (am_up (am_up (am_up h 137 0 (wy B 0)) 137 1 (wy B 1)) 137 2 (wy B 2)) := ((hF.up (by omega)).up (by omega)).up (by omega)
              have hMy := hM.g_same hFy.n
              have hyw : ∀ t : Nat, t < 3 → -1 ≤ (am_up (am_up (am_up h 137 0 (wy B 0)) 137 1 (wy B 1)) 137 2 (wy B 2)) 137 t ∧ (am_up (am_up (am_up h 137 0 (wy B 0)) 137 1 (wy B 1)) 137 2 (wy B 2)) 137 t ≤ 3 := fun t ht => by
                rw [hy t ht]
                have := wy_in B t (by omega)
                omega
              have hz : ∀ t : Nat, t < 3 → (am_up (am_up (am_up (am_up h 137 0 (wy B 0)) 137 1 (wy B 1)) 137 2 (wy B 2)) 127 31 ((h 127 31) + 1)) 137 t = wy B t := fun t ht => (up_ne (by decide)).trans (hy t ht)
              have hMz := hM.g_same (hFy.up (k := 127) (i := 31) (x := h 127 31 + 1) (Or.inl ⟨rfl, rfl⟩)).n
              have hzw : ∀ t : Nat, t < 3 → -1 ≤ (am_up (am_up (am_up (am_up h 137 0 (wy B 0)) 137 1 (wy B 1)) 137 2 (wy B 2)) 127 31 ((h 127 31) + 1)) 137 t ∧ (am_up (am_up (am_up (am_up h 137 0 (wy B 0)) 137 1 (wy B 1)) 137 2 (wy B 2)) 127 31 ((h 127 31) + 1)) 137 t ≤ 3 := fun t ht => by
                rw [hz t ht]
                have := wy_in B t (by omega)
                omega
              have hlkeq : lkw P (c 3) (c 11) (c 12) (c 14) (e : Int) ((am_up (am_up (am_up (am_up h 137 0 (wy B 0)) 137 1 (wy B 1)) 137 2 (wy B 2)) 127 31 ((h 127 31) + 1)) 137) (c 10 4).toNat = lkw P (c 3) (c 11) (c 12) (c 14) (e : Int) (wy B) (c 10 4).toNat := lkw_eq hBk hz
              refine wp_n 5 (pc' := 56) (L' := [(2, 127), (0, ((e : Nat) : Int)), (0, ((B : Nat) : Int)), w3]) (st' := [(0, 25), (0, ((B : Nat) : Int)), (0, 0), (2, 137)]) (g' := h) rfl ?_
              refine wp_idiv rfl (by omega) (by omega) (by omega) ?_
              refine wp_eq (L' := [(2, 127), (0, ((e : Nat) : Int)), (0, ((B : Nat) : Int)), w3]) (st' := [(0, (((B : Nat) : Int) / 25)), (0, 0), (2, 137)]) (g' := h) ?_ (by rfl) (by rw [Int.tdiv_eq_ediv_of_nonneg (show 0 ≤ (B : Int) by omega)]) (by rfl)
              refine wp_n 2 (pc' := 59) (L' := [(2, 127), (0, ((e : Nat) : Int)), (0, ((B : Nat) : Int)), w3]) (st' := [(0, ((((B : Nat) : Int) / 25) - 1)), (0, 0), (2, 137)]) (g' := h) rfl ?_
              refine wp_eq (L' := [(2, 127), (0, ((e : Nat) : Int)), (0, ((B : Nat) : Int)), w3]) (st' := [(0, (wy B 0)), (0, 0), (2, 137)]) (g' := h) ?_ (by rfl) (by rw [hb0]) (by rfl)
              refine wp_iast (k := 137) (0) rfl rfl (by omega) (by omega) (by decide) ?_
              refine wp_n 5 (pc' := 67) (L' := [(2, 127), (0, ((e : Nat) : Int)), (0, ((B : Nat) : Int)), w3]) (st' := [(0, 5), (0, ((B : Nat) : Int)), (0, 1), (2, 137)]) (g' := (am_up h 137 0 (wy B 0))) rfl ?_
              refine wp_idiv rfl (by omega) (by omega) (by omega) ?_
              refine wp_eq (L' := [(2, 127), (0, ((e : Nat) : Int)), (0, ((B : Nat) : Int)), w3]) (st' := [(0, (((B : Nat) : Int) / 5)), (0, 1), (2, 137)]) (g' := (am_up h 137 0 (wy B 0))) ?_ (by rfl) (by rw [Int.tdiv_eq_ediv_of_nonneg (show 0 ≤ (B : Int) by omega)]) (by rfl)
              refine wp_n 1 (pc' := 69) (L' := [(2, 127), (0, ((e : Nat) : Int)), (0, ((B : Nat) : Int)), w3]) (st' := [(0, 5), (0, (((B : Nat) : Int) / 5)), (0, 1), (2, 137)]) (g' := (am_up h 137 0 (wy B 0))) rfl ?_
              refine wp_irem rfl (by omega) (by omega) (by omega) ?_
              refine wp_eq (L' := [(2, 127), (0, ((e : Nat) : Int)), (0, ((B : Nat) : Int)), w3]) (st' := [(0, ((((B : Nat) : Int) / 5) % 5)), (0, 1), (2, 137)]) (g' := (am_up h 137 0 (wy B 0))) ?_ (by rfl) (by rw [Int.tmod_eq_emod_of_nonneg (show 0 ≤ (B : Int) / 5 by omega)]) (by rfl)
              refine wp_n 2 (pc' := 72) (L' := [(2, 127), (0, ((e : Nat) : Int)), (0, ((B : Nat) : Int)), w3]) (st' := [(0, (((((B : Nat) : Int) / 5) % 5) - 1)), (0, 1), (2, 137)]) (g' := (am_up h 137 0 (wy B 0))) rfl ?_
              refine wp_eq (L' := [(2, 127), (0, ((e : Nat) : Int)), (0, ((B : Nat) : Int)), w3]) (st' := [(0, (wy B 1)), (0, 1), (2, 137)]) (g' := (am_up h 137 0 (wy B 0))) ?_ (by rfl) (by rw [hb1]) (by rfl)
              refine wp_iast (k := 137) (1) rfl rfl (by omega) (by omega) (by decide) ?_
              refine wp_n 5 (pc' := 80) (L' := [(2, 127), (0, ((e : Nat) : Int)), (0, ((B : Nat) : Int)), w3]) (st' := [(0, 5), (0, ((B : Nat) : Int)), (0, 2), (2, 137)]) (g' := (am_up (am_up h 137 0 (wy B 0)) 137 1 (wy B 1))) rfl ?_
              refine wp_irem rfl (by omega) (by omega) (by omega) ?_
              refine wp_eq (L' := [(2, 127), (0, ((e : Nat) : Int)), (0, ((B : Nat) : Int)), w3]) (st' := [(0, (((B : Nat) : Int) % 5)), (0, 2), (2, 137)]) (g' := (am_up (am_up h 137 0 (wy B 0)) 137 1 (wy B 1))) ?_ (by rfl) (by rw [Int.tmod_eq_emod_of_nonneg (show 0 ≤ (B : Int) by omega)]) (by rfl)
              refine wp_n 2 (pc' := 83) (L' := [(2, 127), (0, ((e : Nat) : Int)), (0, ((B : Nat) : Int)), w3]) (st' := [(0, ((((B : Nat) : Int) % 5) - 1)), (0, 2), (2, 137)]) (g' := (am_up (am_up h 137 0 (wy B 0)) 137 1 (wy B 1))) rfl ?_
              refine wp_eq (L' := [(2, 127), (0, ((e : Nat) : Int)), (0, ((B : Nat) : Int)), w3]) (st' := [(0, (wy B 2)), (0, 2), (2, 137)]) (g' := (am_up (am_up h 137 0 (wy B 0)) 137 1 (wy B 1))) ?_ (by rfl) (by rw [hb2]) (by rfl)
              refine wp_iast (k := 137) (2) rfl rfl (by omega) (by omega) (by decide) ?_
              refine wp_n 2 (pc' := 86) (L' := [(2, 127), (0, ((e : Nat) : Int)), (0, ((B : Nat) : Int)), w3]) (st' := [(0, ((e : Nat) : Int)), (2, 127)]) (g' := (am_up (am_up (am_up h 137 0 (wy B 0)) 137 1 (wy B 1)) 137 2 (wy B 2))) rfl ?_
              refine wp_cv (as := [(2, 127), (0, ((e : Nat) : Int))]) (rest := []) rfl rfl rfl (Nat.le_of_ble_eq_true rfl) rfl (m_isWay (c := c) (P := P) (e := e) hI hMy he hyw) (by decide) (fun r7 h8 => ?_)
              rcases h8 with ⟨rfl, p86⟩ | ⟨rfl, p86⟩
              · have hp : (fun k => okw (c 11) (c 12) (c 14) (c 15) (c 10 4).toNat e (wy k)) B := okw_eq (fun t ht => hy t ht) p86
                refine wp_eq (L' := [(2, 127), (0, ((e : Nat) : Int)), (0, ((B : Nat) : Int)), w3]) (st' := [(0, 1)]) (g' := (am_up (am_up (am_up h 137 0 (wy B 0)) 137 1 (wy B 1)) 137 2 (wy B 2))) ?_
                refine wp_n 9 (pc' := 107) (L' := [(2, 127), (0, ((e : Nat) : Int)), (0, ((B : Nat) : Int)), w3]) (st' := [(0, ((e : Nat) : Int)), (2, 127)]) (g' := (am_up (am_up (am_up (am_up h 137 0 (wy B 0)) 137 1 (wy B 1)) 137 2 (wy B 2)) 127 31 ((h 127 31) + 1))) rfl ?_
                refine wp_cv (as := [(2, 127), (0, ((e : Nat) : Int))]) (rest := []) rfl rfl rfl (Nat.le_of_ble_eq_true rfl) rfl (m_likeliness (c := c) (P := P) (e := e) hI hMz he hzw (fun t ht => by rw [hz t ht]; exact (hp.1 t ht).1)) (by decide) (fun r9 h10 => ?_)
                obtain ⟨g107, rfl, hR107, hF107⟩ := h10
                rw [hlkeq] at hR107
                have hV := lk_in hBk he (show B < 125 by omega)
                have hsm := sumW_in (p := (fun k => okw (c 11) (c 12) (c 14) (c 15) (c 10 4).toNat e (wy k))) (v := (fun k => lkw P (c 3) (c 11) (c 12) (c 14) (e : Int) (wy k) (c 10 4).toNat)) (fun k hk => lk_in hBk he hk) B (by omega)
                have hsm2 : (B : Int) * 8796093022208 ^ 24 ≤ 125 * 8796093022208 ^ 24 := Int.mul_le_mul_of_nonneg_right (by omega) (by decide)
                have hW107 : MR g107 128 (sumW (fun k => okw (c 11) (c 12) (c 14) (c 15) (c 10 4).toNat e (wy k)) (fun k => lkw P (c 3) (c 11) (c 12) (c 14) (e : Int) (wy k) (c 10 4).toNat) B) := (hW.2.1.same fun j _ => (up_ne (by decide)).trans ((up_ne (by decide)).trans ((up_ne (by decide)).trans (up_ne (by decide))))).fr hF107 (by decide)
                refine wp_eq (L' := [(2, 127), (0, ((e : Nat) : Int)), (0, ((B : Nat) : Int)), w3]) (st' := []) (g' := g107) ?_
                refine wp_n 4 (pc' := 117) (L' := [(2, 127), (0, ((e : Nat) : Int)), (0, ((B : Nat) : Int)), w3]) (st' := [(0, 1), (0, 124), (0, 128), (2, 127)]) (g' := g107) rfl ?_
                refine wp_cv (as := [(2, 127), (0, 128), (0, 124), (0, 1)]) (rest := []) rfl rfl rfl (Nat.le_of_ble_eq_true rfl) rfl (m_add (r := 128) (s := 124) (by omega) (by omega) (by omega) hW107 hR107 (by omega) (Int.lt_of_le_of_lt (Int.add_le_add (Int.le_trans hsm.2 hsm2) (by rw [Int.mul_one]; exact hV.2)) (by decide))) (by decide) (fun r11 h12 => ?_)
                obtain ⟨g117, rfl, hR117, hF117⟩ := h12
                rw [Int.mul_one] at hR117
                have hX117 := hR107.fr hF117 (by decide)
                have hFc : FrF g g117 := ((hFy.up (Or.inl ⟨rfl, rfl⟩)).trans hF107.f).trans hF117.f
                have h31c : g117 127 31 = h 127 31 + 1 := by rw [hF117 127 31 (by decide), hF107 127 31 (by decide), up_eq]
                have h138c : ∀ t, g117 138 t = h 138 t := fun t => by rw [hF117 138 t (fun e => absurd e (by decide)), hF107 138 t (fun e => absurd e (by decide)), up_ne (by decide), up_ne (by decide), up_ne (by decide), up_ne (by decide)]
                have h137c : ∀ t : Nat, t < 3 → g117 137 t = wy B t := fun t ht => by rw [hF117 137 t (fun e => absurd e (by decide)), hF107 137 t (fun e => absurd e (by decide)), hz t ht]
                obtain ⟨vk, hU, hvk⟩ : ∃ vk : Int, MR g117 127 vk ∧ ((vk = 0 ∧ cntW (fun k => okw (c 11) (c 12) (c 14) (c 15) (c 10 4).toNat e (wy k)) B = 0) ∨ ∃ k, vk = lkw P (c 3) (c 11) (c 12) (c 14) (e : Int) (wy k) (c 10 4).toNat ∧ k < B ∧ (fun k => okw (c 11) (c 12) (c 14) (c 15) (c 10 4).toNat e (wy k)) k ∧ (∀ j, j < B → (fun k => okw (c 11) (c 12) (c 14) (c 15) (c 10 4).toNat e (wy k)) j → (fun k => lkw P (c 3) (c 11) (c 12) (c 14) (e : Int) (wy k) (c 10 4).toNat) j ≤ (fun k => lkw P (c 3) (c 11) (c 12) (c 14) (e : Int) (wy k) (c 10 4).toNat) k) ∧ (∀ j, j < k → (fun k => okw (c 11) (c 12) (c 14) (c 15) (c 10 4).toNat e (wy k)) j → (fun k => lkw P (c 3) (c 11) (c 12) (c 14) (e : Int) (wy k) (c 10 4).toNat) j < (fun k => lkw P (c 3) (c 11) (c 12) (c 14) (e : Int) (wy k) (c 10 4).toNat) k) ∧ ∀ t, t < 3 → h 138 t = wy k t) := by
                  have tr : ∀ x, MR h 127 x → MR g117 127 x := fun x hx => ((hx.same fun j _ => (up_ne (by decide)).trans ((up_ne (by decide)).trans ((up_ne (by decide)).trans (up_ne (by decide))))).fr hF107 (by decide)).fr hF117 (by decide)
                  rcases hW.2.2 with ⟨q1, q2, q3⟩ | ⟨k, q1, q2, q3, q4, q5, q6⟩
                  · exact ⟨0, tr _ q2, Or.inl ⟨rfl, q1⟩⟩
                  · exact ⟨_, tr _ q3, Or.inr ⟨k, rfl, q1, q2, q4, q5, q6⟩⟩
                refine wp_eq (L' := [(2, 127), (0, ((e : Nat) : Int)), (0, ((B : Nat) : Int)), w3]) (st' := []) (g' := g117) ?_
                refine wp_n 3 (pc' := 125) (L' := [(2, 127), (0, ((e : Nat) : Int)), (0, ((B : Nat) : Int)), w3]) (st' := [(0, 127), (0, 124), (2, 127)]) (g' := g117) rfl ?_
                refine wp_cv (as := [(2, 127), (0, 124), (0, 127)]) (rest := []) rfl rfl rfl (Nat.le_of_ble_eq_true rfl) rfl (m_compare (r := 124) (s := 127) (by omega) (by omega) hX117 hU) (by decide) (fun r13 h14 => ?_)
                obtain ⟨c125, rfl, hc125⟩ := h14
                refine wp_eq (L' := [(2, 127), (0, ((e : Nat) : Int)), (0, ((B : Nat) : Int)), w3]) (st' := [(0, c125)]) (g' := g117) ?_
                refine wp_if_gt rfl (fun c15 => ?_) (fun c15 => ?_)
                · have hgt : vk < lkw P (c 3) (c 11) (c 12) (c 14) (e : Int) (wy B) (c 10 4).toNat := by omega
                  refine wp_n 3 (pc' := 139) (L' := [(2, 127), (0, ((e : Nat) : Int)), (0, ((B : Nat) : Int)), w3]) (st' := [(0, 127), (0, 124), (2, 127)]) (g' := g117) rfl ?_
                  refine wp_cv (as := [(2, 127), (0, 124), (0, 127)]) (rest := []) rfl rfl rfl (Nat.le_of_ble_eq_true rfl) rfl (m_lay (s := 124) (r := 127) (by omega) (by omega) (by omega) hX117) (by decide) (fun r16 h17 => ?_)
                  obtain ⟨g139, rfl, hR139, hF139⟩ := h17
                  have hFl : FrF g g139 := hFc.trans hF139.f
                  refine wp_eq (L' := [(2, 127), (0, ((e : Nat) : Int)), (0, ((B : Nat) : Int)), w3]) (st' := []) (g' := g139) ?_
                  refine wp_n 2 (pc' := 144) (L' := [(2, 127), (0, ((e : Nat) : Int)), (0, ((B : Nat) : Int)), (0, 0)]) (st' := []) (g' := g139) rfl ?_
                  have L144 : ∀ (lf : Nat) (t : Nat) (m : am_G), 3 - t < lf → (t ≤ 3) → (∀ u : Nat, u < t → m 138 u = wy B u) → (∀ c j, c ≠ 138 → m c j = g139 c j) → Wp sn sx 4 T233 144 [(2, 127), (0, ((e : Nat) : Int)), (0, ((B : Nat) : Int)), (0, ((t : Nat) : Int))] [] (SH b) m (fun r => ∃ g', r = (none, SH b, g') ∧ WM (fun k => okw (c 11) (c 12) (c 14) (c 15) (c 10 4).toNat e (wy k)) (fun k => lkw P (c 3) (c 11) (c 12) (c 14) (e : Int) (wy k) (c 10 4).toNat) 125 g' ∧ FrF g g') := by
                    intro lf
                    induction lf with
                    | zero => intro t m hlf; exact absurd hlf (Nat.not_lt_zero _)
                    | succ lf ih144 =>
                      intro t m hlf ht hs hm
                      refine wp_n 2 (pc' := 146) (L' := [(2, 127), (0, ((e : Nat) : Int)), (0, ((B : Nat) : Int)), (0, ((t : Nat) : Int))]) (st' := [(0, 3), (0, ((t : Nat) : Int))]) (g' := m) rfl ?_
                      refine wp_ic_ge rfl (fun c18 => ?_) (fun c18 => ?_)
                      · have ht3 : t = 3 := by omega
                        have hFm : FrF g m := fun c j a b x y => (hm c j y).trans (hFl c j a b x y)
                        have hWp : WM (fun k => okw (c 11) (c 12) (c 14) (c 15) (c 10 4).toNat e (wy k)) (fun k => lkw P (c 3) (c 11) (c 12) (c 14) (e : Int) (wy k) (c 10 4).toNat) (B + 1) m := hW.put hp ((hm 127 31 (by decide)).trans ((hF139 127 31 (by decide)).trans h31c)) ((hR117.fr hF139 (by decide)).same fun j _ => hm 136 _ (by decide)) (hR139.same fun j _ => hm 136 _ (by decide)) (fun t ht => hs t (by omega)) (fun j hj hpj => by
                          rcases hvk with ⟨q1, q2⟩ | ⟨k, q0, q1, q2, q4, q5, q6⟩
                          · exact absurd hpj (cntW_0 q2 j hj)
                          · subst q0; exact Int.lt_of_le_of_lt (q4 j hj hpj) hgt)
                        refine wp_n 2 (pc' := 42) (L' := [(2, 127), (0, ((e : Nat) : Int)), (0, (((B : Nat) : Int) + 1)), (0, ((t : Nat) : Int))]) (st' := []) (g' := m) rfl ?_
                        refine wp_eq (ih42 (B + 1) (m) ((0, ((t : Nat) : Int))) ?_ ?_ ?_ ?_) (by first | rfl | (simp; done) | (simp; omega)) (by rfl) (by rfl)
                        · exact Nat.lt_of_lt_of_le (Nat.sub_lt_sub_left hBlt (Nat.lt_succ_self B)) (Nat.le_of_lt_succ (by assumption))
                        · exact hBlt
                        · exact hWp
                        · exact hFm
                      · refine wp_n 6 (pc' := 159) (L' := [(2, 127), (0, ((e : Nat) : Int)), (0, ((B : Nat) : Int)), (0, ((t : Nat) : Int))]) (st' := [(0, ((t : Nat) : Int)), (2, 137), (0, ((t : Nat) : Int)), (2, 138)]) (g' := m) rfl ?_
                        refine wp_iald (k := 137) (t) rfl rfl (by omega) (by omega) (by decide) ?_
                        refine wp_eq (L' := [(2, 127), (0, ((e : Nat) : Int)), (0, ((B : Nat) : Int)), (0, ((t : Nat) : Int))]) (st' := [(0, (wy B t)), (0, ((t : Nat) : Int)), (2, 138)]) (g' := m) ?_ (by rfl) (by rw [hm 137 t (by decide), hF139 137 t (fun e => absurd e (by decide)), h137c t (by omega)]) (by rfl)
                        refine wp_iast (k := 138) (t) rfl rfl (by omega) (by omega) (by decide) ?_
                        refine wp_n 2 (pc' := 144) (L' := [(2, 127), (0, ((e : Nat) : Int)), (0, ((B : Nat) : Int)), (0, (((t : Nat) : Int) + 1))]) (st' := []) (g' := (am_up m 138 t (wy B t))) rfl ?_
                        refine wp_eq (ih144 (t + 1) ((am_up m 138 t (wy B t))) ?_ ?_ ?_ ?_) (by first | rfl | (simp; done) | (simp; omega)) (by rfl) (by rfl)
                        · omega
                        · omega
                        · intro u hu
                          by_cases q : u = t
                          · subst q; exact up_eq
                          · rw [up_nj q]; exact hs u (by omega)
                        · exact fun c j q => (up_ne q).trans (hm c j q)
                  refine wp_eq (L144 (_ + 1) (0) (g139) (Nat.lt_succ_self _) ?_ ?_ ?_) (by first | rfl | (simp; done) | (simp; omega)) (by rfl) (by rfl)
                  · exact Nat.zero_le _
                  · exact fun u hu => absurd hu (Nat.not_lt_zero _)
                  · exact fun _ _ _ => rfl
                · have hle : lkw P (c 3) (c 11) (c 12) (c 14) (e : Int) (wy B) (c 10 4).toNat ≤ vk := by omega
                  have hWh : WM (fun k => okw (c 11) (c 12) (c 14) (c 15) (c 10 4).toNat e (wy k)) (fun k => lkw P (c 3) (c 11) (c 12) (c 14) (e : Int) (wy k) (c 10 4).toNat) (B + 1) g117 := by
                    rcases hvk with ⟨q1, q2⟩ | ⟨k, q0, q1, q2, q4, q5, q6⟩
                    · have := hV.1; omega
                    · subst q0; exact hW.hold hp h31c hR117 hU q1 q2 q4 q5 (fun t ht => (h138c t).trans (q6 t ht)) hle
                  refine wp_n 3 (pc' := 42) (L' := [(2, 127), (0, ((e : Nat) : Int)), (0, (((B : Nat) : Int) + 1)), w3]) (st' := []) (g' := g117) rfl ?_
                  refine wp_eq (ih42 (B + 1) (g117) (w3) ?_ ?_ ?_ ?_) (by first | rfl | (simp; done) | (simp; omega)) (by rfl) (by rfl)
                  · exact Nat.lt_of_lt_of_le (Nat.sub_lt_sub_left hBlt (Nat.lt_succ_self B)) (Nat.le_of_lt_succ (by assumption))
                  · exact hBlt
                  · exact hWh
                  · exact hFc
              · have hnp : ¬ (fun k => okw (c 11) (c 12) (c 14) (c 15) (c 10 4).toNat e (wy k)) B := fun q => p86 (okw_eq (fun t ht => (hy t ht).symm) q)
                refine wp_eq (L' := [(2, 127), (0, ((e : Nat) : Int)), (0, ((B : Nat) : Int)), w3]) (st' := [(0, 0)]) (g' := (am_up (am_up (am_up h 137 0 (wy B 0)) 137 1 (wy B 1)) 137 2 (wy B 2))) ?_
                refine wp_n 4 (pc' := 42) (L' := [(2, 127), (0, ((e : Nat) : Int)), (0, (((B : Nat) : Int) + 1)), w3]) (st' := []) (g' := (am_up (am_up (am_up h 137 0 (wy B 0)) 137 1 (wy B 1)) 137 2 (wy B 2))) rfl ?_
                refine wp_eq (ih42 (B + 1) ((am_up (am_up (am_up h 137 0 (wy B 0)) 137 1 (wy B 1)) 137 2 (wy B 2))) (w3) ?_ ?_ ?_ ?_) (by first | rfl | (simp; done) | (simp; omega)) (by rfl) (by rfl)
                · exact Nat.lt_of_lt_of_le (Nat.sub_lt_sub_left hBlt (Nat.lt_succ_self B)) (Nat.le_of_lt_succ (by assumption))
                · exact hBlt
                · exact (hW.same (up_ne (by decide) |>.trans (up_ne (by decide)) |>.trans (up_ne (by decide))) (fun j _ _ => up_ne (by decide) |>.trans (up_ne (by decide)) |>.trans (up_ne (by decide))) (fun j => up_ne (by decide) |>.trans (up_ne (by decide)) |>.trans (up_ne (by decide)))).next hnp
                · exact hFy
        refine wp_eq (L42 (_ + 1) (0) (h) (w3) (Nat.lt_succ_self _) ?_ ?_ ?_) (by first | rfl | (simp; done) | (simp; omega)) (by rfl) (by rfl)
        · exact Nat.zero_le _
        · exact ⟨h31, hB, Or.inl ⟨rfl, hA, fun u hu => hz u (by omega)⟩⟩
        · exact hF0
      · refine wp_n 4 (pc' := 33) (L' := [(2, 127), (0, ((e : Nat) : Int)), (0, ((t : Nat) : Int)), w3]) (st' := [(0, (-1)), (0, ((t : Nat) : Int)), (2, 138)]) (g' := h) rfl ?_
        refine wp_iast (k := 138) (t) rfl rfl (by omega) (by omega) (by decide) ?_
        refine wp_n 2 (pc' := 22) (L' := [(2, 127), (0, ((e : Nat) : Int)), (0, (((t : Nat) : Int) + 1)), w3]) (st' := []) (g' := (am_up h 138 t (-1))) rfl ?_
        refine wp_eq (ih22 (t + 1) ((am_up h 138 t (-1))) (w3) ?_ ?_ ?_ ?_ ?_ ?_ ?_) (by first | rfl | (simp; done) | (simp; omega)) (by rfl) (by rfl)
        · omega
        · omega
        · intro u hu
          by_cases q : u = t
          · subst q; exact up_eq
          · rw [up_nj q]; exact hz u (by omega)
        · rw [up_ne (by decide)]; exact h31
        · exact hA.upn (by decide)
        · exact hB.upn (by decide)
        · exact hF0.up (by omega)
  refine wp_eq (L22 (_ + 1) (0) (g17) ((9, 0)) (Nat.lt_succ_self _) ?_ ?_ ?_ ?_ ?_ ?_) (by first | rfl | (simp; done) | (simp; omega)) (by rfl) (by rfl)
  · exact Nat.zero_le _
  · exact fun u hu => absurd hu (Nat.not_lt_zero _)
  · rw [hF17 127 31 (by decide), hF9 127 31 (by decide)]; exact up_eq
  · exact hR9.fr hF17 (by decide)
  · exact hR17
  · exact ((FrF.rfl.up (Or.inl ⟨rfl, rfl⟩)).trans hF9.f).trans hF17.f
