/-! WHERE: judge -/
/-- from table t on: what may change -/
def FrT (t e : Nat) (g h : am_G) : Prop := ∀ c j, (c < 65 ∨ 70 < c) → (c < 97 + 2 * t ∨ 102 < c) → (c ≠ 61 ∨ j < t) → (c ≠ 57 ∨ j ≠ e) → (c ≠ 59 ∨ j < 3 * e ∨ 3 * e + 3 ≤ j) → h c j = g c j
theorem FrT.rfl {t e : Nat} {g : am_G} : FrT t e g g := fun _ _ _ _ _ _ _ => Eq.refl _
theorem FrT.trans {t e : Nat} {g h i : am_G} (h1 : FrT t e g h) (h2 : FrT t e h i) : FrT t e g i := fun c j a b x y z => (h2 c j a b x y z).trans (h1 c j a b x y z)
theorem FrT.b {t e k : Nat} {g h i : am_G} (h1 : FrT t e g h) (h2 : FrB k h i) (hk : (65 ≤ k ∧ k ≤ 69) ∨ (97 + 2 * t ≤ k ∧ k ≤ 101)) : FrT t e g i := fun c j a b x y z => (h2 c j (by omega) (by omega)).trans (h1 c j a b x y z)
theorem FrT.up {t e k i : Nat} {x : Int} {g h : am_G} (h1 : FrT t e g h) (hk : (k = 61 ∧ t ≤ i) ∨ (k = 57 ∧ i = e) ∨ (k = 59 ∧ 3 * e ≤ i ∧ i < 3 * e + 3)) : FrT t e g (am_up h k i x) := fun c j a b p q r => (up_no (by omega)).trans (h1 c j a b p q r)
theorem FrT.dn {t e : Nat} {g h : am_G} (h1 : FrT (t + 1) e g h) : FrT t e g h := fun c j a b x y z => h1 c j a (by omega) (by omega) y z
theorem WB.put {p : Nat → Prop} {v : Nat → Int} {e B : Nat} {g g' : am_G} (h : WB p v e B g) (hp : p B) (h57 : g' 57 e = g 57 e + 1) (hA : BigR g' 67 (sumW p v B + v B)) (hb : BigR g' 65 (v B)) (hs : ∀ t, t < 3 → g' 59 (3 * e + t) = wy B t) (hm : ∀ j, j < B → p j → v j < v B) : WB p v e (B + 1) g' := by
  refine ⟨by rw [cntW_y hp, h57, h.1]; rfl, by rw [sumW_y hp]; exact hA, Or.inr ⟨B, by omega, hp, hb, fun j hj hpj => ?_, hm, hs⟩⟩
  by_cases q : j = B
  · subst q; exact Int.le_refl _
  · exact Int.le_of_lt (hm j (by omega) hpj)
theorem WB.hold {p : Nat → Prop} {v : Nat → Int} {e B k : Nat} {g g' : am_G} (h : WB p v e B g) (hp : p B) (h57 : g' 57 e = g 57 e + 1) (hA : BigR g' 67 (sumW p v B + v B)) (hb : BigR g' 65 (v k)) (hk : k < B) (hpk : p k) (h4 : ∀ j, j < B → p j → v j ≤ v k) (h5 : ∀ j, j < k → p j → v j < v k) (hs : ∀ t, t < 3 → g' 59 (3 * e + t) = wy k t) (hv : v B ≤ v k) : WB p v e (B + 1) g' := by
  refine ⟨by rw [cntW_y hp, h57, h.1]; rfl, by rw [sumW_y hp]; exact hA, Or.inr ⟨k, by omega, hpk, hb, fun j hj hpj => ?_, h5, hs⟩⟩
  by_cases q : j = B
  · subst q; exact hv
  · exact h4 j (by omega) hpj
theorem BigR.same {g g' : am_G} {a : Nat} {v : Int} (h : BigR g a v) (hF : ∀ c j, c = a ∨ c = a + 1 → g' c j = g c j) : BigR g' a v := by
  obtain ⟨sz, ⟨e1, e2, e3, e4⟩, h⟩ := h
  refine ⟨sz, ⟨?_, e2, ?_, ?_⟩, h⟩
  · rw [hF a 1 (by omega)]; exact e1
  · intro j hj; rw [hF (a + 1) j (by omega)]; exact e3 j hj
  · rw [← e4]; exact bval_eq fun j _ => hF (a + 1) j (by omega)
theorem BigR.up {g : am_G} {a k i : Nat} {x v : Int} (h : BigR g a v) (h1 : k ≠ a) (h2 : k ≠ a + 1) : BigR (am_up g k i x) a v := h.same fun c j q => up_ne (by omega)
theorem WLs.up {g : am_G} {k i : Nat} {x : Int} (h : WLs g) (hk : k < 66 ∨ 102 < k) : WLs (am_up g k i x) := h.same fun c j a b => up_ne (by omega)
theorem cp_no {g : am_G} {s a d b n c j : Nat} (h : c ≠ d ∨ j < b ∨ b + n ≤ j) : am_cp g s a d b n c j = g c j := by
  unfold am_cp
  by_cases q : c = d
  · rw [if_pos q, if_neg (by omega)]
  · rw [if_neg q]
theorem cp_yes {g : am_G} {s a d b n j : Nat} (h : b ≤ j ∧ j < b + n) : am_cp g s a d b n d j = g s (a + (j - b)) := by
  unfold am_cp
  rw [if_pos rfl, if_pos h]
theorem WLs.cp {g : am_G} {s a d b n : Nat} (h : WLs g) (hk : d < 66 ∨ 102 < d) : WLs (am_cp g s a d b n) := h.same fun c j _ _ => cp_no (by omega)
set_option maxHeartbeats 400000 in
set_option maxRecDepth 20000 in
theorem e_judge {sn : Nat} {sx : Nat → Int} {b : Nat} {g : am_G} {e B : Nat} {p : Nat → Prop} {v : Nat → Int} (he : e < 4) (hB : B < 125) (hp : p B) (hv : ∀ k, k < 125 → 1 ≤ v k ∧ v k ≤ 8796093022208 ^ 24) (hW : WB p v e B g) (hL : WLs g) (hX : BigR g 101 (v B)) (hT : ∀ t : Nat, t < 3 → g 61 t = wy B t) : Ev sn sx 3 94 [(2, 56), (0, ((e : Nat) : Int))] (SH b) g (fun r => ∃ g', r = (none, SH b, g') ∧ WB p v e (B + 1) g' ∧ WLs g' ∧ FrT 3 e g g') := by
  obtain ⟨w1, w2, w3⟩ := id hW
  have hsum := sumW_in (p := p) hv B (by omega)
  have hvB := hv B hB
  have hcn := cntW_le p B
  have hsm : (B : Int) * 8796093022208 ^ 24 ≤ 125 * 8796093022208 ^ 24 := Int.mul_le_mul_of_nonneg_right (by omega) (by decide)
  refine ev_of (K := 2) T94 (by decide) rfl rfl (Nat.le_of_ble_eq_true rfl) ?_
  refine wp_eq (L' := [(2, 56), (0, ((e : Nat) : Int)), (9, 0)]) (st' := []) (g' := g) ?_
  refine wp_n 3 (pc' := 5) (L' := [(2, 56), (0, ((e : Nat) : Int)), (9, 0)]) (st' := [(0, 3), (2, 64)]) (g' := g) rfl ?_
  refine wp_aald (k := 64) (r := 101) (3) rfl rfl (by omega) (by omega) (by decide) rfl ?_
  refine wp_n 4 (pc' := 12) (L' := [(2, 56), (0, ((e : Nat) : Int)), (2, 101)]) (st' := [(2, 101), (2, 67)]) (g' := g) rfl ?_
  refine wp_cv (as := [(2, 67), (2, 101)]) (rest := []) rfl rfl rfl (Nat.le_of_ble_eq_true rfl) rfl (e_plus (k := 67) (⟨rfl, rfl⟩ : IsBig b 67) (a := 101) (⟨rfl, rfl⟩ : IsBig b 101) w2 hX (by omega) (Int.lt_of_le_of_lt (Int.add_le_add (Int.le_trans hsum.2 hsm) hvB.2) (by decide))) (by decide) (fun r1 h2 => ?_)
  obtain ⟨g12, rfl, hR12, hF12⟩ := h2
  refine wp_eq (L' := [(2, 56), (0, ((e : Nat) : Int)), (2, 101)]) (st' := []) (g' := g12) ?_
  refine wp_n 3 (pc' := 20) (L' := [(2, 56), (0, ((e : Nat) : Int)), (2, 101)]) (st' := [(0, ((e : Nat) : Int)), (2, 57)]) (g' := g12) rfl ?_
  refine wp_iald (k := 57) (e) rfl rfl (by omega) (by omega) (by decide) ?_
  refine wp_eq (L' := [(2, 56), (0, ((e : Nat) : Int)), (2, 101)]) (st' := [(0, ((cntW p B : Nat) : Int))]) (g' := g12) ?_ (by rfl) (by rw [hF12 57 e (by omega) (by omega), w1]) (by rfl)
  refine wp_if_eq rfl (fun c3 => ?_) (fun c3 => ?_)
  · have hz : cntW p B = 0 := by omega
    refine wp_n 3 (pc' := 40) (L' := [(2, 56), (0, ((e : Nat) : Int)), (2, 101)]) (st' := [(2, 101), (2, 65)]) (g' := g12) rfl ?_
    refine wp_cv (as := [(2, 65), (2, 101)]) (rest := []) rfl rfl rfl (Nat.le_of_ble_eq_true rfl) rfl (e_setb (k := 65) (⟨rfl, rfl⟩ : IsBig b 65) (a := 101) (⟨rfl, rfl⟩ : IsBig b 101) ((hL 65 (by omega) (by omega) (by omega)).fr hF12 (by omega)) (hX.fr' hF12 (by omega)) (by omega)) (by decide) (fun r4 h5 => ?_)
    obtain ⟨g40, rfl, hR40, hF40⟩ := h5
    refine wp_eq (L' := [(2, 56), (0, ((e : Nat) : Int)), (2, 101)]) (st' := []) (g' := g40) ?_
    refine wp_n 9 (pc' := 56) (L' := [(2, 56), (0, ((e : Nat) : Int)), (2, 101)]) (st' := [(0, 3), (0, (((e : Nat) : Int) * 3)), (2, 59), (0, 0), (2, 61)]) (g' := g40) rfl ?_
    refine wp_cpy (a := 0) (b := (e * 3)) (c := 3) (src := 61) (dst := 59) rfl rfl rfl (by decide) rfl rfl rfl (by omega) (by omega) (by decide) (by decide) (by decide) ?_
    refine wp_n 4 (pc' := 65) (L' := [(2, 56), (0, ((e : Nat) : Int)), (2, 101)]) (st' := [(0, ((e : Nat) : Int)), (2, 57), (0, ((e : Nat) : Int)), (2, 57)]) (g' := (am_cp g40 61 0 59 (e * 3) 3)) rfl ?_
    refine wp_iald (k := 57) (e) rfl rfl (by omega) (by omega) (by decide) ?_
    refine wp_n 2 (pc' := 68) (L' := [(2, 56), (0, ((e : Nat) : Int)), (2, 101)]) (st' := [(0, (((am_cp g40 61 0 59 (e * 3) 3) 57 e) + 1)), (0, ((e : Nat) : Int)), (2, 57)]) (g' := (am_cp g40 61 0 59 (e * 3) 3)) rfl ?_
    refine wp_iast (k := 57) (e) rfl rfl (by omega) (by omega) (by decide) ?_
    first
    | exact wp_ret rfl rfl rfl ⟨_, rfl, hW.put hp (by rw [up_eq, cp_no (by omega), hF40 57 e (by omega) (by omega), hF12 57 e (by omega) (by omega)]) ((hR12.fr' hF40 (by omega)).same fun c j q => by rw [up_ne (by omega), cp_no (by omega)]) (hR40.same fun c j q => by rw [up_ne (by omega), cp_no (by omega)]) (fun t ht => by rw [up_ne (by decide), cp_yes (by omega), hF40 61 _ (by omega) (by omega), hF12 61 _ (by omega) (by omega), show 0 + (3 * e + t - e * 3) = t by omega]; exact hT t ht) (fun j hj hpj => absurd hpj (cntW_0 hz j hj)), (((hL.fr hF12 hR12.L (by omega)).fr hF40 hR40.L (by omega)).cp (by omega)).up (by omega), (((FrT.rfl.b hF12 (by omega)).b hF40 (by omega)).trans (fun c j a b x y z => cp_no (by omega))).up (by omega)⟩
    | exact wp_ret rfl rfl rfl ⟨_, rfl, hW.put hp (by rw [up_eq, cp_no (by omega), hF40 57 e (by omega) (by omega), hF12 57 e (by omega) (by omega)]) ((hR12.fr' hF40 (by omega)).same fun c j q => by rw [up_ne (by omega), cp_no (by omega)]) (hR40.same fun c j q => by rw [up_ne (by omega), cp_no (by omega)]) (fun t ht => by rw [up_ne (by decide), cp_yes (by omega), hF40 61 _ (by omega) (by omega), hF12 61 _ (by omega) (by omega), show 0 + (3 * e + t - e * 3) = t by omega]; exact hT t ht) (fun j hj hpj => Int.lt_of_le_of_lt (q4 j hj hpj) (by omega)), (((hL.fr hF12 hR12.L (by omega)).fr hF40 hR40.L (by omega)).cp (by omega)).up (by omega), (((FrT.rfl.b hF12 (by omega)).b hF40 (by omega)).trans (fun c j a b x y z => cp_no (by omega))).up (by omega)⟩
    | exact wp_ret rfl rfl rfl ⟨_, rfl, hW.hold hp (by rw [up_eq, hF12 57 e (by omega) (by omega)]) (hR12.up (by decide) (by decide)) ((q3.fr' hF12 (by omega)).up (by decide) (by decide)) q1 q2 q4 q5 (fun t ht => by rw [up_ne (by decide), hF12 59 _ (by omega) (by omega)]; exact q6 t ht) (by omega), (hL.fr hF12 hR12.L (by omega)).up (by omega), (FrT.rfl.b hF12 (by omega)).up (by omega)⟩
  · have hz : cntW p B ≠ 0 := by omega
    obtain ⟨k, q1, q2, q3, q4, q5, q6⟩ := w3.resolve_left fun q => hz q.1
    refine wp_n 3 (pc' := 29) (L' := [(2, 56), (0, ((e : Nat) : Int)), (2, 101)]) (st' := [(2, 101), (2, 65)]) (g' := g12) rfl ?_
    refine wp_cv (as := [(2, 65), (2, 101)]) (rest := []) rfl rfl rfl (Nat.le_of_ble_eq_true rfl) rfl (e_reaches (k := 65) (⟨rfl, rfl⟩ : IsBig b 65) (a := 101) (⟨rfl, rfl⟩ : IsBig b 101) (q3.fr' hF12 (by omega)) (hX.fr' hF12 (by omega))) (by decide) (fun r6 h7 => ?_)
    rcases h7 with ⟨rfl, p29⟩ | ⟨rfl, p29⟩
    · refine wp_eq (L' := [(2, 56), (0, ((e : Nat) : Int)), (2, 101)]) (st' := [(0, 1)]) (g' := g12) ?_
      refine wp_n 5 (pc' := 65) (L' := [(2, 56), (0, ((e : Nat) : Int)), (2, 101)]) (st' := [(0, ((e : Nat) : Int)), (2, 57), (0, ((e : Nat) : Int)), (2, 57)]) (g' := g12) rfl ?_
      refine wp_iald (k := 57) (e) rfl rfl (by omega) (by omega) (by decide) ?_
      refine wp_n 2 (pc' := 68) (L' := [(2, 56), (0, ((e : Nat) : Int)), (2, 101)]) (st' := [(0, ((g12 57 e) + 1)), (0, ((e : Nat) : Int)), (2, 57)]) (g' := g12) rfl ?_
      refine wp_iast (k := 57) (e) rfl rfl (by omega) (by omega) (by decide) ?_
      first
      | exact wp_ret rfl rfl rfl ⟨_, rfl, hW.put hp (by rw [up_eq, cp_no (by omega), hF40 57 e (by omega) (by omega), hF12 57 e (by omega) (by omega)]) ((hR12.fr' hF40 (by omega)).same fun c j q => by rw [up_ne (by omega), cp_no (by omega)]) (hR40.same fun c j q => by rw [up_ne (by omega), cp_no (by omega)]) (fun t ht => by rw [up_ne (by decide), cp_yes (by omega), hF40 61 _ (by omega) (by omega), hF12 61 _ (by omega) (by omega), show 0 + (3 * e + t - e * 3) = t by omega]; exact hT t ht) (fun j hj hpj => absurd hpj (cntW_0 hz j hj)), (((hL.fr hF12 hR12.L (by omega)).fr hF40 hR40.L (by omega)).cp (by omega)).up (by omega), (((FrT.rfl.b hF12 (by omega)).b hF40 (by omega)).trans (fun c j a b x y z => cp_no (by omega))).up (by omega)⟩
      | exact wp_ret rfl rfl rfl ⟨_, rfl, hW.put hp (by rw [up_eq, cp_no (by omega), hF40 57 e (by omega) (by omega), hF12 57 e (by omega) (by omega)]) ((hR12.fr' hF40 (by omega)).same fun c j q => by rw [up_ne (by omega), cp_no (by omega)]) (hR40.same fun c j q => by rw [up_ne (by omega), cp_no (by omega)]) (fun t ht => by rw [up_ne (by decide), cp_yes (by omega), hF40 61 _ (by omega) (by omega), hF12 61 _ (by omega) (by omega), show 0 + (3 * e + t - e * 3) = t by omega]; exact hT t ht) (fun j hj hpj => Int.lt_of_le_of_lt (q4 j hj hpj) (by omega)), (((hL.fr hF12 hR12.L (by omega)).fr hF40 hR40.L (by omega)).cp (by omega)).up (by omega), (((FrT.rfl.b hF12 (by omega)).b hF40 (by omega)).trans (fun c j a b x y z => cp_no (by omega))).up (by omega)⟩
      | exact wp_ret rfl rfl rfl ⟨_, rfl, hW.hold hp (by rw [up_eq, hF12 57 e (by omega) (by omega)]) (hR12.up (by decide) (by decide)) ((q3.fr' hF12 (by omega)).up (by decide) (by decide)) q1 q2 q4 q5 (fun t ht => by rw [up_ne (by decide), hF12 59 _ (by omega) (by omega)]; exact q6 t ht) (by omega), (hL.fr hF12 hR12.L (by omega)).up (by omega), (FrT.rfl.b hF12 (by omega)).up (by omega)⟩
    · refine wp_eq (L' := [(2, 56), (0, ((e : Nat) : Int)), (2, 101)]) (st' := [(0, 0)]) (g' := g12) ?_
      refine wp_n 4 (pc' := 40) (L' := [(2, 56), (0, ((e : Nat) : Int)), (2, 101)]) (st' := [(2, 101), (2, 65)]) (g' := g12) rfl ?_
      refine wp_cv (as := [(2, 65), (2, 101)]) (rest := []) rfl rfl rfl (Nat.le_of_ble_eq_true rfl) rfl (e_setb (k := 65) (⟨rfl, rfl⟩ : IsBig b 65) (a := 101) (⟨rfl, rfl⟩ : IsBig b 101) ((hL 65 (by omega) (by omega) (by omega)).fr hF12 (by omega)) (hX.fr' hF12 (by omega)) (by omega)) (by decide) (fun r8 h9 => ?_)
      obtain ⟨g40, rfl, hR40, hF40⟩ := h9
      refine wp_eq (L' := [(2, 56), (0, ((e : Nat) : Int)), (2, 101)]) (st' := []) (g' := g40) ?_
      refine wp_n 9 (pc' := 56) (L' := [(2, 56), (0, ((e : Nat) : Int)), (2, 101)]) (st' := [(0, 3), (0, (((e : Nat) : Int) * 3)), (2, 59), (0, 0), (2, 61)]) (g' := g40) rfl ?_
      refine wp_cpy (a := 0) (b := (e * 3)) (c := 3) (src := 61) (dst := 59) rfl rfl rfl (by decide) rfl rfl rfl (by omega) (by omega) (by decide) (by decide) (by decide) ?_
      refine wp_n 4 (pc' := 65) (L' := [(2, 56), (0, ((e : Nat) : Int)), (2, 101)]) (st' := [(0, ((e : Nat) : Int)), (2, 57), (0, ((e : Nat) : Int)), (2, 57)]) (g' := (am_cp g40 61 0 59 (e * 3) 3)) rfl ?_
      refine wp_iald (k := 57) (e) rfl rfl (by omega) (by omega) (by decide) ?_
      refine wp_n 2 (pc' := 68) (L' := [(2, 56), (0, ((e : Nat) : Int)), (2, 101)]) (st' := [(0, (((am_cp g40 61 0 59 (e * 3) 3) 57 e) + 1)), (0, ((e : Nat) : Int)), (2, 57)]) (g' := (am_cp g40 61 0 59 (e * 3) 3)) rfl ?_
      refine wp_iast (k := 57) (e) rfl rfl (by omega) (by omega) (by decide) ?_
      first
      | exact wp_ret rfl rfl rfl ⟨_, rfl, hW.put hp (by rw [up_eq, cp_no (by omega), hF40 57 e (by omega) (by omega), hF12 57 e (by omega) (by omega)]) ((hR12.fr' hF40 (by omega)).same fun c j q => by rw [up_ne (by omega), cp_no (by omega)]) (hR40.same fun c j q => by rw [up_ne (by omega), cp_no (by omega)]) (fun t ht => by rw [up_ne (by decide), cp_yes (by omega), hF40 61 _ (by omega) (by omega), hF12 61 _ (by omega) (by omega), show 0 + (3 * e + t - e * 3) = t by omega]; exact hT t ht) (fun j hj hpj => absurd hpj (cntW_0 hz j hj)), (((hL.fr hF12 hR12.L (by omega)).fr hF40 hR40.L (by omega)).cp (by omega)).up (by omega), (((FrT.rfl.b hF12 (by omega)).b hF40 (by omega)).trans (fun c j a b x y z => cp_no (by omega))).up (by omega)⟩
      | exact wp_ret rfl rfl rfl ⟨_, rfl, hW.put hp (by rw [up_eq, cp_no (by omega), hF40 57 e (by omega) (by omega), hF12 57 e (by omega) (by omega)]) ((hR12.fr' hF40 (by omega)).same fun c j q => by rw [up_ne (by omega), cp_no (by omega)]) (hR40.same fun c j q => by rw [up_ne (by omega), cp_no (by omega)]) (fun t ht => by rw [up_ne (by decide), cp_yes (by omega), hF40 61 _ (by omega) (by omega), hF12 61 _ (by omega) (by omega), show 0 + (3 * e + t - e * 3) = t by omega]; exact hT t ht) (fun j hj hpj => Int.lt_of_le_of_lt (q4 j hj hpj) (by omega)), (((hL.fr hF12 hR12.L (by omega)).fr hF40 hR40.L (by omega)).cp (by omega)).up (by omega), (((FrT.rfl.b hF12 (by omega)).b hF40 (by omega)).trans (fun c j a b x y z => cp_no (by omega))).up (by omega)⟩
      | exact wp_ret rfl rfl rfl ⟨_, rfl, hW.hold hp (by rw [up_eq, hF12 57 e (by omega) (by omega)]) (hR12.up (by decide) (by decide)) ((q3.fr' hF12 (by omega)).up (by decide) (by decide)) q1 q2 q4 q5 (fun t ht => by rw [up_ne (by decide), hF12 59 _ (by omega) (by omega)]; exact q6 t ht) (by omega), (hL.fr hF12 hR12.L (by omega)).up (by omega), (FrT.rfl.b hF12 (by omega)).up (by omega)⟩
