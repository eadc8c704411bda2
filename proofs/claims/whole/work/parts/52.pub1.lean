/-! PUBLIC METHODS: yes or no, with what they change -/
theorem up_no {g : am_G} {k i a j : Nat} {x : Int} (h : a ≠ k ∨ j ≠ i) : am_up g k i x a j = g a j := by
  by_cases e : a = k
  · subst e; exact up_nj (h.resolve_left fun q => q rfl)
  · exact up_ne e
/-- an answer v1 with g1 if A, else v0 with g0 -/
def Two (b : Nat) (r : am_R) (A : Prop) (v1 : Int) (g1 : am_G) (v0 : Int) (g0 : am_G) : Prop := (A ∧ r = (some (0, v1), SH b, g1)) ∨ (¬ A ∧ r = (some (0, v0), SH b, g0))
/-- what a call of the class leaves -/
def CPost (P : Nat) (g : am_G) (E : am_G → Int → Prop) (r : am_R) : Prop := ∃ g1 v b1, r = (some (0, v), SH b1, g1) ∧ CInv P g1 ∧ (∀ c j, 126 < c → g1 c j = g c j) ∧ E g1 v
/-- what a call of the reference leaves -/
def MPost (b : Nat) (g : am_G) (E : am_G → Int → Prop) (r : am_R) : Prop := ∃ g2 v, r = (some (0, v), SH b, g2) ∧ (∀ c j, c ≤ 126 → g2 c j = g c j) ∧ ∀ c1 v1, E c1 v1 → v1 = v ∧ MRel c1 g2
theorem MRel.up {c g : am_G} {i k j : Nat} {x : Int} (h : MRel c g) (hk : cpC i = k) (hj : cpJ i = j) (h9 : k ≠ 99) (h6 : k < 6 ∨ (k = 6 ∧ j = 4) ∨ (9 < k ∧ k < 24)) (h0 : 2 ≤ k) : MRel (am_up c k j x) (am_up g 128 i x) := by
  obtain ⟨h1, h2, h3, h4, h5, h6', h7, h8⟩ := h
  refine ⟨h1.up (by omega) hj (by omega), (h2.c_same fun a b q1 q2 => up_ne (by omega)).g_same fun a => up_ne (by decide), ?_, ?_, ?_, ?_, fun a ha => ?_, ?_⟩
  · rw [up_ne (by omega), up_ne (by omega)]; exact h3
  · rw [up_ne (by omega), up_ne (by omega)]; exact h4
  · rw [up_ne (by omega), up_ne (by omega)]; exact h5
  · rw [up_ne (by omega), up_ne (by omega)]; exact h6'
  · rw [up_ne (by omega), up_ne (by omega)]; exact h7 a ha
  · intro t q ht hq
    have hu (a b : Nat) (hab : (a = 6 ∧ b = 3) ∨ (7 ≤ a ∧ a ≤ 9)) : am_up c k j x a b = c a b := by
      by_cases e : a = k
      · subst e; exact up_nj (by omega)
      · exact up_ne e
    rw [hu 6 3 (by omega)] at ht
    have hv : am_up g 128 i x 130 = g 130 := funext fun b => up_ne (by decide)
    have h7 : am_up c k j x 7 = c 7 := funext fun b => hu 7 b (by omega)
    have h9' : am_up c k j x 9 = c 9 := funext fun b => hu 9 b (by omega)
    have h8' : am_up c k j x 8 = c 8 := funext fun b => hu 8 b (by omega)
    unfold TRc
    rw [hv, h7, h8', h9']
    exact h8 t q ht hq
theorem MRel.c_up {c g : am_G} {k j : Nat} {x : Int} (h : MRel c g) (hk : ¬ Co k j) : MRel (am_up c k j x) g := h.c_same fun a b q => by
  by_cases e : a = k
  · subst e
    by_cases e2 : b = j
    · subst e2; exact absurd q hk
    · exact up_nj e2
  · exact up_ne e
set_option maxHeartbeats 400000 in
set_option maxRecDepth 20000 in
theorem e_isPocket {sn : Nat} {sx : Nat → Int} {b : Nat} {g : am_G} {P : Nat} {p : Int} (hp : R32 p) (h0 : g 0 0 = (P : Int)) (h5 : 5 ≤ P ∧ P ≤ 37) : Ev sn sx 2 137 [(2, 0), (0, p)] (SH b) g (fun r => Is1 r (SH b) g (0 ≤ p ∧ p < (P : Int))) := by
  refine ev_of (K := 1) T137 (by decide) rfl rfl (Nat.le_of_ble_eq_true rfl) ?_
  refine wp_eq (L' := [(2, 0), (0, p)]) (st' := []) (g' := g) ?_
  refine wp_n 4 (pc' := 6) (L' := [(2, 0), (0, p)]) (st' := [(0, (g 0 0)), (0, 0), (0, p)]) (g' := g) rfl ?_
  refine wp_eq (L' := [(2, 0), (0, p)]) (st' := [(0, ((P : Nat) : Int)), (0, 0), (0, p)]) (g' := g) ?_ (by rfl) (by rw [h0]) (by rfl)
  refine wp_n 2 (pc' := 8) (L' := [(2, 0), (0, p)]) (st' := [(0, (((P : Nat) : Int) - 1)), (0, 0), (0, p)]) (g' := g) rfl ?_
  refine wp_cs (as := [(0, p), (0, 0), (0, (((P : Nat) : Int) - 1))]) (rest := []) rfl (by decide) rfl (Nat.le_of_ble_eq_true rfl) (e_within (by omega) (by omega) (by omega)) (by decide) (fun r2 h3 => ?_)
  rcases h3 with ⟨rfl, p1⟩ | ⟨rfl, p1⟩
  · refine wp_eq (L' := [(2, 0), (0, p)]) (st' := [(0, 1)]) (g' := g) ?_
    exact wp_ret rfl rfl rfl (Or.inl ⟨rfl, by omega⟩)
  · refine wp_eq (L' := [(2, 0), (0, p)]) (st' := [(0, 0)]) (g' := g) ?_
    exact wp_ret rfl rfl rfl (Or.inr ⟨rfl, by omega⟩)
set_option maxHeartbeats 400000 in
set_option maxRecDepth 20000 in
theorem e_isPocketOrNone {sn : Nat} {sx : Nat → Int} {b : Nat} {g : am_G} {P : Nat} {p : Int} (hp : R32 p) (h0 : g 0 0 = (P : Int)) (h5 : 5 ≤ P ∧ P ≤ 37) : Ev sn sx 2 138 [(2, 0), (0, p)] (SH b) g (fun r => Is1 r (SH b) g (-1 ≤ p ∧ p < (P : Int))) := by
  refine ev_of (K := 1) T138 (by decide) rfl rfl (Nat.le_of_ble_eq_true rfl) ?_
  refine wp_eq (L' := [(2, 0), (0, p)]) (st' := []) (g' := g) ?_
  refine wp_n 4 (pc' := 6) (L' := [(2, 0), (0, p)]) (st' := [(0, (g 0 0)), (0, (-1)), (0, p)]) (g' := g) rfl ?_
  refine wp_eq (L' := [(2, 0), (0, p)]) (st' := [(0, ((P : Nat) : Int)), (0, (-1)), (0, p)]) (g' := g) ?_ (by rfl) (by rw [h0]) (by rfl)
  refine wp_n 2 (pc' := 8) (L' := [(2, 0), (0, p)]) (st' := [(0, (((P : Nat) : Int) - 1)), (0, (-1)), (0, p)]) (g' := g) rfl ?_
  refine wp_cs (as := [(0, p), (0, (-1)), (0, (((P : Nat) : Int) - 1))]) (rest := []) rfl (by decide) rfl (Nat.le_of_ble_eq_true rfl) (e_within (by omega) (by omega) (by omega)) (by decide) (fun r2 h3 => ?_)
  rcases h3 with ⟨rfl, p1⟩ | ⟨rfl, p1⟩
  · refine wp_eq (L' := [(2, 0), (0, p)]) (st' := [(0, 1)]) (g' := g) ?_
    exact wp_ret rfl rfl rfl (Or.inl ⟨rfl, by omega⟩)
  · refine wp_eq (L' := [(2, 0), (0, p)]) (st' := [(0, 0)]) (g' := g) ?_
    exact wp_ret rfl rfl rfl (Or.inr ⟨rfl, by omega⟩)
set_option maxHeartbeats 400000 in
set_option maxRecDepth 20000 in
theorem e_isRelease {sn : Nat} {sx : Nat → Int} {b : Nat} {g : am_G} {P : Nat} {p s d t : Int} (hp : R32 p) (hs : R32 s) (hd : R32 d) (ht : R32 t) (h0 : g 0 0 = (P : Int)) (h5 : 5 ≤ P ∧ P ≤ 37) : Ev sn sx 2 140 [(2, 0), (0, p), (0, s), (0, d), (0, t)] (SH b) g (fun r => Is1 r (SH b) g (0 ≤ p ∧ p < 8 * (P : Int) ∧ 1 ≤ s ∧ s ≤ 999 ∧ 0 ≤ d ∧ d < 8 * (P : Int) ∧ 0 ≤ t ∧ t ≤ 99)) := by
  refine ev_of (K := 1) T140 (by decide) rfl rfl (Nat.le_of_ble_eq_true rfl) ?_
  refine wp_eq (L' := [(2, 0), (0, p), (0, s), (0, d), (0, t), (9, 0)]) (st' := []) (g' := g) ?_
  refine wp_n 3 (pc' := 6) (L' := [(2, 0), (0, p), (0, s), (0, d), (0, t), (9, 0)]) (st' := [(0, (g 0 0)), (0, 8)]) (g' := g) rfl ?_
  refine wp_eq (L' := [(2, 0), (0, p), (0, s), (0, d), (0, t), (9, 0)]) (st' := [(0, ((P : Nat) : Int)), (0, 8)]) (g' := g) ?_ (by rfl) (by rw [h0]) (by rfl)
  refine wp_n 7 (pc' := 15) (L' := [(2, 0), (0, p), (0, s), (0, d), (0, t), (0, ((8 * ((P : Nat) : Int)) - 1))]) (st' := [(0, ((8 * ((P : Nat) : Int)) - 1)), (0, 0), (0, p)]) (g' := g) rfl ?_
  refine wp_cs (as := [(0, p), (0, 0), (0, ((8 * ((P : Nat) : Int)) - 1))]) (rest := []) rfl (by decide) rfl (Nat.le_of_ble_eq_true rfl) (e_within (by omega) (by omega) (by omega)) (by decide) (fun r2 h3 => ?_)
  rcases h3 with ⟨rfl, p1⟩ | ⟨rfl, p1⟩
  · refine wp_eq (L' := [(2, 0), (0, p), (0, s), (0, d), (0, t), (0, ((8 * ((P : Nat) : Int)) - 1))]) (st' := [(0, 1)]) (g' := g) ?_
    refine wp_n 4 (pc' := 26) (L' := [(2, 0), (0, p), (0, s), (0, d), (0, t), (0, ((8 * ((P : Nat) : Int)) - 1))]) (st' := [(0, 999), (0, 1), (0, s)]) (g' := g) rfl ?_
    refine wp_cs (as := [(0, s), (0, 1), (0, 999)]) (rest := []) rfl (by decide) rfl (Nat.le_of_ble_eq_true rfl) (e_within (by omega) (by omega) (by omega)) (by decide) (fun r5 h6 => ?_)
    rcases h6 with ⟨rfl, p4⟩ | ⟨rfl, p4⟩
    · refine wp_eq (L' := [(2, 0), (0, p), (0, s), (0, d), (0, t), (0, ((8 * ((P : Nat) : Int)) - 1))]) (st' := [(0, 1)]) (g' := g) ?_
      refine wp_n 4 (pc' := 36) (L' := [(2, 0), (0, p), (0, s), (0, d), (0, t), (0, ((8 * ((P : Nat) : Int)) - 1))]) (st' := [(0, ((8 * ((P : Nat) : Int)) - 1)), (0, 0), (0, d)]) (g' := g) rfl ?_
      refine wp_cs (as := [(0, d), (0, 0), (0, ((8 * ((P : Nat) : Int)) - 1))]) (rest := []) rfl (by decide) rfl (Nat.le_of_ble_eq_true rfl) (e_within (by omega) (by omega) (by omega)) (by decide) (fun r8 h9 => ?_)
      rcases h9 with ⟨rfl, p7⟩ | ⟨rfl, p7⟩
      · refine wp_eq (L' := [(2, 0), (0, p), (0, s), (0, d), (0, t), (0, ((8 * ((P : Nat) : Int)) - 1))]) (st' := [(0, 1)]) (g' := g) ?_
        refine wp_n 4 (pc' := 47) (L' := [(2, 0), (0, p), (0, s), (0, d), (0, t), (0, ((8 * ((P : Nat) : Int)) - 1))]) (st' := [(0, 99), (0, 0), (0, t)]) (g' := g) rfl ?_
        refine wp_cs (as := [(0, t), (0, 0), (0, 99)]) (rest := []) rfl (by decide) rfl (Nat.le_of_ble_eq_true rfl) (e_within (by omega) (by omega) (by omega)) (by decide) (fun r11 h12 => ?_)
        rcases h12 with ⟨rfl, p10⟩ | ⟨rfl, p10⟩
        · refine wp_eq (L' := [(2, 0), (0, p), (0, s), (0, d), (0, t), (0, ((8 * ((P : Nat) : Int)) - 1))]) (st' := [(0, 1)]) (g' := g) ?_
          refine wp_n 3 (pc' := 58) (L' := [(2, 0), (0, p), (0, s), (0, d), (0, t), (0, ((8 * ((P : Nat) : Int)) - 1))]) (st' := [(0, 1)]) (g' := g) rfl ?_
          exact wp_ret rfl rfl rfl (Or.inl ⟨rfl, by omega⟩)
        · refine wp_eq (L' := [(2, 0), (0, p), (0, s), (0, d), (0, t), (0, ((8 * ((P : Nat) : Int)) - 1))]) (st' := [(0, 0)]) (g' := g) ?_
          refine wp_n 2 (pc' := 58) (L' := [(2, 0), (0, p), (0, s), (0, d), (0, t), (0, ((8 * ((P : Nat) : Int)) - 1))]) (st' := [(0, 0)]) (g' := g) rfl ?_
          exact wp_ret rfl rfl rfl (Or.inr ⟨rfl, by omega⟩)
      · refine wp_eq (L' := [(2, 0), (0, p), (0, s), (0, d), (0, t), (0, ((8 * ((P : Nat) : Int)) - 1))]) (st' := [(0, 0)]) (g' := g) ?_
        refine wp_n 2 (pc' := 58) (L' := [(2, 0), (0, p), (0, s), (0, d), (0, t), (0, ((8 * ((P : Nat) : Int)) - 1))]) (st' := [(0, 0)]) (g' := g) rfl ?_
        exact wp_ret rfl rfl rfl (Or.inr ⟨rfl, by omega⟩)
    · refine wp_eq (L' := [(2, 0), (0, p), (0, s), (0, d), (0, t), (0, ((8 * ((P : Nat) : Int)) - 1))]) (st' := [(0, 0)]) (g' := g) ?_
      refine wp_n 2 (pc' := 58) (L' := [(2, 0), (0, p), (0, s), (0, d), (0, t), (0, ((8 * ((P : Nat) : Int)) - 1))]) (st' := [(0, 0)]) (g' := g) rfl ?_
      exact wp_ret rfl rfl rfl (Or.inr ⟨rfl, by omega⟩)
  · refine wp_eq (L' := [(2, 0), (0, p), (0, s), (0, d), (0, t), (0, ((8 * ((P : Nat) : Int)) - 1))]) (st' := [(0, 0)]) (g' := g) ?_
    refine wp_n 2 (pc' := 58) (L' := [(2, 0), (0, p), (0, s), (0, d), (0, t), (0, ((8 * ((P : Nat) : Int)) - 1))]) (st' := [(0, 0)]) (g' := g) rfl ?_
    exact wp_ret rfl rfl rfl (Or.inr ⟨rfl, by omega⟩)
set_option maxHeartbeats 400000 in
set_option maxRecDepth 20000 in
theorem m_isPocket {sn : Nat} {sx : Nat → Int} {b : Nat} {g : am_G} {P : Nat} {p : Int} (hp : R32 p) (h0 : g 127 0 = (P : Int)) (h5 : 5 ≤ P ∧ P ≤ 37) : Ev sn sx 2 154 [(2, 127), (0, p)] (SH b) g (fun r => Is1 r (SH b) g (0 ≤ p ∧ p < (P : Int))) := by
  refine ev_of (K := 1) T154 (by decide) rfl rfl (Nat.le_of_ble_eq_true rfl) ?_
  refine wp_eq (L' := [(2, 127), (0, p)]) (st' := []) (g' := g) ?_
  refine wp_n 4 (pc' := 6) (L' := [(2, 127), (0, p)]) (st' := [(0, (g 127 0)), (0, 0), (0, p)]) (g' := g) rfl ?_
  refine wp_eq (L' := [(2, 127), (0, p)]) (st' := [(0, ((P : Nat) : Int)), (0, 0), (0, p)]) (g' := g) ?_ (by rfl) (by rw [h0]) (by rfl)
  refine wp_n 2 (pc' := 8) (L' := [(2, 127), (0, p)]) (st' := [(0, (((P : Nat) : Int) - 1)), (0, 0), (0, p)]) (g' := g) rfl ?_
  refine wp_cs (as := [(0, p), (0, 0), (0, (((P : Nat) : Int) - 1))]) (rest := []) rfl (by decide) rfl (Nat.le_of_ble_eq_true rfl) (e_isIn (by omega) (by omega) (by omega)) (by decide) (fun r2 h3 => ?_)
  rcases h3 with ⟨rfl, p1⟩ | ⟨rfl, p1⟩
  · refine wp_eq (L' := [(2, 127), (0, p)]) (st' := [(0, 1)]) (g' := g) ?_
    exact wp_ret rfl rfl rfl (Or.inl ⟨rfl, by omega⟩)
  · refine wp_eq (L' := [(2, 127), (0, p)]) (st' := [(0, 0)]) (g' := g) ?_
    exact wp_ret rfl rfl rfl (Or.inr ⟨rfl, by omega⟩)
set_option maxHeartbeats 400000 in
set_option maxRecDepth 20000 in
theorem m_isPoint {sn : Nat} {sx : Nat → Int} {b : Nat} {g : am_G} {P : Nat} {p : Int} (hp : R32 p) (h0 : g 127 0 = (P : Int)) (h5 : 5 ≤ P ∧ P ≤ 37) : Ev sn sx 2 196 [(2, 127), (0, p)] (SH b) g (fun r => Is1 r (SH b) g (0 ≤ p ∧ p < 8 * (P : Int))) := by
  refine ev_of (K := 1) T196 (by decide) rfl rfl (Nat.le_of_ble_eq_true rfl) ?_
  refine wp_eq (L' := [(2, 127), (0, p)]) (st' := []) (g' := g) ?_
  refine wp_n 5 (pc' := 8) (L' := [(2, 127), (0, p)]) (st' := [(0, (g 127 0)), (0, 8), (0, 0), (0, p)]) (g' := g) rfl ?_
  refine wp_eq (L' := [(2, 127), (0, p)]) (st' := [(0, ((P : Nat) : Int)), (0, 8), (0, 0), (0, p)]) (g' := g) ?_ (by rfl) (by rw [h0]) (by rfl)
  refine wp_n 3 (pc' := 11) (L' := [(2, 127), (0, p)]) (st' := [(0, ((8 * ((P : Nat) : Int)) - 1)), (0, 0), (0, p)]) (g' := g) rfl ?_
  refine wp_cs (as := [(0, p), (0, 0), (0, ((8 * ((P : Nat) : Int)) - 1))]) (rest := []) rfl (by decide) rfl (Nat.le_of_ble_eq_true rfl) (e_isIn (by omega) (by omega) (by omega)) (by decide) (fun r2 h3 => ?_)
  rcases h3 with ⟨rfl, p1⟩ | ⟨rfl, p1⟩
  · refine wp_eq (L' := [(2, 127), (0, p)]) (st' := [(0, 1)]) (g' := g) ?_
    exact wp_ret rfl rfl rfl (Or.inl ⟨rfl, by omega⟩)
  · refine wp_eq (L' := [(2, 127), (0, p)]) (st' := [(0, 0)]) (g' := g) ?_
    exact wp_ret rfl rfl rfl (Or.inr ⟨rfl, by omega⟩)
set_option maxHeartbeats 400000 in
set_option maxRecDepth 20000 in
theorem m_isDrop {sn : Nat} {sx : Nat → Int} {b : Nat} {g : am_G} {P : Nat} {w p s d t : Int} (hw : R32 w) (hp : R32 p) (hs : R32 s) (hd : R32 d) (ht : R32 t) (h0 : g 127 0 = (P : Int)) (h5 : 5 ≤ P ∧ P ≤ 37) : Ev sn sx 3 197 [(2, 127), (0, w), (0, p), (0, s), (0, d), (0, t)] (SH b) g (fun r => Is1 r (SH b) g (0 ≤ w ∧ w ≤ 3 ∧ 0 ≤ p ∧ p < 8 * (P : Int) ∧ 1 ≤ s ∧ s ≤ 999 ∧ 0 ≤ d ∧ d < 8 * (P : Int) ∧ 0 ≤ t ∧ t ≤ 99)) := by
  refine ev_of (K := 2) T197 (by decide) rfl rfl (Nat.le_of_ble_eq_true rfl) ?_
  refine wp_eq (L' := [(2, 127), (0, w), (0, p), (0, s), (0, d), (0, t)]) (st' := []) (g' := g) ?_
  refine wp_n 1 (pc' := 1) (L' := [(2, 127), (0, w), (0, p), (0, s), (0, d), (0, t)]) (st' := [(0, w)]) (g' := g) rfl ?_
  refine wp_cs (as := [(0, w)]) (rest := []) rfl (by decide) rfl (Nat.le_of_ble_eq_true rfl) (e_MisWheel (by omega)) (by decide) (fun r2 h3 => ?_)
  rcases h3 with ⟨rfl, p1⟩ | ⟨rfl, p1⟩
  · refine wp_eq (L' := [(2, 127), (0, w), (0, p), (0, s), (0, d), (0, t)]) (st' := [(0, 1)]) (g' := g) ?_
    refine wp_n 3 (pc' := 9) (L' := [(2, 127), (0, w), (0, p), (0, s), (0, d), (0, t)]) (st' := [(0, p), (2, 127)]) (g' := g) rfl ?_
    refine wp_cv (as := [(2, 127), (0, p)]) (rest := []) rfl rfl rfl (Nat.le_of_ble_eq_true rfl) rfl (m_isPoint (by omega) (by assumption) (by omega)) (by decide) (fun r4 h5 => ?_)
    rcases h5 with ⟨rfl, p9⟩ | ⟨rfl, p9⟩
    · refine wp_eq (L' := [(2, 127), (0, w), (0, p), (0, s), (0, d), (0, t)]) (st' := [(0, 1)]) (g' := g) ?_
      refine wp_n 4 (pc' := 20) (L' := [(2, 127), (0, w), (0, p), (0, s), (0, d), (0, t)]) (st' := [(0, 999), (0, 1), (0, s)]) (g' := g) rfl ?_
      refine wp_cs (as := [(0, s), (0, 1), (0, 999)]) (rest := []) rfl (by decide) rfl (Nat.le_of_ble_eq_true rfl) (e_isIn (by omega) (by omega) (by omega)) (by decide) (fun r7 h8 => ?_)
      rcases h8 with ⟨rfl, p6⟩ | ⟨rfl, p6⟩
      · refine wp_eq (L' := [(2, 127), (0, w), (0, p), (0, s), (0, d), (0, t)]) (st' := [(0, 1)]) (g' := g) ?_
        refine wp_n 3 (pc' := 29) (L' := [(2, 127), (0, w), (0, p), (0, s), (0, d), (0, t)]) (st' := [(0, d), (2, 127)]) (g' := g) rfl ?_
        refine wp_cv (as := [(2, 127), (0, d)]) (rest := []) rfl rfl rfl (Nat.le_of_ble_eq_true rfl) rfl (m_isPoint (by omega) (by assumption) (by omega)) (by decide) (fun r9 h10 => ?_)
        rcases h10 with ⟨rfl, p29⟩ | ⟨rfl, p29⟩
        · refine wp_eq (L' := [(2, 127), (0, w), (0, p), (0, s), (0, d), (0, t)]) (st' := [(0, 1)]) (g' := g) ?_
          refine wp_n 4 (pc' := 40) (L' := [(2, 127), (0, w), (0, p), (0, s), (0, d), (0, t)]) (st' := [(0, 99), (0, 0), (0, t)]) (g' := g) rfl ?_
          refine wp_cs (as := [(0, t), (0, 0), (0, 99)]) (rest := []) rfl (by decide) rfl (Nat.le_of_ble_eq_true rfl) (e_isIn (by omega) (by omega) (by omega)) (by decide) (fun r12 h13 => ?_)
          rcases h13 with ⟨rfl, p11⟩ | ⟨rfl, p11⟩
          · refine wp_eq (L' := [(2, 127), (0, w), (0, p), (0, s), (0, d), (0, t)]) (st' := [(0, 1)]) (g' := g) ?_
            refine wp_n 3 (pc' := 51) (L' := [(2, 127), (0, w), (0, p), (0, s), (0, d), (0, t)]) (st' := [(0, 1)]) (g' := g) rfl ?_
            exact wp_ret rfl rfl rfl (Or.inl ⟨rfl, by omega⟩)
          · refine wp_eq (L' := [(2, 127), (0, w), (0, p), (0, s), (0, d), (0, t)]) (st' := [(0, 0)]) (g' := g) ?_
            refine wp_n 2 (pc' := 51) (L' := [(2, 127), (0, w), (0, p), (0, s), (0, d), (0, t)]) (st' := [(0, 0)]) (g' := g) rfl ?_
            exact wp_ret rfl rfl rfl (Or.inr ⟨rfl, by omega⟩)
        · refine wp_eq (L' := [(2, 127), (0, w), (0, p), (0, s), (0, d), (0, t)]) (st' := [(0, 0)]) (g' := g) ?_
          refine wp_n 2 (pc' := 51) (L' := [(2, 127), (0, w), (0, p), (0, s), (0, d), (0, t)]) (st' := [(0, 0)]) (g' := g) rfl ?_
          exact wp_ret rfl rfl rfl (Or.inr ⟨rfl, by omega⟩)
      · refine wp_eq (L' := [(2, 127), (0, w), (0, p), (0, s), (0, d), (0, t)]) (st' := [(0, 0)]) (g' := g) ?_
        refine wp_n 2 (pc' := 51) (L' := [(2, 127), (0, w), (0, p), (0, s), (0, d), (0, t)]) (st' := [(0, 0)]) (g' := g) rfl ?_
        exact wp_ret rfl rfl rfl (Or.inr ⟨rfl, by omega⟩)
    · refine wp_eq (L' := [(2, 127), (0, w), (0, p), (0, s), (0, d), (0, t)]) (st' := [(0, 0)]) (g' := g) ?_
      refine wp_n 2 (pc' := 51) (L' := [(2, 127), (0, w), (0, p), (0, s), (0, d), (0, t)]) (st' := [(0, 0)]) (g' := g) rfl ?_
      exact wp_ret rfl rfl rfl (Or.inr ⟨rfl, by omega⟩)
  · refine wp_eq (L' := [(2, 127), (0, w), (0, p), (0, s), (0, d), (0, t)]) (st' := [(0, 0)]) (g' := g) ?_
    refine wp_n 2 (pc' := 51) (L' := [(2, 127), (0, w), (0, p), (0, s), (0, d), (0, t)]) (st' := [(0, 0)]) (g' := g) rfl ?_
    exact wp_ret rfl rfl rfl (Or.inr ⟨rfl, by omega⟩)
set_option maxHeartbeats 400000 in
set_option maxRecDepth 20000 in
theorem e_forget {sn : Nat} {sx : Nat → Int} {b : Nat} {g : am_G}  : Ev sn sx 1 84 [(2, 56)] (SH b) g (fun r => r = (none, SH b, am_up g 56 2 0)) := by
  refine ev_of (K := 0) T84 (by decide) rfl rfl (Nat.le_of_ble_eq_true rfl) ?_
  refine wp_eq (L' := [(2, 56)]) (st' := []) (g' := g) ?_
  refine wp_n 3 (pc' := 5) (L' := [(2, 56)]) (st' := []) (g' := (am_up g 56 2 0)) rfl ?_
  exact wp_ret rfl rfl rfl rfl
set_option maxHeartbeats 400000 in
set_option maxRecDepth 20000 in
theorem e_pocket {sn : Nat} {sx : Nat → Int} {b : Nat} {g : am_G} {P : Nat} {w p h l : Int} (h_w : R32 w) (h_p : R32 p) (h_h : R32 h) (h_l : R32 l) (hI : CInv P g) : Ev sn sx 3 96 [(2, 0), (0, w), (0, p), (0, h), (0, l)] (SH b) g (fun yy => Two b yy (0 ≤ w ∧ w ≤ 3 ∧ 0 ≤ p ∧ p < (P : Int) ∧ 1 ≤ h ∧ h ≤ 10 ∧ 1 ≤ l ∧ l ≤ 99) 1 (am_up (am_up (am_up g 2 (37 * w.toNat + p.toNat) h) 3 (37 * w.toNat + p.toNat) l) 56 2 0) (0) g) := by
  have hP := hI.ck.2.1
  have h5 := hI.ck.1
  refine ev_of (K := 2) T96 (by decide) rfl rfl (Nat.le_of_ble_eq_true rfl) ?_
  refine wp_eq (L' := [(2, 0), (0, w), (0, p), (0, h), (0, l)]) (st' := []) (g' := g) ?_
  refine wp_n 1 (pc' := 1) (L' := [(2, 0), (0, w), (0, p), (0, h), (0, l)]) (st' := [(0, w)]) (g' := g) rfl ?_
  refine wp_cs (as := [(0, w)]) (rest := []) rfl (by decide) rfl (Nat.le_of_ble_eq_true rfl) (e_isWheel (by omega)) (by decide) (fun r2 h3 => ?_)
  rcases h3 with ⟨rfl, p1⟩ | ⟨rfl, p1⟩
  · refine wp_eq (L' := [(2, 0), (0, w), (0, p), (0, h), (0, l)]) (st' := [(0, 1)]) (g' := g) ?_
    refine wp_n 3 (pc' := 9) (L' := [(2, 0), (0, w), (0, p), (0, h), (0, l)]) (st' := [(0, p), (2, 0)]) (g' := g) rfl ?_
    refine wp_cv (as := [(2, 0), (0, p)]) (rest := []) rfl rfl rfl (Nat.le_of_ble_eq_true rfl) rfl (e_isPocket (by omega) (by assumption) (by omega)) (by decide) (fun r4 h5 => ?_)
    rcases h5 with ⟨rfl, p9⟩ | ⟨rfl, p9⟩
    · refine wp_eq (L' := [(2, 0), (0, w), (0, p), (0, h), (0, l)]) (st' := [(0, 1)]) (g' := g) ?_
      refine wp_n 4 (pc' := 19) (L' := [(2, 0), (0, w), (0, p), (0, h), (0, l)]) (st' := [(0, 10), (0, 1), (0, h)]) (g' := g) rfl ?_
      refine wp_cs (as := [(0, h), (0, 1), (0, 10)]) (rest := []) rfl (by decide) rfl (Nat.le_of_ble_eq_true rfl) (e_within (by omega) (by omega) (by omega)) (by decide) (fun r7 h8 => ?_)
      rcases h8 with ⟨rfl, p6⟩ | ⟨rfl, p6⟩
      · refine wp_eq (L' := [(2, 0), (0, w), (0, p), (0, h), (0, l)]) (st' := [(0, 1)]) (g' := g) ?_
        refine wp_n 4 (pc' := 30) (L' := [(2, 0), (0, w), (0, p), (0, h), (0, l)]) (st' := [(0, 99), (0, 1), (0, l)]) (g' := g) rfl ?_
        refine wp_cs (as := [(0, l), (0, 1), (0, 99)]) (rest := []) rfl (by decide) rfl (Nat.le_of_ble_eq_true rfl) (e_within (by omega) (by omega) (by omega)) (by decide) (fun r10 h11 => ?_)
        rcases h11 with ⟨rfl, p9⟩ | ⟨rfl, p9⟩
        · refine wp_eq (L' := [(2, 0), (0, w), (0, p), (0, h), (0, l)]) (st' := [(0, 1)]) (g' := g) ?_
          refine wp_n 10 (pc' := 52) (L' := [(2, 0), (0, w), (0, p), (0, h), (0, l)]) (st' := [(0, h), (0, ((w * 37) + p)), (2, 2)]) (g' := g) rfl ?_
          refine wp_iast (k := 2) ((37 * w.toNat + p.toNat)) rfl rfl (by omega) (by omega) (by decide) ?_
          refine wp_n 9 (pc' := 68) (L' := [(2, 0), (0, w), (0, p), (0, h), (0, l)]) (st' := [(0, l), (0, ((w * 37) + p)), (2, 3)]) (g' := (am_up g 2 ((37 * w.toNat + p.toNat)) h)) rfl ?_
          refine wp_iast (k := 3) ((37 * w.toNat + p.toNat)) rfl rfl (by omega) (by omega) (by decide) ?_
          refine wp_n 2 (pc' := 73) (L' := [(2, 0), (0, w), (0, p), (0, h), (0, l)]) (st' := [(2, 56)]) (g' := (am_up (am_up g 2 ((37 * w.toNat + p.toNat)) h) 3 ((37 * w.toNat + p.toNat)) l)) rfl ?_
          refine wp_cv (as := [(2, 56)]) (rest := []) rfl rfl rfl (Nat.le_of_ble_eq_true rfl) rfl (e_forget) (by decide) (fun r12 h13 => ?_)
          obtain rfl := h13
          refine wp_eq (L' := [(2, 0), (0, w), (0, p), (0, h), (0, l)]) (st' := []) (g' := (am_up (am_up (am_up g 2 ((37 * w.toNat + p.toNat)) h) 3 ((37 * w.toNat + p.toNat)) l) 56 2 0)) ?_
          refine wp_n 1 (pc' := 77) (L' := [(2, 0), (0, w), (0, p), (0, h), (0, l)]) (st' := [(0, 1)]) (g' := (am_up (am_up (am_up g 2 ((37 * w.toNat + p.toNat)) h) 3 ((37 * w.toNat + p.toNat)) l) 56 2 0)) rfl ?_
          exact wp_ret rfl rfl rfl (Or.inl ⟨by omega, rfl⟩)
        · refine wp_eq (L' := [(2, 0), (0, w), (0, p), (0, h), (0, l)]) (st' := [(0, 0)]) (g' := g) ?_
          refine wp_n 2 (pc' := 37) (L' := [(2, 0), (0, w), (0, p), (0, h), (0, l)]) (st' := [(0, 0)]) (g' := g) rfl ?_
          exact wp_ret rfl rfl rfl (Or.inr ⟨by omega, rfl⟩)
      · refine wp_eq (L' := [(2, 0), (0, w), (0, p), (0, h), (0, l)]) (st' := [(0, 0)]) (g' := g) ?_
        refine wp_n 2 (pc' := 37) (L' := [(2, 0), (0, w), (0, p), (0, h), (0, l)]) (st' := [(0, 0)]) (g' := g) rfl ?_
        exact wp_ret rfl rfl rfl (Or.inr ⟨by omega, rfl⟩)
    · refine wp_eq (L' := [(2, 0), (0, w), (0, p), (0, h), (0, l)]) (st' := [(0, 0)]) (g' := g) ?_
      refine wp_n 2 (pc' := 37) (L' := [(2, 0), (0, w), (0, p), (0, h), (0, l)]) (st' := [(0, 0)]) (g' := g) rfl ?_
      exact wp_ret rfl rfl rfl (Or.inr ⟨by omega, rfl⟩)
  · refine wp_eq (L' := [(2, 0), (0, w), (0, p), (0, h), (0, l)]) (st' := [(0, 0)]) (g' := g) ?_
    refine wp_n 2 (pc' := 37) (L' := [(2, 0), (0, w), (0, p), (0, h), (0, l)]) (st' := [(0, 0)]) (g' := g) rfl ?_
    exact wp_ret rfl rfl rfl (Or.inr ⟨by omega, rfl⟩)
set_option maxHeartbeats 400000 in
set_option maxRecDepth 20000 in
theorem m_pocket {sn : Nat} {sx : Nat → Int} {b : Nat} {g : am_G} {c : am_G} {P : Nat} {w p h l : Int} (h_w : R32 w) (h_p : R32 p) (h_h : R32 h) (h_l : R32 l) (hI : CInv P c) (hM : MRel c g) : Ev sn sx 3 155 [(2, 127), (0, w), (0, p), (0, h), (0, l)] (SH b) g (fun yy => Two b yy (0 ≤ w ∧ w ≤ 3 ∧ 0 ≤ p ∧ p < (P : Int) ∧ 1 ≤ h ∧ h ≤ 10 ∧ 1 ≤ l ∧ l ≤ 99) 1 (am_up (am_up g 128 (20 + (37 * w.toNat + p.toNat)) h) 128 (170 + (37 * w.toNat + p.toNat)) l) (0) g) := by
  have h5 := hI.ck.1
  have hP : g 127 0 = (P : Int) := hM.n.trans hI.ck.2.1
  refine ev_of (K := 2) T155 (by decide) rfl rfl (Nat.le_of_ble_eq_true rfl) ?_
  refine wp_eq (L' := [(2, 127), (0, w), (0, p), (0, h), (0, l)]) (st' := []) (g' := g) ?_
  refine wp_n 1 (pc' := 1) (L' := [(2, 127), (0, w), (0, p), (0, h), (0, l)]) (st' := [(0, w)]) (g' := g) rfl ?_
  refine wp_cs (as := [(0, w)]) (rest := []) rfl (by decide) rfl (Nat.le_of_ble_eq_true rfl) (e_MisWheel (by omega)) (by decide) (fun r2 h3 => ?_)
  rcases h3 with ⟨rfl, p1⟩ | ⟨rfl, p1⟩
  · refine wp_eq (L' := [(2, 127), (0, w), (0, p), (0, h), (0, l)]) (st' := [(0, 1)]) (g' := g) ?_
    refine wp_n 3 (pc' := 9) (L' := [(2, 127), (0, w), (0, p), (0, h), (0, l)]) (st' := [(0, p), (2, 127)]) (g' := g) rfl ?_
    refine wp_cv (as := [(2, 127), (0, p)]) (rest := []) rfl rfl rfl (Nat.le_of_ble_eq_true rfl) rfl (m_isPocket (by omega) (by assumption) (by omega)) (by decide) (fun r4 h5 => ?_)
    rcases h5 with ⟨rfl, p9⟩ | ⟨rfl, p9⟩
    · refine wp_eq (L' := [(2, 127), (0, w), (0, p), (0, h), (0, l)]) (st' := [(0, 1)]) (g' := g) ?_
      refine wp_n 4 (pc' := 19) (L' := [(2, 127), (0, w), (0, p), (0, h), (0, l)]) (st' := [(0, 10), (0, 1), (0, h)]) (g' := g) rfl ?_
      refine wp_cs (as := [(0, h), (0, 1), (0, 10)]) (rest := []) rfl (by decide) rfl (Nat.le_of_ble_eq_true rfl) (e_isIn (by omega) (by omega) (by omega)) (by decide) (fun r7 h8 => ?_)
      rcases h8 with ⟨rfl, p6⟩ | ⟨rfl, p6⟩
      · refine wp_eq (L' := [(2, 127), (0, w), (0, p), (0, h), (0, l)]) (st' := [(0, 1)]) (g' := g) ?_
        refine wp_n 4 (pc' := 30) (L' := [(2, 127), (0, w), (0, p), (0, h), (0, l)]) (st' := [(0, 99), (0, 1), (0, l)]) (g' := g) rfl ?_
        refine wp_cs (as := [(0, l), (0, 1), (0, 99)]) (rest := []) rfl (by decide) rfl (Nat.le_of_ble_eq_true rfl) (e_isIn (by omega) (by omega) (by omega)) (by decide) (fun r10 h11 => ?_)
        rcases h11 with ⟨rfl, p9⟩ | ⟨rfl, p9⟩
        · refine wp_eq (L' := [(2, 127), (0, w), (0, p), (0, h), (0, l)]) (st' := [(0, 1)]) (g' := g) ?_
          refine wp_n 11 (pc' := 52) (L' := [(2, 127), (0, w), (0, p), (0, h), (0, l)]) (st' := [(0, h), (0, ((20 + (37 * w)) + p)), (2, 128)]) (g' := g) rfl ?_
          refine wp_iast (k := 128) ((20 + (37 * w.toNat + p.toNat))) rfl rfl (by omega) (by omega) (by decide) ?_
          refine wp_n 10 (pc' := 69) (L' := [(2, 127), (0, w), (0, p), (0, h), (0, l)]) (st' := [(0, l), (0, ((170 + (37 * w)) + p)), (2, 128)]) (g' := (am_up g 128 ((20 + (37 * w.toNat + p.toNat))) h)) rfl ?_
          refine wp_iast (k := 128) ((170 + (37 * w.toNat + p.toNat))) rfl rfl (by omega) (by omega) (by decide) ?_
          refine wp_n 1 (pc' := 71) (L' := [(2, 127), (0, w), (0, p), (0, h), (0, l)]) (st' := [(0, 1)]) (g' := (am_up (am_up g 128 ((20 + (37 * w.toNat + p.toNat))) h) 128 ((170 + (37 * w.toNat + p.toNat))) l)) rfl ?_
          exact wp_ret rfl rfl rfl (Or.inl ⟨by omega, rfl⟩)
        · refine wp_eq (L' := [(2, 127), (0, w), (0, p), (0, h), (0, l)]) (st' := [(0, 0)]) (g' := g) ?_
          refine wp_n 2 (pc' := 37) (L' := [(2, 127), (0, w), (0, p), (0, h), (0, l)]) (st' := [(0, 0)]) (g' := g) rfl ?_
          exact wp_ret rfl rfl rfl (Or.inr ⟨by omega, rfl⟩)
      · refine wp_eq (L' := [(2, 127), (0, w), (0, p), (0, h), (0, l)]) (st' := [(0, 0)]) (g' := g) ?_
        refine wp_n 2 (pc' := 37) (L' := [(2, 127), (0, w), (0, p), (0, h), (0, l)]) (st' := [(0, 0)]) (g' := g) rfl ?_
        exact wp_ret rfl rfl rfl (Or.inr ⟨by omega, rfl⟩)
    · refine wp_eq (L' := [(2, 127), (0, w), (0, p), (0, h), (0, l)]) (st' := [(0, 0)]) (g' := g) ?_
      refine wp_n 2 (pc' := 37) (L' := [(2, 127), (0, w), (0, p), (0, h), (0, l)]) (st' := [(0, 0)]) (g' := g) rfl ?_
      exact wp_ret rfl rfl rfl (Or.inr ⟨by omega, rfl⟩)
  · refine wp_eq (L' := [(2, 127), (0, w), (0, p), (0, h), (0, l)]) (st' := [(0, 0)]) (g' := g) ?_
    refine wp_n 2 (pc' := 37) (L' := [(2, 127), (0, w), (0, p), (0, h), (0, l)]) (st' := [(0, 0)]) (g' := g) rfl ?_
    exact wp_ret rfl rfl rfl (Or.inr ⟨by omega, rfl⟩)
def F_pocket (P : Nat) (w p h l : Int) (c c1 : am_G) (v1 : Int) : Prop := ((0 ≤ w ∧ w ≤ 3 ∧ 0 ≤ p ∧ p < (P : Int) ∧ 1 ≤ h ∧ h ≤ 10 ∧ 1 ≤ l ∧ l ≤ 99) ∧ v1 = 1 ∧ c1 = (am_up (am_up (am_up c 2 (37 * w.toNat + p.toNat) h) 3 (37 * w.toNat + p.toNat) l) 56 2 0)) ∨ (¬ (0 ≤ w ∧ w ≤ 3 ∧ 0 ≤ p ∧ p < (P : Int) ∧ 1 ≤ h ∧ h ≤ 10 ∧ 1 ≤ l ∧ l ≤ 99) ∧ v1 = 0 ∧ c1 = c)
set_option maxRecDepth 20000 in
theorem C_pocket {sn : Nat} {sx : Nat → Int} {b : Nat} {g : am_G} {P : Nat} {w p h l : Int} (h_w : R32 w) (h_p : R32 p) (h_h : R32 h) (h_l : R32 l) (hI : CInv P g) : Ev sn sx 3 96 [(2, 0), (0, w), (0, p), (0, h), (0, l)] (SH b) g (CPost P g (F_pocket P w p h l g)) := (e_pocket h_w h_p h_h h_l hI).mono fun r h => by
  rcases h with ⟨hD, rfl⟩ | ⟨hD, rfl⟩
  · have h5 := hI.ck.1
    skip
    refine ⟨_, _, b, rfl, ⟨hI.ck.same fun c j q => by (repeat rw [up_no (by omega)]), (((hI.rg.up (by unfold Rg; omega) (by omega)).up (by unfold Rg; omega) (by omega)).up (by unfold Rg; omega) (by omega)), hI.rgi.same fun c j q1 q2 => by (repeat rw [up_no (by omega)]), hI.e24.same fun c j q => by (repeat rw [up_no (by omega)]), hI.e24i.same fun c j q => by (repeat rw [up_no (by omega)]), hI.tx.same fun c j q1 q2 => by (repeat rw [up_no (by omega)]), hI.txi.same fun c j q1 q2 => by (repeat rw [up_no (by omega)]), hI.ti.same fun c j q => by (repeat rw [up_no (by omega)]), hI.tap.same fun c j q => by (repeat rw [up_no (by omega)]), hI.cls.same fun c j q1 q2 => by (repeat rw [up_no (by omega)]), hI.wls.same fun c j q1 q2 => by (repeat rw [up_no (by omega)]), CaW.none up_eq, hI.cal.same fun c j q => by (repeat rw [up_no (by omega)])⟩, fun c j q => by (repeat rw [up_no (by omega)]), Or.inl ⟨hD, rfl, rfl⟩⟩
  · exact ⟨_, _, b, rfl, hI, fun _ _ _ => rfl, Or.inr ⟨hD, rfl, rfl⟩⟩
set_option maxRecDepth 20000 in
theorem M_pocket {sn : Nat} {sx : Nat → Int} {b : Nat} {g c : am_G} {P : Nat} {w p h l : Int} (h_w : R32 w) (h_p : R32 p) (h_h : R32 h) (h_l : R32 l) (hI : CInv P c) (hM : MRel c g) : Ev sn sx 3 155 [(2, 127), (0, w), (0, p), (0, h), (0, l)] (SH b) g (MPost b g (F_pocket P w p h l c)) := (m_pocket h_w h_p h_h h_l hI hM).mono fun r h => by
  rcases h with ⟨hD, rfl⟩ | ⟨hD, rfl⟩
  · refine ⟨_, _, rfl, fun k j q => by (repeat rw [up_no (by omega)]), fun c1 v1 hE => ?_⟩
    rcases hE with ⟨-, rfl, rfl⟩ | ⟨hn, -, -⟩
    · have h5 := hI.ck.1
      skip
      exact ⟨rfl, (((hM.up (i := 20 + (37 * w.toNat + p.toNat)) (k := 2) (j := (37 * w.toNat + p.toNat)) ((cp_hold _ (by omega) (by omega)).trans (by omega)) ((cj_hold _ (by omega) (by omega)).trans (by omega)) (by omega) (by omega) (by omega)).up (i := 170 + (37 * w.toNat + p.toNat)) (k := 3) (j := (37 * w.toNat + p.toNat)) ((cp_lean _ (by omega) (by omega)).trans (by omega)) ((cj_lean _ (by omega) (by omega)).trans (by omega)) (by omega) (by omega) (by omega)).c_up (by unfold Co; omega))⟩
    · exact absurd hD hn
  · refine ⟨_, _, rfl, fun k j q => rfl, fun c1 v1 hE => ?_⟩
    rcases hE with ⟨hn, -, -⟩ | ⟨-, rfl, rfl⟩
    · exact absurd hn hD
    · exact ⟨rfl, hM⟩
set_option maxHeartbeats 400000 in
set_option maxRecDepth 20000 in
theorem e_stud {sn : Nat} {sx : Nat → Int} {b : Nat} {g : am_G} {P : Nat} {w s x y z u : Int} (h_w : R32 w) (h_s : R32 s) (h_x : R32 x) (h_y : R32 y) (h_z : R32 z) (h_u : R32 u) (hI : CInv P g) : Ev sn sx 3 97 [(2, 0), (0, w), (0, s), (0, x), (0, y), (0, z), (0, u)] (SH b) g (fun yy => Two b yy (0 ≤ w ∧ w ≤ 3 ∧ 0 ≤ s ∧ s ≤ 7 ∧ 0 ≤ x ∧ x ≤ 10 ∧ 0 ≤ y ∧ y ≤ 10 ∧ 0 ≤ z ∧ z ≤ 10 ∧ 0 ≤ u ∧ u ≤ 10 ∧ x + y + z + u = 10) 1 (am_up (am_up (am_up (am_up g 4 (32 * w.toNat + 4 * s.toNat) x) 4 (32 * w.toNat + 4 * s.toNat + 1) y) 4 (32 * w.toNat + 4 * s.toNat + 2) z) 4 (32 * w.toNat + 4 * s.toNat + 3) u) (0) g) := by
  have hP := hI.ck.2.1
  have h5 := hI.ck.1
  refine ev_of (K := 2) T97 (by decide) rfl rfl (Nat.le_of_ble_eq_true rfl) ?_
  refine wp_eq (L' := [(2, 0), (0, w), (0, s), (0, x), (0, y), (0, z), (0, u), (9, 0)]) (st' := []) (g' := g) ?_
  refine wp_n 1 (pc' := 1) (L' := [(2, 0), (0, w), (0, s), (0, x), (0, y), (0, z), (0, u), (9, 0)]) (st' := [(0, w)]) (g' := g) rfl ?_
  refine wp_cs (as := [(0, w)]) (rest := []) rfl (by decide) rfl (Nat.le_of_ble_eq_true rfl) (e_isWheel (by omega)) (by decide) (fun r2 h3 => ?_)
  rcases h3 with ⟨rfl, p1⟩ | ⟨rfl, p1⟩
  · refine wp_eq (L' := [(2, 0), (0, w), (0, s), (0, x), (0, y), (0, z), (0, u), (9, 0)]) (st' := [(0, 1)]) (g' := g) ?_
    refine wp_n 4 (pc' := 11) (L' := [(2, 0), (0, w), (0, s), (0, x), (0, y), (0, z), (0, u), (9, 0)]) (st' := [(0, 7), (0, 0), (0, s)]) (g' := g) rfl ?_
    refine wp_cs (as := [(0, s), (0, 0), (0, 7)]) (rest := []) rfl (by decide) rfl (Nat.le_of_ble_eq_true rfl) (e_within (by omega) (by omega) (by omega)) (by decide) (fun r5 h6 => ?_)
    rcases h6 with ⟨rfl, p4⟩ | ⟨rfl, p4⟩
    · refine wp_eq (L' := [(2, 0), (0, w), (0, s), (0, x), (0, y), (0, z), (0, u), (9, 0)]) (st' := [(0, 1)]) (g' := g) ?_
      refine wp_n 6 (pc' := 25) (L' := [(2, 0), (0, w), (0, s), (0, x), (0, y), (0, z), (0, u), (9, 0)]) (st' := [(0, 0), (0, u), (0, z), (0, y), (0, x)]) (g' := g) rfl ?_
      refine wp_cs (as := [(0, x), (0, y), (0, z), (0, u), (0, 0)]) (rest := []) rfl (by decide) rfl (Nat.le_of_ble_eq_true rfl) (e_areTenths (by omega) (by omega) (by omega) (by omega) (by omega)) (by decide) (fun r8 h9 => ?_)
      rcases h9 with ⟨rfl, p7⟩ | ⟨rfl, p7⟩
      · refine wp_eq (L' := [(2, 0), (0, w), (0, s), (0, x), (0, y), (0, z), (0, u), (9, 0)]) (st' := [(0, 1)]) (g' := g) ?_
        refine wp_n 14 (pc' := 53) (L' := [(2, 0), (0, w), (0, s), (0, x), (0, y), (0, z), (0, u), (0, (((w * 8) + s) * 4))]) (st' := [(0, x), (0, (((w * 8) + s) * 4)), (2, 4)]) (g' := g) rfl ?_
        refine wp_iast (k := 4) ((32 * w.toNat + 4 * s.toNat)) rfl rfl (by omega) (by omega) (by decide) ?_
        refine wp_n 7 (pc' := 67) (L' := [(2, 0), (0, w), (0, s), (0, x), (0, y), (0, z), (0, u), (0, (((w * 8) + s) * 4))]) (st' := [(0, y), (0, ((((w * 8) + s) * 4) + 1)), (2, 4)]) (g' := (am_up g 4 ((32 * w.toNat + 4 * s.toNat)) x)) rfl ?_
        refine wp_iast (k := 4) ((32 * w.toNat + 4 * s.toNat + 1)) rfl rfl (by omega) (by omega) (by decide) ?_
        refine wp_n 7 (pc' := 81) (L' := [(2, 0), (0, w), (0, s), (0, x), (0, y), (0, z), (0, u), (0, (((w * 8) + s) * 4))]) (st' := [(0, z), (0, ((((w * 8) + s) * 4) + 2)), (2, 4)]) (g' := (am_up (am_up g 4 ((32 * w.toNat + 4 * s.toNat)) x) 4 ((32 * w.toNat + 4 * s.toNat + 1)) y)) rfl ?_
        refine wp_iast (k := 4) ((32 * w.toNat + 4 * s.toNat + 2)) rfl rfl (by omega) (by omega) (by decide) ?_
        refine wp_n 7 (pc' := 95) (L' := [(2, 0), (0, w), (0, s), (0, x), (0, y), (0, z), (0, u), (0, (((w * 8) + s) * 4))]) (st' := [(0, u), (0, ((((w * 8) + s) * 4) + 3)), (2, 4)]) (g' := (am_up (am_up (am_up g 4 ((32 * w.toNat + 4 * s.toNat)) x) 4 ((32 * w.toNat + 4 * s.toNat + 1)) y) 4 ((32 * w.toNat + 4 * s.toNat + 2)) z)) rfl ?_
        refine wp_iast (k := 4) ((32 * w.toNat + 4 * s.toNat + 3)) rfl rfl (by omega) (by omega) (by decide) ?_
        refine wp_n 1 (pc' := 97) (L' := [(2, 0), (0, w), (0, s), (0, x), (0, y), (0, z), (0, u), (0, (((w * 8) + s) * 4))]) (st' := [(0, 1)]) (g' := (am_up (am_up (am_up (am_up g 4 ((32 * w.toNat + 4 * s.toNat)) x) 4 ((32 * w.toNat + 4 * s.toNat + 1)) y) 4 ((32 * w.toNat + 4 * s.toNat + 2)) z) 4 ((32 * w.toNat + 4 * s.toNat + 3)) u)) rfl ?_
        exact wp_ret rfl rfl rfl (Or.inl ⟨by omega, rfl⟩)
      · refine wp_eq (L' := [(2, 0), (0, w), (0, s), (0, x), (0, y), (0, z), (0, u), (9, 0)]) (st' := [(0, 0)]) (g' := g) ?_
        refine wp_n 2 (pc' := 32) (L' := [(2, 0), (0, w), (0, s), (0, x), (0, y), (0, z), (0, u), (9, 0)]) (st' := [(0, 0)]) (g' := g) rfl ?_
        exact wp_ret rfl rfl rfl (Or.inr ⟨by omega, rfl⟩)
    · refine wp_eq (L' := [(2, 0), (0, w), (0, s), (0, x), (0, y), (0, z), (0, u), (9, 0)]) (st' := [(0, 0)]) (g' := g) ?_
      refine wp_n 2 (pc' := 32) (L' := [(2, 0), (0, w), (0, s), (0, x), (0, y), (0, z), (0, u), (9, 0)]) (st' := [(0, 0)]) (g' := g) rfl ?_
      exact wp_ret rfl rfl rfl (Or.inr ⟨by omega, rfl⟩)
  · refine wp_eq (L' := [(2, 0), (0, w), (0, s), (0, x), (0, y), (0, z), (0, u), (9, 0)]) (st' := [(0, 0)]) (g' := g) ?_
    refine wp_n 2 (pc' := 32) (L' := [(2, 0), (0, w), (0, s), (0, x), (0, y), (0, z), (0, u), (9, 0)]) (st' := [(0, 0)]) (g' := g) rfl ?_
    exact wp_ret rfl rfl rfl (Or.inr ⟨by omega, rfl⟩)
set_option maxHeartbeats 400000 in
set_option maxRecDepth 20000 in
theorem m_stud {sn : Nat} {sx : Nat → Int} {b : Nat} {g : am_G} {c : am_G} {P : Nat} {w s x y z u : Int} (h_w : R32 w) (h_s : R32 s) (h_x : R32 x) (h_y : R32 y) (h_z : R32 z) (h_u : R32 u) (hI : CInv P c) (hM : MRel c g) : Ev sn sx 3 157 [(2, 127), (0, w), (0, s), (0, x), (0, y), (0, z), (0, u)] (SH b) g (fun yy => Two b yy (0 ≤ w ∧ w ≤ 3 ∧ 0 ≤ s ∧ s ≤ 7 ∧ 0 ≤ x ∧ x ≤ 10 ∧ 0 ≤ y ∧ y ≤ 10 ∧ 0 ≤ z ∧ z ≤ 10 ∧ 0 ≤ u ∧ u ≤ 10 ∧ x + y + z + u = 10) 1 (am_up (am_up (am_up (am_up g 128 (320 + (32 * w.toNat + 4 * s.toNat)) x) 128 (320 + (32 * w.toNat + 4 * s.toNat + 1)) y) 128 (320 + (32 * w.toNat + 4 * s.toNat + 2)) z) 128 (320 + (32 * w.toNat + 4 * s.toNat + 3)) u) (0) g) := by
  have h5 := hI.ck.1
  have hP : g 127 0 = (P : Int) := hM.n.trans hI.ck.2.1
  refine ev_of (K := 2) T157 (by decide) rfl rfl (Nat.le_of_ble_eq_true rfl) ?_
  refine wp_eq (L' := [(2, 127), (0, w), (0, s), (0, x), (0, y), (0, z), (0, u), (9, 0), (9, 0)]) (st' := []) (g' := g) ?_
  refine wp_n 1 (pc' := 1) (L' := [(2, 127), (0, w), (0, s), (0, x), (0, y), (0, z), (0, u), (9, 0), (9, 0)]) (st' := [(0, x)]) (g' := g) rfl ?_
  refine wp_cs (as := [(0, x)]) (rest := []) rfl (by decide) rfl (Nat.le_of_ble_eq_true rfl) (e_isTenth (by omega)) (by decide) (fun r2 h3 => ?_)
  rcases h3 with ⟨rfl, p1⟩ | ⟨rfl, p1⟩
  · refine wp_eq (L' := [(2, 127), (0, w), (0, s), (0, x), (0, y), (0, z), (0, u), (9, 0), (9, 0)]) (st' := [(0, 1)]) (g' := g) ?_
    refine wp_n 2 (pc' := 9) (L' := [(2, 127), (0, w), (0, s), (0, x), (0, y), (0, z), (0, u), (9, 0), (9, 0)]) (st' := [(0, y)]) (g' := g) rfl ?_
    refine wp_cs (as := [(0, y)]) (rest := []) rfl (by decide) rfl (Nat.le_of_ble_eq_true rfl) (e_isTenth (by omega)) (by decide) (fun r5 h6 => ?_)
    rcases h6 with ⟨rfl, p4⟩ | ⟨rfl, p4⟩
    · refine wp_eq (L' := [(2, 127), (0, w), (0, s), (0, x), (0, y), (0, z), (0, u), (9, 0), (9, 0)]) (st' := [(0, 1)]) (g' := g) ?_
      refine wp_n 2 (pc' := 17) (L' := [(2, 127), (0, w), (0, s), (0, x), (0, y), (0, z), (0, u), (9, 0), (9, 0)]) (st' := [(0, z)]) (g' := g) rfl ?_
      refine wp_cs (as := [(0, z)]) (rest := []) rfl (by decide) rfl (Nat.le_of_ble_eq_true rfl) (e_isTenth (by omega)) (by decide) (fun r8 h9 => ?_)
      rcases h9 with ⟨rfl, p7⟩ | ⟨rfl, p7⟩
      · refine wp_eq (L' := [(2, 127), (0, w), (0, s), (0, x), (0, y), (0, z), (0, u), (9, 0), (9, 0)]) (st' := [(0, 1)]) (g' := g) ?_
        refine wp_n 2 (pc' := 25) (L' := [(2, 127), (0, w), (0, s), (0, x), (0, y), (0, z), (0, u), (9, 0), (9, 0)]) (st' := [(0, u)]) (g' := g) rfl ?_
        refine wp_cs (as := [(0, u)]) (rest := []) rfl (by decide) rfl (Nat.le_of_ble_eq_true rfl) (e_isTenth (by omega)) (by decide) (fun r11 h12 => ?_)
        rcases h12 with ⟨rfl, p10⟩ | ⟨rfl, p10⟩
        · refine wp_eq (L' := [(2, 127), (0, w), (0, s), (0, x), (0, y), (0, z), (0, u), (9, 0), (9, 0)]) (st' := [(0, 1)]) (g' := g) ?_
          refine wp_n 5 (pc' := 39) (L' := [(2, 127), (0, w), (0, s), (0, x), (0, y), (0, z), (0, u), (0, 1), (9, 0)]) (st' := [(0, w)]) (g' := g) rfl ?_
          refine wp_cs (as := [(0, w)]) (rest := []) rfl (by decide) rfl (Nat.le_of_ble_eq_true rfl) (e_MisWheel (by omega)) (by decide) (fun r14 h15 => ?_)
          rcases h15 with ⟨rfl, p13⟩ | ⟨rfl, p13⟩
          · refine wp_eq (L' := [(2, 127), (0, w), (0, s), (0, x), (0, y), (0, z), (0, u), (0, 1), (9, 0)]) (st' := [(0, 1)]) (g' := g) ?_
            refine wp_n 4 (pc' := 49) (L' := [(2, 127), (0, w), (0, s), (0, x), (0, y), (0, z), (0, u), (0, 1), (9, 0)]) (st' := [(0, 7), (0, 0), (0, s)]) (g' := g) rfl ?_
            refine wp_cs (as := [(0, s), (0, 0), (0, 7)]) (rest := []) rfl (by decide) rfl (Nat.le_of_ble_eq_true rfl) (e_isIn (by omega) (by omega) (by omega)) (by decide) (fun r17 h18 => ?_)
            rcases h18 with ⟨rfl, p16⟩ | ⟨rfl, p16⟩
            · refine wp_eq (L' := [(2, 127), (0, w), (0, s), (0, x), (0, y), (0, z), (0, u), (0, 1), (9, 0)]) (st' := [(0, 1)]) (g' := g) ?_
              refine wp_n 11 (pc' := 72) (L' := [(2, 127), (0, w), (0, s), (0, x), (0, y), (0, z), (0, u), (0, 1), (9, 0)]) (st' := [(0, 10), (0, (((x + y) + z) + u))]) (g' := g) rfl ?_
              refine wp_ic_eq rfl (fun c19 => ?_) (fun c19 => ?_)
              · refine wp_n 14 (pc' := 98) (L' := [(2, 127), (0, w), (0, s), (0, x), (0, y), (0, z), (0, u), (0, 1), (0, ((320 + (32 * w)) + (4 * s)))]) (st' := [(0, x), (0, ((320 + (32 * w)) + (4 * s))), (2, 128)]) (g' := g) rfl ?_
                refine wp_iast (k := 128) ((320 + (32 * w.toNat + 4 * s.toNat))) rfl rfl (by omega) (by omega) (by decide) ?_
                refine wp_n 6 (pc' := 109) (L' := [(2, 127), (0, w), (0, s), (0, x), (0, y), (0, z), (0, u), (0, 1), (0, ((320 + (32 * w)) + (4 * s)))]) (st' := [(0, y), (0, (((320 + (32 * w)) + (4 * s)) + 1)), (2, 128)]) (g' := (am_up g 128 ((320 + (32 * w.toNat + 4 * s.toNat))) x)) rfl ?_
                refine wp_iast (k := 128) ((320 + (32 * w.toNat + 4 * s.toNat + 1))) rfl rfl (by omega) (by omega) (by decide) ?_
                refine wp_n 6 (pc' := 120) (L' := [(2, 127), (0, w), (0, s), (0, x), (0, y), (0, z), (0, u), (0, 1), (0, ((320 + (32 * w)) + (4 * s)))]) (st' := [(0, z), (0, (((320 + (32 * w)) + (4 * s)) + 2)), (2, 128)]) (g' := (am_up (am_up g 128 ((320 + (32 * w.toNat + 4 * s.toNat))) x) 128 ((320 + (32 * w.toNat + 4 * s.toNat + 1))) y)) rfl ?_
                refine wp_iast (k := 128) ((320 + (32 * w.toNat + 4 * s.toNat + 2))) rfl rfl (by omega) (by omega) (by decide) ?_
                refine wp_n 6 (pc' := 131) (L' := [(2, 127), (0, w), (0, s), (0, x), (0, y), (0, z), (0, u), (0, 1), (0, ((320 + (32 * w)) + (4 * s)))]) (st' := [(0, u), (0, (((320 + (32 * w)) + (4 * s)) + 3)), (2, 128)]) (g' := (am_up (am_up (am_up g 128 ((320 + (32 * w.toNat + 4 * s.toNat))) x) 128 ((320 + (32 * w.toNat + 4 * s.toNat + 1))) y) 128 ((320 + (32 * w.toNat + 4 * s.toNat + 2))) z)) rfl ?_
                refine wp_iast (k := 128) ((320 + (32 * w.toNat + 4 * s.toNat + 3))) rfl rfl (by omega) (by omega) (by decide) ?_
                refine wp_n 1 (pc' := 133) (L' := [(2, 127), (0, w), (0, s), (0, x), (0, y), (0, z), (0, u), (0, 1), (0, ((320 + (32 * w)) + (4 * s)))]) (st' := [(0, 1)]) (g' := (am_up (am_up (am_up (am_up g 128 ((320 + (32 * w.toNat + 4 * s.toNat))) x) 128 ((320 + (32 * w.toNat + 4 * s.toNat + 1))) y) 128 ((320 + (32 * w.toNat + 4 * s.toNat + 2))) z) 128 ((320 + (32 * w.toNat + 4 * s.toNat + 3))) u)) rfl ?_
                exact wp_ret rfl rfl rfl (Or.inl ⟨by omega, rfl⟩)
              · refine wp_n 1 (pc' := 76) (L' := [(2, 127), (0, w), (0, s), (0, x), (0, y), (0, z), (0, u), (0, 1), (9, 0)]) (st' := [(0, 0)]) (g' := g) rfl ?_
                exact wp_ret rfl rfl rfl (Or.inr ⟨by omega, rfl⟩)
            · refine wp_eq (L' := [(2, 127), (0, w), (0, s), (0, x), (0, y), (0, z), (0, u), (0, 1), (9, 0)]) (st' := [(0, 0)]) (g' := g) ?_
              refine wp_n 2 (pc' := 76) (L' := [(2, 127), (0, w), (0, s), (0, x), (0, y), (0, z), (0, u), (0, 1), (9, 0)]) (st' := [(0, 0)]) (g' := g) rfl ?_
              exact wp_ret rfl rfl rfl (Or.inr ⟨by omega, rfl⟩)
          · refine wp_eq (L' := [(2, 127), (0, w), (0, s), (0, x), (0, y), (0, z), (0, u), (0, 1), (9, 0)]) (st' := [(0, 0)]) (g' := g) ?_
            refine wp_n 2 (pc' := 76) (L' := [(2, 127), (0, w), (0, s), (0, x), (0, y), (0, z), (0, u), (0, 1), (9, 0)]) (st' := [(0, 0)]) (g' := g) rfl ?_
            exact wp_ret rfl rfl rfl (Or.inr ⟨by omega, rfl⟩)
        · refine wp_eq (L' := [(2, 127), (0, w), (0, s), (0, x), (0, y), (0, z), (0, u), (9, 0), (9, 0)]) (st' := [(0, 0)]) (g' := g) ?_
          refine wp_n 4 (pc' := 39) (L' := [(2, 127), (0, w), (0, s), (0, x), (0, y), (0, z), (0, u), (0, 0), (9, 0)]) (st' := [(0, w)]) (g' := g) rfl ?_
          refine wp_cs (as := [(0, w)]) (rest := []) rfl (by decide) rfl (Nat.le_of_ble_eq_true rfl) (e_MisWheel (by omega)) (by decide) (fun r21 h22 => ?_)
          rcases h22 with ⟨rfl, p20⟩ | ⟨rfl, p20⟩
          · refine wp_eq (L' := [(2, 127), (0, w), (0, s), (0, x), (0, y), (0, z), (0, u), (0, 0), (9, 0)]) (st' := [(0, 1)]) (g' := g) ?_
            refine wp_n 4 (pc' := 49) (L' := [(2, 127), (0, w), (0, s), (0, x), (0, y), (0, z), (0, u), (0, 0), (9, 0)]) (st' := [(0, 7), (0, 0), (0, s)]) (g' := g) rfl ?_
            refine wp_cs (as := [(0, s), (0, 0), (0, 7)]) (rest := []) rfl (by decide) rfl (Nat.le_of_ble_eq_true rfl) (e_isIn (by omega) (by omega) (by omega)) (by decide) (fun r24 h25 => ?_)
            rcases h25 with ⟨rfl, p23⟩ | ⟨rfl, p23⟩
            · refine wp_eq (L' := [(2, 127), (0, w), (0, s), (0, x), (0, y), (0, z), (0, u), (0, 0), (9, 0)]) (st' := [(0, 1)]) (g' := g) ?_
              refine wp_n 4 (pc' := 76) (L' := [(2, 127), (0, w), (0, s), (0, x), (0, y), (0, z), (0, u), (0, 0), (9, 0)]) (st' := [(0, 0)]) (g' := g) rfl ?_
              exact wp_ret rfl rfl rfl (Or.inr ⟨by omega, rfl⟩)
            · refine wp_eq (L' := [(2, 127), (0, w), (0, s), (0, x), (0, y), (0, z), (0, u), (0, 0), (9, 0)]) (st' := [(0, 0)]) (g' := g) ?_
              refine wp_n 2 (pc' := 76) (L' := [(2, 127), (0, w), (0, s), (0, x), (0, y), (0, z), (0, u), (0, 0), (9, 0)]) (st' := [(0, 0)]) (g' := g) rfl ?_
              exact wp_ret rfl rfl rfl (Or.inr ⟨by omega, rfl⟩)
          · refine wp_eq (L' := [(2, 127), (0, w), (0, s), (0, x), (0, y), (0, z), (0, u), (0, 0), (9, 0)]) (st' := [(0, 0)]) (g' := g) ?_
            refine wp_n 2 (pc' := 76) (L' := [(2, 127), (0, w), (0, s), (0, x), (0, y), (0, z), (0, u), (0, 0), (9, 0)]) (st' := [(0, 0)]) (g' := g) rfl ?_
            exact wp_ret rfl rfl rfl (Or.inr ⟨by omega, rfl⟩)
      · refine wp_eq (L' := [(2, 127), (0, w), (0, s), (0, x), (0, y), (0, z), (0, u), (9, 0), (9, 0)]) (st' := [(0, 0)]) (g' := g) ?_
        refine wp_n 4 (pc' := 39) (L' := [(2, 127), (0, w), (0, s), (0, x), (0, y), (0, z), (0, u), (0, 0), (9, 0)]) (st' := [(0, w)]) (g' := g) rfl ?_
        refine wp_cs (as := [(0, w)]) (rest := []) rfl (by decide) rfl (Nat.le_of_ble_eq_true rfl) (e_MisWheel (by omega)) (by decide) (fun r27 h28 => ?_)
        rcases h28 with ⟨rfl, p26⟩ | ⟨rfl, p26⟩
        · refine wp_eq (L' := [(2, 127), (0, w), (0, s), (0, x), (0, y), (0, z), (0, u), (0, 0), (9, 0)]) (st' := [(0, 1)]) (g' := g) ?_
          refine wp_n 4 (pc' := 49) (L' := [(2, 127), (0, w), (0, s), (0, x), (0, y), (0, z), (0, u), (0, 0), (9, 0)]) (st' := [(0, 7), (0, 0), (0, s)]) (g' := g) rfl ?_
          refine wp_cs (as := [(0, s), (0, 0), (0, 7)]) (rest := []) rfl (by decide) rfl (Nat.le_of_ble_eq_true rfl) (e_isIn (by omega) (by omega) (by omega)) (by decide) (fun r30 h31 => ?_)
          rcases h31 with ⟨rfl, p29⟩ | ⟨rfl, p29⟩
          · refine wp_eq (L' := [(2, 127), (0, w), (0, s), (0, x), (0, y), (0, z), (0, u), (0, 0), (9, 0)]) (st' := [(0, 1)]) (g' := g) ?_
            refine wp_n 4 (pc' := 76) (L' := [(2, 127), (0, w), (0, s), (0, x), (0, y), (0, z), (0, u), (0, 0), (9, 0)]) (st' := [(0, 0)]) (g' := g) rfl ?_
            exact wp_ret rfl rfl rfl (Or.inr ⟨by omega, rfl⟩)
          · refine wp_eq (L' := [(2, 127), (0, w), (0, s), (0, x), (0, y), (0, z), (0, u), (0, 0), (9, 0)]) (st' := [(0, 0)]) (g' := g) ?_
            refine wp_n 2 (pc' := 76) (L' := [(2, 127), (0, w), (0, s), (0, x), (0, y), (0, z), (0, u), (0, 0), (9, 0)]) (st' := [(0, 0)]) (g' := g) rfl ?_
            exact wp_ret rfl rfl rfl (Or.inr ⟨by omega, rfl⟩)
        · refine wp_eq (L' := [(2, 127), (0, w), (0, s), (0, x), (0, y), (0, z), (0, u), (0, 0), (9, 0)]) (st' := [(0, 0)]) (g' := g) ?_
          refine wp_n 2 (pc' := 76) (L' := [(2, 127), (0, w), (0, s), (0, x), (0, y), (0, z), (0, u), (0, 0), (9, 0)]) (st' := [(0, 0)]) (g' := g) rfl ?_
          exact wp_ret rfl rfl rfl (Or.inr ⟨by omega, rfl⟩)
    · refine wp_eq (L' := [(2, 127), (0, w), (0, s), (0, x), (0, y), (0, z), (0, u), (9, 0), (9, 0)]) (st' := [(0, 0)]) (g' := g) ?_
      refine wp_n 4 (pc' := 39) (L' := [(2, 127), (0, w), (0, s), (0, x), (0, y), (0, z), (0, u), (0, 0), (9, 0)]) (st' := [(0, w)]) (g' := g) rfl ?_
      refine wp_cs (as := [(0, w)]) (rest := []) rfl (by decide) rfl (Nat.le_of_ble_eq_true rfl) (e_MisWheel (by omega)) (by decide) (fun r33 h34 => ?_)
      rcases h34 with ⟨rfl, p32⟩ | ⟨rfl, p32⟩
      · refine wp_eq (L' := [(2, 127), (0, w), (0, s), (0, x), (0, y), (0, z), (0, u), (0, 0), (9, 0)]) (st' := [(0, 1)]) (g' := g) ?_
        refine wp_n 4 (pc' := 49) (L' := [(2, 127), (0, w), (0, s), (0, x), (0, y), (0, z), (0, u), (0, 0), (9, 0)]) (st' := [(0, 7), (0, 0), (0, s)]) (g' := g) rfl ?_
        refine wp_cs (as := [(0, s), (0, 0), (0, 7)]) (rest := []) rfl (by decide) rfl (Nat.le_of_ble_eq_true rfl) (e_isIn (by omega) (by omega) (by omega)) (by decide) (fun r36 h37 => ?_)
        rcases h37 with ⟨rfl, p35⟩ | ⟨rfl, p35⟩
        · refine wp_eq (L' := [(2, 127), (0, w), (0, s), (0, x), (0, y), (0, z), (0, u), (0, 0), (9, 0)]) (st' := [(0, 1)]) (g' := g) ?_
          refine wp_n 4 (pc' := 76) (L' := [(2, 127), (0, w), (0, s), (0, x), (0, y), (0, z), (0, u), (0, 0), (9, 0)]) (st' := [(0, 0)]) (g' := g) rfl ?_
          exact wp_ret rfl rfl rfl (Or.inr ⟨by omega, rfl⟩)
        · refine wp_eq (L' := [(2, 127), (0, w), (0, s), (0, x), (0, y), (0, z), (0, u), (0, 0), (9, 0)]) (st' := [(0, 0)]) (g' := g) ?_
          refine wp_n 2 (pc' := 76) (L' := [(2, 127), (0, w), (0, s), (0, x), (0, y), (0, z), (0, u), (0, 0), (9, 0)]) (st' := [(0, 0)]) (g' := g) rfl ?_
          exact wp_ret rfl rfl rfl (Or.inr ⟨by omega, rfl⟩)
      · refine wp_eq (L' := [(2, 127), (0, w), (0, s), (0, x), (0, y), (0, z), (0, u), (0, 0), (9, 0)]) (st' := [(0, 0)]) (g' := g) ?_
        refine wp_n 2 (pc' := 76) (L' := [(2, 127), (0, w), (0, s), (0, x), (0, y), (0, z), (0, u), (0, 0), (9, 0)]) (st' := [(0, 0)]) (g' := g) rfl ?_
        exact wp_ret rfl rfl rfl (Or.inr ⟨by omega, rfl⟩)
  · refine wp_eq (L' := [(2, 127), (0, w), (0, s), (0, x), (0, y), (0, z), (0, u), (9, 0), (9, 0)]) (st' := [(0, 0)]) (g' := g) ?_
    refine wp_n 4 (pc' := 39) (L' := [(2, 127), (0, w), (0, s), (0, x), (0, y), (0, z), (0, u), (0, 0), (9, 0)]) (st' := [(0, w)]) (g' := g) rfl ?_
    refine wp_cs (as := [(0, w)]) (rest := []) rfl (by decide) rfl (Nat.le_of_ble_eq_true rfl) (e_MisWheel (by omega)) (by decide) (fun r39 h40 => ?_)
    rcases h40 with ⟨rfl, p38⟩ | ⟨rfl, p38⟩
    · refine wp_eq (L' := [(2, 127), (0, w), (0, s), (0, x), (0, y), (0, z), (0, u), (0, 0), (9, 0)]) (st' := [(0, 1)]) (g' := g) ?_
      refine wp_n 4 (pc' := 49) (L' := [(2, 127), (0, w), (0, s), (0, x), (0, y), (0, z), (0, u), (0, 0), (9, 0)]) (st' := [(0, 7), (0, 0), (0, s)]) (g' := g) rfl ?_
      refine wp_cs (as := [(0, s), (0, 0), (0, 7)]) (rest := []) rfl (by decide) rfl (Nat.le_of_ble_eq_true rfl) (e_isIn (by omega) (by omega) (by omega)) (by decide) (fun r42 h43 => ?_)
      rcases h43 with ⟨rfl, p41⟩ | ⟨rfl, p41⟩
      · refine wp_eq (L' := [(2, 127), (0, w), (0, s), (0, x), (0, y), (0, z), (0, u), (0, 0), (9, 0)]) (st' := [(0, 1)]) (g' := g) ?_
        refine wp_n 4 (pc' := 76) (L' := [(2, 127), (0, w), (0, s), (0, x), (0, y), (0, z), (0, u), (0, 0), (9, 0)]) (st' := [(0, 0)]) (g' := g) rfl ?_
        exact wp_ret rfl rfl rfl (Or.inr ⟨by omega, rfl⟩)
      · refine wp_eq (L' := [(2, 127), (0, w), (0, s), (0, x), (0, y), (0, z), (0, u), (0, 0), (9, 0)]) (st' := [(0, 0)]) (g' := g) ?_
        refine wp_n 2 (pc' := 76) (L' := [(2, 127), (0, w), (0, s), (0, x), (0, y), (0, z), (0, u), (0, 0), (9, 0)]) (st' := [(0, 0)]) (g' := g) rfl ?_
        exact wp_ret rfl rfl rfl (Or.inr ⟨by omega, rfl⟩)
    · refine wp_eq (L' := [(2, 127), (0, w), (0, s), (0, x), (0, y), (0, z), (0, u), (0, 0), (9, 0)]) (st' := [(0, 0)]) (g' := g) ?_
      refine wp_n 2 (pc' := 76) (L' := [(2, 127), (0, w), (0, s), (0, x), (0, y), (0, z), (0, u), (0, 0), (9, 0)]) (st' := [(0, 0)]) (g' := g) rfl ?_
      exact wp_ret rfl rfl rfl (Or.inr ⟨by omega, rfl⟩)
def F_stud (P : Nat) (w s x y z u : Int) (c c1 : am_G) (v1 : Int) : Prop := ((0 ≤ w ∧ w ≤ 3 ∧ 0 ≤ s ∧ s ≤ 7 ∧ 0 ≤ x ∧ x ≤ 10 ∧ 0 ≤ y ∧ y ≤ 10 ∧ 0 ≤ z ∧ z ≤ 10 ∧ 0 ≤ u ∧ u ≤ 10 ∧ x + y + z + u = 10) ∧ v1 = 1 ∧ c1 = (am_up (am_up (am_up (am_up c 4 (32 * w.toNat + 4 * s.toNat) x) 4 (32 * w.toNat + 4 * s.toNat + 1) y) 4 (32 * w.toNat + 4 * s.toNat + 2) z) 4 (32 * w.toNat + 4 * s.toNat + 3) u)) ∨ (¬ (0 ≤ w ∧ w ≤ 3 ∧ 0 ≤ s ∧ s ≤ 7 ∧ 0 ≤ x ∧ x ≤ 10 ∧ 0 ≤ y ∧ y ≤ 10 ∧ 0 ≤ z ∧ z ≤ 10 ∧ 0 ≤ u ∧ u ≤ 10 ∧ x + y + z + u = 10) ∧ v1 = 0 ∧ c1 = c)
set_option maxRecDepth 20000 in
theorem C_stud {sn : Nat} {sx : Nat → Int} {b : Nat} {g : am_G} {P : Nat} {w s x y z u : Int} (h_w : R32 w) (h_s : R32 s) (h_x : R32 x) (h_y : R32 y) (h_z : R32 z) (h_u : R32 u) (hI : CInv P g) : Ev sn sx 3 97 [(2, 0), (0, w), (0, s), (0, x), (0, y), (0, z), (0, u)] (SH b) g (CPost P g (F_stud P w s x y z u g)) := (e_stud h_w h_s h_x h_y h_z h_u hI).mono fun r h => by
  rcases h with ⟨hD, rfl⟩ | ⟨hD, rfl⟩
  · have h5 := hI.ck.1
    skip
    refine ⟨_, _, b, rfl, ⟨hI.ck.same fun c j q => by (repeat rw [up_no (by omega)]), ((((hI.rg.up (by unfold Rg; omega) (by omega)).up (by unfold Rg; omega) (by omega)).up (by unfold Rg; omega) (by omega)).up (by unfold Rg; omega) (by omega)), hI.rgi.same fun c j q1 q2 => by (repeat rw [up_no (by omega)]), hI.e24.same fun c j q => by (repeat rw [up_no (by omega)]), hI.e24i.same fun c j q => by (repeat rw [up_no (by omega)]), hI.tx.same fun c j q1 q2 => by (repeat rw [up_no (by omega)]), hI.txi.same fun c j q1 q2 => by (repeat rw [up_no (by omega)]), hI.ti.same fun c j q => by (repeat rw [up_no (by omega)]), hI.tap.same fun c j q => by (repeat rw [up_no (by omega)]), hI.cls.same fun c j q1 q2 => by (repeat rw [up_no (by omega)]), hI.wls.same fun c j q1 q2 => by (repeat rw [up_no (by omega)]), hI.caw.same fun c j q => by (repeat rw [up_no (by omega)]), hI.cal.same fun c j q => by (repeat rw [up_no (by omega)])⟩, fun c j q => by (repeat rw [up_no (by omega)]), Or.inl ⟨hD, rfl, rfl⟩⟩
  · exact ⟨_, _, b, rfl, hI, fun _ _ _ => rfl, Or.inr ⟨hD, rfl, rfl⟩⟩
set_option maxRecDepth 20000 in
theorem M_stud {sn : Nat} {sx : Nat → Int} {b : Nat} {g c : am_G} {P : Nat} {w s x y z u : Int} (h_w : R32 w) (h_s : R32 s) (h_x : R32 x) (h_y : R32 y) (h_z : R32 z) (h_u : R32 u) (hI : CInv P c) (hM : MRel c g) : Ev sn sx 3 157 [(2, 127), (0, w), (0, s), (0, x), (0, y), (0, z), (0, u)] (SH b) g (MPost b g (F_stud P w s x y z u c)) := (m_stud h_w h_s h_x h_y h_z h_u hI hM).mono fun r h => by
  rcases h with ⟨hD, rfl⟩ | ⟨hD, rfl⟩
  · refine ⟨_, _, rfl, fun k j q => by (repeat rw [up_no (by omega)]), fun c1 v1 hE => ?_⟩
    rcases hE with ⟨-, rfl, rfl⟩ | ⟨hn, -, -⟩
    · have h5 := hI.ck.1
      skip
      exact ⟨rfl, ((((hM.up (i := 320 + (32 * w.toNat + 4 * s.toNat)) (k := 4) (j := (32 * w.toNat + 4 * s.toNat)) ((cp_skip _ (by omega) (by omega)).trans (by omega)) ((cj_skip _ (by omega) (by omega)).trans (by omega)) (by omega) (by omega) (by omega)).up (i := 320 + (32 * w.toNat + 4 * s.toNat + 1)) (k := 4) (j := (32 * w.toNat + 4 * s.toNat + 1)) ((cp_skip _ (by omega) (by omega)).trans (by omega)) ((cj_skip _ (by omega) (by omega)).trans (by omega)) (by omega) (by omega) (by omega)).up (i := 320 + (32 * w.toNat + 4 * s.toNat + 2)) (k := 4) (j := (32 * w.toNat + 4 * s.toNat + 2)) ((cp_skip _ (by omega) (by omega)).trans (by omega)) ((cj_skip _ (by omega) (by omega)).trans (by omega)) (by omega) (by omega) (by omega)).up (i := 320 + (32 * w.toNat + 4 * s.toNat + 3)) (k := 4) (j := (32 * w.toNat + 4 * s.toNat + 3)) ((cp_skip _ (by omega) (by omega)).trans (by omega)) ((cj_skip _ (by omega) (by omega)).trans (by omega)) (by omega) (by omega) (by omega))⟩
    · exact absurd hD hn
  · refine ⟨_, _, rfl, fun k j q => rfl, fun c1 v1 hE => ?_⟩
    rcases hE with ⟨hn, -, -⟩ | ⟨-, rfl, rfl⟩
    · exact absurd hn hD
    · exact ⟨rfl, hM⟩
set_option maxHeartbeats 400000 in
set_option maxRecDepth 20000 in
theorem e_tilt {sn : Nat} {sx : Nat → Int} {b : Nat} {g : am_G} {P : Nat} {w v : Int} (h_w : R32 w) (h_v : R32 v) (hI : CInv P g) : Ev sn sx 3 98 [(2, 0), (0, w), (0, v)] (SH b) g (fun yy => Two b yy (0 ≤ w ∧ w ≤ 3 ∧ 0 ≤ v ∧ v ≤ 99) 1 (am_up g 5 w.toNat v) (0) g) := by
  have hP := hI.ck.2.1
  have h5 := hI.ck.1
  refine ev_of (K := 2) T98 (by decide) rfl rfl (Nat.le_of_ble_eq_true rfl) ?_
  refine wp_eq (L' := [(2, 0), (0, w), (0, v)]) (st' := []) (g' := g) ?_
  refine wp_n 1 (pc' := 1) (L' := [(2, 0), (0, w), (0, v)]) (st' := [(0, w)]) (g' := g) rfl ?_
  refine wp_cs (as := [(0, w)]) (rest := []) rfl (by decide) rfl (Nat.le_of_ble_eq_true rfl) (e_isWheel (by omega)) (by decide) (fun r2 h3 => ?_)
  rcases h3 with ⟨rfl, p1⟩ | ⟨rfl, p1⟩
  · refine wp_eq (L' := [(2, 0), (0, w), (0, v)]) (st' := [(0, 1)]) (g' := g) ?_
    refine wp_n 4 (pc' := 11) (L' := [(2, 0), (0, w), (0, v)]) (st' := [(0, 99), (0, 0), (0, v)]) (g' := g) rfl ?_
    refine wp_cs (as := [(0, v), (0, 0), (0, 99)]) (rest := []) rfl (by decide) rfl (Nat.le_of_ble_eq_true rfl) (e_within (by omega) (by omega) (by omega)) (by decide) (fun r5 h6 => ?_)
    rcases h6 with ⟨rfl, p4⟩ | ⟨rfl, p4⟩
    · refine wp_eq (L' := [(2, 0), (0, w), (0, v)]) (st' := [(0, 1)]) (g' := g) ?_
      refine wp_n 6 (pc' := 28) (L' := [(2, 0), (0, w), (0, v)]) (st' := [(0, v), (0, w), (2, 5)]) (g' := g) rfl ?_
      refine wp_iast (k := 5) (w.toNat) rfl rfl (by omega) (by omega) (by decide) ?_
      refine wp_n 1 (pc' := 30) (L' := [(2, 0), (0, w), (0, v)]) (st' := [(0, 1)]) (g' := (am_up g 5 (w.toNat) v)) rfl ?_
      exact wp_ret rfl rfl rfl (Or.inl ⟨by omega, rfl⟩)
    · refine wp_eq (L' := [(2, 0), (0, w), (0, v)]) (st' := [(0, 0)]) (g' := g) ?_
      refine wp_n 2 (pc' := 18) (L' := [(2, 0), (0, w), (0, v)]) (st' := [(0, 0)]) (g' := g) rfl ?_
      exact wp_ret rfl rfl rfl (Or.inr ⟨by omega, rfl⟩)
  · refine wp_eq (L' := [(2, 0), (0, w), (0, v)]) (st' := [(0, 0)]) (g' := g) ?_
    refine wp_n 2 (pc' := 18) (L' := [(2, 0), (0, w), (0, v)]) (st' := [(0, 0)]) (g' := g) rfl ?_
    exact wp_ret rfl rfl rfl (Or.inr ⟨by omega, rfl⟩)
set_option maxHeartbeats 400000 in
set_option maxRecDepth 20000 in
theorem m_tilt {sn : Nat} {sx : Nat → Int} {b : Nat} {g : am_G} {c : am_G} {P : Nat} {w v : Int} (h_w : R32 w) (h_v : R32 v) (hI : CInv P c) (hM : MRel c g) : Ev sn sx 3 158 [(2, 127), (0, w), (0, v)] (SH b) g (fun yy => Two b yy (0 ≤ w ∧ w ≤ 3 ∧ 0 ≤ v ∧ v ≤ 99) 1 (am_up g 128 (450 + w.toNat) v) (0) g) := by
  have h5 := hI.ck.1
  have hP : g 127 0 = (P : Int) := hM.n.trans hI.ck.2.1
  refine ev_of (K := 2) T158 (by decide) rfl rfl (Nat.le_of_ble_eq_true rfl) ?_
  refine wp_eq (L' := [(2, 127), (0, w), (0, v)]) (st' := []) (g' := g) ?_
  refine wp_n 1 (pc' := 1) (L' := [(2, 127), (0, w), (0, v)]) (st' := [(0, w)]) (g' := g) rfl ?_
  refine wp_cs (as := [(0, w)]) (rest := []) rfl (by decide) rfl (Nat.le_of_ble_eq_true rfl) (e_MisWheel (by omega)) (by decide) (fun r2 h3 => ?_)
  rcases h3 with ⟨rfl, p1⟩ | ⟨rfl, p1⟩
  · refine wp_eq (L' := [(2, 127), (0, w), (0, v)]) (st' := [(0, 1)]) (g' := g) ?_
    refine wp_n 4 (pc' := 11) (L' := [(2, 127), (0, w), (0, v)]) (st' := [(0, 99), (0, 0), (0, v)]) (g' := g) rfl ?_
    refine wp_cs (as := [(0, v), (0, 0), (0, 99)]) (rest := []) rfl (by decide) rfl (Nat.le_of_ble_eq_true rfl) (e_isIn (by omega) (by omega) (by omega)) (by decide) (fun r5 h6 => ?_)
    rcases h6 with ⟨rfl, p4⟩ | ⟨rfl, p4⟩
    · refine wp_eq (L' := [(2, 127), (0, w), (0, v)]) (st' := [(0, 1)]) (g' := g) ?_
      refine wp_n 7 (pc' := 29) (L' := [(2, 127), (0, w), (0, v)]) (st' := [(0, v), (0, (450 + w)), (2, 128)]) (g' := g) rfl ?_
      refine wp_iast (k := 128) ((450 + w.toNat)) rfl rfl (by omega) (by omega) (by decide) ?_
      refine wp_n 1 (pc' := 31) (L' := [(2, 127), (0, w), (0, v)]) (st' := [(0, 1)]) (g' := (am_up g 128 ((450 + w.toNat)) v)) rfl ?_
      exact wp_ret rfl rfl rfl (Or.inl ⟨by omega, rfl⟩)
    · refine wp_eq (L' := [(2, 127), (0, w), (0, v)]) (st' := [(0, 0)]) (g' := g) ?_
      refine wp_n 2 (pc' := 18) (L' := [(2, 127), (0, w), (0, v)]) (st' := [(0, 0)]) (g' := g) rfl ?_
      exact wp_ret rfl rfl rfl (Or.inr ⟨by omega, rfl⟩)
  · refine wp_eq (L' := [(2, 127), (0, w), (0, v)]) (st' := [(0, 0)]) (g' := g) ?_
    refine wp_n 2 (pc' := 18) (L' := [(2, 127), (0, w), (0, v)]) (st' := [(0, 0)]) (g' := g) rfl ?_
    exact wp_ret rfl rfl rfl (Or.inr ⟨by omega, rfl⟩)
def F_tilt (P : Nat) (w v : Int) (c c1 : am_G) (v1 : Int) : Prop := ((0 ≤ w ∧ w ≤ 3 ∧ 0 ≤ v ∧ v ≤ 99) ∧ v1 = 1 ∧ c1 = (am_up c 5 w.toNat v)) ∨ (¬ (0 ≤ w ∧ w ≤ 3 ∧ 0 ≤ v ∧ v ≤ 99) ∧ v1 = 0 ∧ c1 = c)
set_option maxRecDepth 20000 in
theorem C_tilt {sn : Nat} {sx : Nat → Int} {b : Nat} {g : am_G} {P : Nat} {w v : Int} (h_w : R32 w) (h_v : R32 v) (hI : CInv P g) : Ev sn sx 3 98 [(2, 0), (0, w), (0, v)] (SH b) g (CPost P g (F_tilt P w v g)) := (e_tilt h_w h_v hI).mono fun r h => by
  rcases h with ⟨hD, rfl⟩ | ⟨hD, rfl⟩
  · have h5 := hI.ck.1
    skip
    refine ⟨_, _, b, rfl, ⟨hI.ck.same fun c j q => by (repeat rw [up_no (by omega)]), (hI.rg.up (by unfold Rg; omega) (by omega)), hI.rgi.same fun c j q1 q2 => by (repeat rw [up_no (by omega)]), hI.e24.same fun c j q => by (repeat rw [up_no (by omega)]), hI.e24i.same fun c j q => by (repeat rw [up_no (by omega)]), hI.tx.same fun c j q1 q2 => by (repeat rw [up_no (by omega)]), hI.txi.same fun c j q1 q2 => by (repeat rw [up_no (by omega)]), hI.ti.same fun c j q => by (repeat rw [up_no (by omega)]), hI.tap.same fun c j q => by (repeat rw [up_no (by omega)]), hI.cls.same fun c j q1 q2 => by (repeat rw [up_no (by omega)]), hI.wls.same fun c j q1 q2 => by (repeat rw [up_no (by omega)]), hI.caw.same fun c j q => by (repeat rw [up_no (by omega)]), hI.cal.same fun c j q => by (repeat rw [up_no (by omega)])⟩, fun c j q => by (repeat rw [up_no (by omega)]), Or.inl ⟨hD, rfl, rfl⟩⟩
  · exact ⟨_, _, b, rfl, hI, fun _ _ _ => rfl, Or.inr ⟨hD, rfl, rfl⟩⟩
set_option maxRecDepth 20000 in
theorem M_tilt {sn : Nat} {sx : Nat → Int} {b : Nat} {g c : am_G} {P : Nat} {w v : Int} (h_w : R32 w) (h_v : R32 v) (hI : CInv P c) (hM : MRel c g) : Ev sn sx 3 158 [(2, 127), (0, w), (0, v)] (SH b) g (MPost b g (F_tilt P w v c)) := (m_tilt h_w h_v hI hM).mono fun r h => by
  rcases h with ⟨hD, rfl⟩ | ⟨hD, rfl⟩
  · refine ⟨_, _, rfl, fun k j q => by (repeat rw [up_no (by omega)]), fun c1 v1 hE => ?_⟩
    rcases hE with ⟨-, rfl, rfl⟩ | ⟨hn, -, -⟩
    · have h5 := hI.ck.1
      skip
      exact ⟨rfl, (hM.up (i := 450 + w.toNat) (k := 5) (j := w.toNat) ((cp_tilt _ (by omega) (by omega)).trans (by omega)) ((cj_tilt _ (by omega) (by omega)).trans (by omega)) (by omega) (by omega) (by omega))⟩
    · exact absurd hD hn
  · refine ⟨_, _, rfl, fun k j q => rfl, fun c1 v1 hE => ?_⟩
    rcases hE with ⟨hn, -, -⟩ | ⟨-, rfl, rfl⟩
    · exact absurd hn hD
    · exact ⟨rfl, hM⟩
set_option maxHeartbeats 400000 in
set_option maxRecDepth 20000 in
theorem e_late {sn : Nat} {sx : Nat → Int} {b : Nat} {g : am_G} {P : Nat} {x y z u v : Int} (h_x : R32 x) (h_y : R32 y) (h_z : R32 z) (h_u : R32 u) (h_v : R32 v) (hI : CInv P g) : Ev sn sx 3 99 [(2, 0), (0, x), (0, y), (0, z), (0, u), (0, v)] (SH b) g (fun yy => Two b yy (0 ≤ x ∧ x ≤ 10 ∧ 0 ≤ y ∧ y ≤ 10 ∧ 0 ≤ z ∧ z ≤ 10 ∧ 0 ≤ u ∧ u ≤ 10 ∧ 0 ≤ v ∧ v ≤ 10 ∧ x + y + z + u + v = 10) 1 (am_up (am_up (am_up (am_up (am_up g 23 0 x) 23 1 y) 23 2 z) 23 3 u) 23 4 v) (0) g) := by
  have hP := hI.ck.2.1
  have h5 := hI.ck.1
  refine ev_of (K := 2) T99 (by decide) rfl rfl (Nat.le_of_ble_eq_true rfl) ?_
  refine wp_eq (L' := [(2, 0), (0, x), (0, y), (0, z), (0, u), (0, v)]) (st' := []) (g' := g) ?_
  refine wp_n 5 (pc' := 7) (L' := [(2, 0), (0, x), (0, y), (0, z), (0, u), (0, v)]) (st' := [(0, v), (0, u), (0, z), (0, y), (0, x)]) (g' := g) rfl ?_
  refine wp_cs (as := [(0, x), (0, y), (0, z), (0, u), (0, v)]) (rest := []) rfl (by decide) rfl (Nat.le_of_ble_eq_true rfl) (e_areTenths (by omega) (by omega) (by omega) (by omega) (by omega)) (by decide) (fun r2 h3 => ?_)
  rcases h3 with ⟨rfl, p1⟩ | ⟨rfl, p1⟩
  · refine wp_eq (L' := [(2, 0), (0, x), (0, y), (0, z), (0, u), (0, v)]) (st' := [(0, 1)]) (g' := g) ?_
    refine wp_n 6 (pc' := 24) (L' := [(2, 0), (0, x), (0, y), (0, z), (0, u), (0, v)]) (st' := [(0, x), (0, 0), (2, 23)]) (g' := g) rfl ?_
    refine wp_iast (k := 23) (0) rfl rfl (by omega) (by omega) (by decide) ?_
    refine wp_n 5 (pc' := 34) (L' := [(2, 0), (0, x), (0, y), (0, z), (0, u), (0, v)]) (st' := [(0, y), (0, 1), (2, 23)]) (g' := (am_up g 23 0 x)) rfl ?_
    refine wp_iast (k := 23) (1) rfl rfl (by omega) (by omega) (by decide) ?_
    refine wp_n 5 (pc' := 44) (L' := [(2, 0), (0, x), (0, y), (0, z), (0, u), (0, v)]) (st' := [(0, z), (0, 2), (2, 23)]) (g' := (am_up (am_up g 23 0 x) 23 1 y)) rfl ?_
    refine wp_iast (k := 23) (2) rfl rfl (by omega) (by omega) (by decide) ?_
    refine wp_n 5 (pc' := 55) (L' := [(2, 0), (0, x), (0, y), (0, z), (0, u), (0, v)]) (st' := [(0, u), (0, 3), (2, 23)]) (g' := (am_up (am_up (am_up g 23 0 x) 23 1 y) 23 2 z)) rfl ?_
    refine wp_iast (k := 23) (3) rfl rfl (by omega) (by omega) (by decide) ?_
    refine wp_n 5 (pc' := 66) (L' := [(2, 0), (0, x), (0, y), (0, z), (0, u), (0, v)]) (st' := [(0, v), (0, 4), (2, 23)]) (g' := (am_up (am_up (am_up (am_up g 23 0 x) 23 1 y) 23 2 z) 23 3 u)) rfl ?_
    refine wp_iast (k := 23) (4) rfl rfl (by omega) (by omega) (by decide) ?_
    refine wp_n 1 (pc' := 68) (L' := [(2, 0), (0, x), (0, y), (0, z), (0, u), (0, v)]) (st' := [(0, 1)]) (g' := (am_up (am_up (am_up (am_up (am_up g 23 0 x) 23 1 y) 23 2 z) 23 3 u) 23 4 v)) rfl ?_
    exact wp_ret rfl rfl rfl (Or.inl ⟨by omega, rfl⟩)
  · refine wp_eq (L' := [(2, 0), (0, x), (0, y), (0, z), (0, u), (0, v)]) (st' := [(0, 0)]) (g' := g) ?_
    refine wp_n 2 (pc' := 14) (L' := [(2, 0), (0, x), (0, y), (0, z), (0, u), (0, v)]) (st' := [(0, 0)]) (g' := g) rfl ?_
    exact wp_ret rfl rfl rfl (Or.inr ⟨by omega, rfl⟩)
set_option maxHeartbeats 400000 in
set_option maxRecDepth 20000 in
theorem m_late {sn : Nat} {sx : Nat → Int} {b : Nat} {g : am_G} {c : am_G} {P : Nat} {x y z u v : Int} (h_x : R32 x) (h_y : R32 y) (h_z : R32 z) (h_u : R32 u) (h_v : R32 v) (hI : CInv P c) (hM : MRel c g) : Ev sn sx 3 159 [(2, 127), (0, x), (0, y), (0, z), (0, u), (0, v)] (SH b) g (fun yy => Two b yy (0 ≤ x ∧ x ≤ 10 ∧ 0 ≤ y ∧ y ≤ 10 ∧ 0 ≤ z ∧ z ≤ 10 ∧ 0 ≤ u ∧ u ≤ 10 ∧ 0 ≤ v ∧ v ≤ 10 ∧ x + y + z + u + v = 10) 1 (am_up (am_up (am_up (am_up (am_up g 128 6 x) 128 7 y) 128 8 z) 128 9 u) 128 10 v) (0) g) := by
  have h5 := hI.ck.1
  have hP : g 127 0 = (P : Int) := hM.n.trans hI.ck.2.1
  refine ev_of (K := 2) T159 (by decide) rfl rfl (Nat.le_of_ble_eq_true rfl) ?_
  refine wp_eq (L' := [(2, 127), (0, x), (0, y), (0, z), (0, u), (0, v), (9, 0)]) (st' := []) (g' := g) ?_
  refine wp_n 1 (pc' := 1) (L' := [(2, 127), (0, x), (0, y), (0, z), (0, u), (0, v), (9, 0)]) (st' := [(0, x)]) (g' := g) rfl ?_
  refine wp_cs (as := [(0, x)]) (rest := []) rfl (by decide) rfl (Nat.le_of_ble_eq_true rfl) (e_isTenth (by omega)) (by decide) (fun r2 h3 => ?_)
  rcases h3 with ⟨rfl, p1⟩ | ⟨rfl, p1⟩
  · refine wp_eq (L' := [(2, 127), (0, x), (0, y), (0, z), (0, u), (0, v), (9, 0)]) (st' := [(0, 1)]) (g' := g) ?_
    refine wp_n 2 (pc' := 8) (L' := [(2, 127), (0, x), (0, y), (0, z), (0, u), (0, v), (9, 0)]) (st' := [(0, y)]) (g' := g) rfl ?_
    refine wp_cs (as := [(0, y)]) (rest := []) rfl (by decide) rfl (Nat.le_of_ble_eq_true rfl) (e_isTenth (by omega)) (by decide) (fun r5 h6 => ?_)
    rcases h6 with ⟨rfl, p4⟩ | ⟨rfl, p4⟩
    · refine wp_eq (L' := [(2, 127), (0, x), (0, y), (0, z), (0, u), (0, v), (9, 0)]) (st' := [(0, 1)]) (g' := g) ?_
      refine wp_n 2 (pc' := 15) (L' := [(2, 127), (0, x), (0, y), (0, z), (0, u), (0, v), (9, 0)]) (st' := [(0, z)]) (g' := g) rfl ?_
      refine wp_cs (as := [(0, z)]) (rest := []) rfl (by decide) rfl (Nat.le_of_ble_eq_true rfl) (e_isTenth (by omega)) (by decide) (fun r8 h9 => ?_)
      rcases h9 with ⟨rfl, p7⟩ | ⟨rfl, p7⟩
      · refine wp_eq (L' := [(2, 127), (0, x), (0, y), (0, z), (0, u), (0, v), (9, 0)]) (st' := [(0, 1)]) (g' := g) ?_
        refine wp_n 2 (pc' := 23) (L' := [(2, 127), (0, x), (0, y), (0, z), (0, u), (0, v), (9, 0)]) (st' := [(0, u)]) (g' := g) rfl ?_
        refine wp_cs (as := [(0, u)]) (rest := []) rfl (by decide) rfl (Nat.le_of_ble_eq_true rfl) (e_isTenth (by omega)) (by decide) (fun r11 h12 => ?_)
        rcases h12 with ⟨rfl, p10⟩ | ⟨rfl, p10⟩
        · refine wp_eq (L' := [(2, 127), (0, x), (0, y), (0, z), (0, u), (0, v), (9, 0)]) (st' := [(0, 1)]) (g' := g) ?_
          refine wp_n 2 (pc' := 31) (L' := [(2, 127), (0, x), (0, y), (0, z), (0, u), (0, v), (9, 0)]) (st' := [(0, v)]) (g' := g) rfl ?_
          refine wp_cs (as := [(0, v)]) (rest := []) rfl (by decide) rfl (Nat.le_of_ble_eq_true rfl) (e_isTenth (by omega)) (by decide) (fun r14 h15 => ?_)
          rcases h15 with ⟨rfl, p13⟩ | ⟨rfl, p13⟩
          · refine wp_eq (L' := [(2, 127), (0, x), (0, y), (0, z), (0, u), (0, v), (9, 0)]) (st' := [(0, 1)]) (g' := g) ?_
            refine wp_n 16 (pc' := 62) (L' := [(2, 127), (0, x), (0, y), (0, z), (0, u), (0, v), (0, 1)]) (st' := [(0, 10), (0, ((((x + y) + z) + u) + v))]) (g' := g) rfl ?_
            refine wp_ic_eq rfl (fun c16 => ?_) (fun c16 => ?_)
            · refine wp_n 4 (pc' := 74) (L' := [(2, 127), (0, x), (0, y), (0, z), (0, u), (0, v), (0, 1)]) (st' := [(0, x), (0, 6), (2, 128)]) (g' := g) rfl ?_
              refine wp_iast (k := 128) (6) rfl rfl (by omega) (by omega) (by decide) ?_
              refine wp_n 4 (pc' := 82) (L' := [(2, 127), (0, x), (0, y), (0, z), (0, u), (0, v), (0, 1)]) (st' := [(0, y), (0, 7), (2, 128)]) (g' := (am_up g 128 6 x)) rfl ?_
              refine wp_iast (k := 128) (7) rfl rfl (by omega) (by omega) (by decide) ?_
              refine wp_n 4 (pc' := 90) (L' := [(2, 127), (0, x), (0, y), (0, z), (0, u), (0, v), (0, 1)]) (st' := [(0, z), (0, 8), (2, 128)]) (g' := (am_up (am_up g 128 6 x) 128 7 y)) rfl ?_
              refine wp_iast (k := 128) (8) rfl rfl (by omega) (by omega) (by decide) ?_
              refine wp_n 4 (pc' := 99) (L' := [(2, 127), (0, x), (0, y), (0, z), (0, u), (0, v), (0, 1)]) (st' := [(0, u), (0, 9), (2, 128)]) (g' := (am_up (am_up (am_up g 128 6 x) 128 7 y) 128 8 z)) rfl ?_
              refine wp_iast (k := 128) (9) rfl rfl (by omega) (by omega) (by decide) ?_
              refine wp_n 4 (pc' := 108) (L' := [(2, 127), (0, x), (0, y), (0, z), (0, u), (0, v), (0, 1)]) (st' := [(0, v), (0, 10), (2, 128)]) (g' := (am_up (am_up (am_up (am_up g 128 6 x) 128 7 y) 128 8 z) 128 9 u)) rfl ?_
              refine wp_iast (k := 128) (10) rfl rfl (by omega) (by omega) (by decide) ?_
              refine wp_n 1 (pc' := 110) (L' := [(2, 127), (0, x), (0, y), (0, z), (0, u), (0, v), (0, 1)]) (st' := [(0, 1)]) (g' := (am_up (am_up (am_up (am_up (am_up g 128 6 x) 128 7 y) 128 8 z) 128 9 u) 128 10 v)) rfl ?_
              exact wp_ret rfl rfl rfl (Or.inl ⟨by omega, rfl⟩)
            · refine wp_n 1 (pc' := 66) (L' := [(2, 127), (0, x), (0, y), (0, z), (0, u), (0, v), (0, 1)]) (st' := [(0, 0)]) (g' := g) rfl ?_
              exact wp_ret rfl rfl rfl (Or.inr ⟨by omega, rfl⟩)
          · refine wp_eq (L' := [(2, 127), (0, x), (0, y), (0, z), (0, u), (0, v), (9, 0)]) (st' := [(0, 0)]) (g' := g) ?_
            refine wp_n 6 (pc' := 66) (L' := [(2, 127), (0, x), (0, y), (0, z), (0, u), (0, v), (0, 0)]) (st' := [(0, 0)]) (g' := g) rfl ?_
            exact wp_ret rfl rfl rfl (Or.inr ⟨by omega, rfl⟩)
        · refine wp_eq (L' := [(2, 127), (0, x), (0, y), (0, z), (0, u), (0, v), (9, 0)]) (st' := [(0, 0)]) (g' := g) ?_
          refine wp_n 6 (pc' := 66) (L' := [(2, 127), (0, x), (0, y), (0, z), (0, u), (0, v), (0, 0)]) (st' := [(0, 0)]) (g' := g) rfl ?_
          exact wp_ret rfl rfl rfl (Or.inr ⟨by omega, rfl⟩)
      · refine wp_eq (L' := [(2, 127), (0, x), (0, y), (0, z), (0, u), (0, v), (9, 0)]) (st' := [(0, 0)]) (g' := g) ?_
        refine wp_n 6 (pc' := 66) (L' := [(2, 127), (0, x), (0, y), (0, z), (0, u), (0, v), (0, 0)]) (st' := [(0, 0)]) (g' := g) rfl ?_
        exact wp_ret rfl rfl rfl (Or.inr ⟨by omega, rfl⟩)
    · refine wp_eq (L' := [(2, 127), (0, x), (0, y), (0, z), (0, u), (0, v), (9, 0)]) (st' := [(0, 0)]) (g' := g) ?_
      refine wp_n 6 (pc' := 66) (L' := [(2, 127), (0, x), (0, y), (0, z), (0, u), (0, v), (0, 0)]) (st' := [(0, 0)]) (g' := g) rfl ?_
      exact wp_ret rfl rfl rfl (Or.inr ⟨by omega, rfl⟩)
  · refine wp_eq (L' := [(2, 127), (0, x), (0, y), (0, z), (0, u), (0, v), (9, 0)]) (st' := [(0, 0)]) (g' := g) ?_
    refine wp_n 6 (pc' := 66) (L' := [(2, 127), (0, x), (0, y), (0, z), (0, u), (0, v), (0, 0)]) (st' := [(0, 0)]) (g' := g) rfl ?_
    exact wp_ret rfl rfl rfl (Or.inr ⟨by omega, rfl⟩)
def F_late (P : Nat) (x y z u v : Int) (c c1 : am_G) (v1 : Int) : Prop := ((0 ≤ x ∧ x ≤ 10 ∧ 0 ≤ y ∧ y ≤ 10 ∧ 0 ≤ z ∧ z ≤ 10 ∧ 0 ≤ u ∧ u ≤ 10 ∧ 0 ≤ v ∧ v ≤ 10 ∧ x + y + z + u + v = 10) ∧ v1 = 1 ∧ c1 = (am_up (am_up (am_up (am_up (am_up c 23 0 x) 23 1 y) 23 2 z) 23 3 u) 23 4 v)) ∨ (¬ (0 ≤ x ∧ x ≤ 10 ∧ 0 ≤ y ∧ y ≤ 10 ∧ 0 ≤ z ∧ z ≤ 10 ∧ 0 ≤ u ∧ u ≤ 10 ∧ 0 ≤ v ∧ v ≤ 10 ∧ x + y + z + u + v = 10) ∧ v1 = 0 ∧ c1 = c)
set_option maxRecDepth 20000 in
theorem C_late {sn : Nat} {sx : Nat → Int} {b : Nat} {g : am_G} {P : Nat} {x y z u v : Int} (h_x : R32 x) (h_y : R32 y) (h_z : R32 z) (h_u : R32 u) (h_v : R32 v) (hI : CInv P g) : Ev sn sx 3 99 [(2, 0), (0, x), (0, y), (0, z), (0, u), (0, v)] (SH b) g (CPost P g (F_late P x y z u v g)) := (e_late h_x h_y h_z h_u h_v hI).mono fun r h => by
  rcases h with ⟨hD, rfl⟩ | ⟨hD, rfl⟩
  · have h5 := hI.ck.1
    skip
    refine ⟨_, _, b, rfl, ⟨hI.ck.same fun c j q => by (repeat rw [up_no (by omega)]), (((((hI.rg.up (by unfold Rg; omega) (by omega)).up (by unfold Rg; omega) (by omega)).up (by unfold Rg; omega) (by omega)).up (by unfold Rg; omega) (by omega)).up (by unfold Rg; omega) (by omega)), hI.rgi.same fun c j q1 q2 => by (repeat rw [up_no (by omega)]), hI.e24.same fun c j q => by (repeat rw [up_no (by omega)]), hI.e24i.same fun c j q => by (repeat rw [up_no (by omega)]), hI.tx.same fun c j q1 q2 => by (repeat rw [up_no (by omega)]), hI.txi.same fun c j q1 q2 => by (repeat rw [up_no (by omega)]), hI.ti.same fun c j q => by (repeat rw [up_no (by omega)]), hI.tap.same fun c j q => by (repeat rw [up_no (by omega)]), hI.cls.same fun c j q1 q2 => by (repeat rw [up_no (by omega)]), hI.wls.same fun c j q1 q2 => by (repeat rw [up_no (by omega)]), hI.caw.same fun c j q => by (repeat rw [up_no (by omega)]), hI.cal.same fun c j q => by (repeat rw [up_no (by omega)])⟩, fun c j q => by (repeat rw [up_no (by omega)]), Or.inl ⟨hD, rfl, rfl⟩⟩
  · exact ⟨_, _, b, rfl, hI, fun _ _ _ => rfl, Or.inr ⟨hD, rfl, rfl⟩⟩
set_option maxRecDepth 20000 in
theorem M_late {sn : Nat} {sx : Nat → Int} {b : Nat} {g c : am_G} {P : Nat} {x y z u v : Int} (h_x : R32 x) (h_y : R32 y) (h_z : R32 z) (h_u : R32 u) (h_v : R32 v) (hI : CInv P c) (hM : MRel c g) : Ev sn sx 3 159 [(2, 127), (0, x), (0, y), (0, z), (0, u), (0, v)] (SH b) g (MPost b g (F_late P x y z u v c)) := (m_late h_x h_y h_z h_u h_v hI hM).mono fun r h => by
  rcases h with ⟨hD, rfl⟩ | ⟨hD, rfl⟩
  · refine ⟨_, _, rfl, fun k j q => by (repeat rw [up_no (by omega)]), fun c1 v1 hE => ?_⟩
    rcases hE with ⟨-, rfl, rfl⟩ | ⟨hn, -, -⟩
    · have h5 := hI.ck.1
      skip
      exact ⟨rfl, (((((hM.up (i := 6) (k := 23) (j := 0) ((cp_late _ (by omega) (by omega)).trans (by omega)) ((cj_late _ (by omega) (by omega)).trans (by omega)) (by omega) (by omega) (by omega)).up (i := 7) (k := 23) (j := 1) ((cp_late _ (by omega) (by omega)).trans (by omega)) ((cj_late _ (by omega) (by omega)).trans (by omega)) (by omega) (by omega) (by omega)).up (i := 8) (k := 23) (j := 2) ((cp_late _ (by omega) (by omega)).trans (by omega)) ((cj_late _ (by omega) (by omega)).trans (by omega)) (by omega) (by omega) (by omega)).up (i := 9) (k := 23) (j := 3) ((cp_late _ (by omega) (by omega)).trans (by omega)) ((cj_late _ (by omega) (by omega)).trans (by omega)) (by omega) (by omega) (by omega)).up (i := 10) (k := 23) (j := 4) ((cp_late _ (by omega) (by omega)).trans (by omega)) ((cj_late _ (by omega) (by omega)).trans (by omega)) (by omega) (by omega) (by omega))⟩
    · exact absurd hD hn
  · refine ⟨_, _, rfl, fun k j q => rfl, fun c1 v1 hE => ?_⟩
    rcases hE with ⟨hn, -, -⟩ | ⟨-, rfl, rfl⟩
    · exact absurd hn hD
    · exact ⟨rfl, hM⟩
set_option maxHeartbeats 400000 in
set_option maxRecDepth 20000 in
theorem e_pays {sn : Nat} {sx : Nat → Int} {b : Nat} {g : am_G} {P : Nat} {v : Int} (h_v : R32 v) (hI : CInv P g) : Ev sn sx 2 100 [(2, 0), (0, v)] (SH b) g (fun yy => Two b yy (1 ≤ v ∧ v ≤ 99) 1 (am_up g 10 16 v) (0) g) := by
  have hP := hI.ck.2.1
  have h5 := hI.ck.1
  refine ev_of (K := 1) T100 (by decide) rfl rfl (Nat.le_of_ble_eq_true rfl) ?_
  refine wp_eq (L' := [(2, 0), (0, v)]) (st' := []) (g' := g) ?_
  refine wp_n 3 (pc' := 4) (L' := [(2, 0), (0, v)]) (st' := [(0, 99), (0, 1), (0, v)]) (g' := g) rfl ?_
  refine wp_cs (as := [(0, v), (0, 1), (0, 99)]) (rest := []) rfl (by decide) rfl (Nat.le_of_ble_eq_true rfl) (e_within (by omega) (by omega) (by omega)) (by decide) (fun r2 h3 => ?_)
  rcases h3 with ⟨rfl, p1⟩ | ⟨rfl, p1⟩
  · refine wp_eq (L' := [(2, 0), (0, v)]) (st' := [(0, 1)]) (g' := g) ?_
    refine wp_n 6 (pc' := 21) (L' := [(2, 0), (0, v)]) (st' := [(0, 1)]) (g' := (am_up g 10 16 v)) rfl ?_
    exact wp_ret rfl rfl rfl (Or.inl ⟨by omega, rfl⟩)
  · refine wp_eq (L' := [(2, 0), (0, v)]) (st' := [(0, 0)]) (g' := g) ?_
    refine wp_n 2 (pc' := 11) (L' := [(2, 0), (0, v)]) (st' := [(0, 0)]) (g' := g) rfl ?_
    exact wp_ret rfl rfl rfl (Or.inr ⟨by omega, rfl⟩)
set_option maxHeartbeats 400000 in
set_option maxRecDepth 20000 in
theorem m_pays {sn : Nat} {sx : Nat → Int} {b : Nat} {g : am_G} {c : am_G} {P : Nat} {v : Int} (h_v : R32 v) (hI : CInv P c) (hM : MRel c g) : Ev sn sx 2 160 [(2, 127), (0, v)] (SH b) g (fun yy => Two b yy (1 ≤ v ∧ v ≤ 99) 1 (am_up g 128 5 v) (0) g) := by
  have h5 := hI.ck.1
  have hP : g 127 0 = (P : Int) := hM.n.trans hI.ck.2.1
  refine ev_of (K := 1) T160 (by decide) rfl rfl (Nat.le_of_ble_eq_true rfl) ?_
  refine wp_eq (L' := [(2, 127), (0, v)]) (st' := []) (g' := g) ?_
  refine wp_n 3 (pc' := 4) (L' := [(2, 127), (0, v)]) (st' := [(0, 99), (0, 1), (0, v)]) (g' := g) rfl ?_
  refine wp_cs (as := [(0, v), (0, 1), (0, 99)]) (rest := []) rfl (by decide) rfl (Nat.le_of_ble_eq_true rfl) (e_isIn (by omega) (by omega) (by omega)) (by decide) (fun r2 h3 => ?_)
  rcases h3 with ⟨rfl, p1⟩ | ⟨rfl, p1⟩
  · refine wp_eq (L' := [(2, 127), (0, v)]) (st' := [(0, 1)]) (g' := g) ?_
    refine wp_n 5 (pc' := 18) (L' := [(2, 127), (0, v)]) (st' := [(0, v), (0, 5), (2, 128)]) (g' := g) rfl ?_
    refine wp_iast (k := 128) (5) rfl rfl (by omega) (by omega) (by decide) ?_
    refine wp_n 1 (pc' := 20) (L' := [(2, 127), (0, v)]) (st' := [(0, 1)]) (g' := (am_up g 128 5 v)) rfl ?_
    exact wp_ret rfl rfl rfl (Or.inl ⟨by omega, rfl⟩)
  · refine wp_eq (L' := [(2, 127), (0, v)]) (st' := [(0, 0)]) (g' := g) ?_
    refine wp_n 2 (pc' := 11) (L' := [(2, 127), (0, v)]) (st' := [(0, 0)]) (g' := g) rfl ?_
    exact wp_ret rfl rfl rfl (Or.inr ⟨by omega, rfl⟩)
def F_pays (P : Nat) (v : Int) (c c1 : am_G) (v1 : Int) : Prop := ((1 ≤ v ∧ v ≤ 99) ∧ v1 = 1 ∧ c1 = (am_up c 10 16 v)) ∨ (¬ (1 ≤ v ∧ v ≤ 99) ∧ v1 = 0 ∧ c1 = c)
set_option maxRecDepth 20000 in
theorem C_pays {sn : Nat} {sx : Nat → Int} {b : Nat} {g : am_G} {P : Nat} {v : Int} (h_v : R32 v) (hI : CInv P g) : Ev sn sx 2 100 [(2, 0), (0, v)] (SH b) g (CPost P g (F_pays P v g)) := (e_pays h_v hI).mono fun r h => by
  rcases h with ⟨hD, rfl⟩ | ⟨hD, rfl⟩
  · have h5 := hI.ck.1
    skip
    refine ⟨_, _, b, rfl, ⟨hI.ck.same fun c j q => by (repeat rw [up_no (by omega)]), (hI.rg.up (by unfold Rg; omega) (by omega)), hI.rgi.same fun c j q1 q2 => by (repeat rw [up_no (by omega)]), hI.e24.same fun c j q => by (repeat rw [up_no (by omega)]), hI.e24i.same fun c j q => by (repeat rw [up_no (by omega)]), hI.tx.same fun c j q1 q2 => by (repeat rw [up_no (by omega)]), hI.txi.same fun c j q1 q2 => by (repeat rw [up_no (by omega)]), hI.ti.same fun c j q => by (repeat rw [up_no (by omega)]), hI.tap.same fun c j q => by (repeat rw [up_no (by omega)]), hI.cls.same fun c j q1 q2 => by (repeat rw [up_no (by omega)]), hI.wls.same fun c j q1 q2 => by (repeat rw [up_no (by omega)]), hI.caw.same fun c j q => by (repeat rw [up_no (by omega)]), hI.cal.same fun c j q => by (repeat rw [up_no (by omega)])⟩, fun c j q => by (repeat rw [up_no (by omega)]), Or.inl ⟨hD, rfl, rfl⟩⟩
  · exact ⟨_, _, b, rfl, hI, fun _ _ _ => rfl, Or.inr ⟨hD, rfl, rfl⟩⟩
set_option maxRecDepth 20000 in
theorem M_pays {sn : Nat} {sx : Nat → Int} {b : Nat} {g c : am_G} {P : Nat} {v : Int} (h_v : R32 v) (hI : CInv P c) (hM : MRel c g) : Ev sn sx 2 160 [(2, 127), (0, v)] (SH b) g (MPost b g (F_pays P v c)) := (m_pays h_v hI hM).mono fun r h => by
  rcases h with ⟨hD, rfl⟩ | ⟨hD, rfl⟩
  · refine ⟨_, _, rfl, fun k j q => by (repeat rw [up_no (by omega)]), fun c1 v1 hE => ?_⟩
    rcases hE with ⟨-, rfl, rfl⟩ | ⟨hn, -, -⟩
    · have h5 := hI.ck.1
      skip
      exact ⟨rfl, (hM.up (i := 5) (k := 10) (j := 16) ((cp_i5 _ (by omega) (by omega)).trans (by omega)) ((cj_i5 _ (by omega) (by omega)).trans (by omega)) (by omega) (by omega) (by omega))⟩
    · exact absurd hD hn
  · refine ⟨_, _, rfl, fun k j q => rfl, fun c1 v1 hE => ?_⟩
    rcases hE with ⟨hn, -, -⟩ | ⟨-, rfl, rfl⟩
    · exact absurd hn hD
    · exact ⟨rfl, hM⟩
