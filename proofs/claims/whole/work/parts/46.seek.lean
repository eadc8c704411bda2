/-! the class: seek -/
def Rare (P : Nat) (d : Int) (n k : Nat) : Prop := tl 1 ((P : Int) - 1) n k * d ≤ (P : Int) ^ n
def Sure (q s : Int) (n k : Nat) : Prop := (1000 : Int) ^ n * s ≤ tl q (1000 - q) n k * 1000
def Good (P : Nat) (d q s : Int) (n k : Nat) : Prop := k ≤ n ∧ Rare P d n k ∧ (∀ j, j < k → ¬ Rare P d n j) ∧ Sure q s n k
def IsNeed (P : Nat) (d q s : Int) (x y : Int) : Prop := (∃ n k : Nat, x = (n : Int) ∧ y = (k : Int) ∧ 1 ≤ n ∧ n ≤ 60 ∧ Good P d q s n k ∧ ∀ m j, 1 ≤ m → m < n → ¬ Good P d q s m j) ∨ (x = -1 ∧ y = -1 ∧ ∀ m j, 1 ≤ m → m ≤ 60 → ¬ Good P d q s m j)
theorem Good.uniq {P : Nat} {d q s : Int} {n k k' : Nat} (h : Good P d q s n k) (h' : Good P d q s n k') : k = k' := by
  rcases Nat.lt_trichotomy k k' with c | c | c
  · exact absurd h.2.1 (h'.2.2.1 k c)
  · exact c
  · exact absurd h'.2.1 (h.2.2.1 k' c)
theorem Good.uniq2 {P : Nat} {d q s : Int} {n k j : Nat} (h : Good P d q s n j) (h1 : Rare P d n k) (h2 : ∀ i, i < k → ¬ Rare P d n i) : k = j := by
  rcases Nat.lt_trichotomy k j with c | c | c
  · exact absurd h1 (h.2.2.1 k c)
  · exact c
  · exact absurd h.2.1 (h2 j c)
theorem IsNeed.uniq {P : Nat} {d q s x y x' y' : Int} (h : IsNeed P d q s x y) (h' : IsNeed P d q s x' y') : x = x' ∧ y = y' := by
  rcases h with ⟨n, k, rfl, rfl, h1, h2, h3, h4⟩ | ⟨rfl, rfl, h4⟩
  · rcases h' with ⟨n', k', rfl, rfl, h1', h2', h3', h4'⟩ | ⟨rfl, rfl, h4'⟩
    · have e : n = n' := by
        rcases Nat.lt_trichotomy n n' with c | c | c
        · exact absurd h3 (h4' n k h1 c)
        · exact c
        · exact absurd h3' (h4 n' k' h1' c)
      subst e
      rw [h3.uniq h3']
      exact ⟨rfl, rfl⟩
    · exact absurd h3 (h4' n k h1 h2)
  · rcases h' with ⟨n', k', rfl, rfl, h1', h2', h3', h4'⟩ | ⟨rfl, rfl, h4'⟩
    · exact absurd h3' (h4 n' k' h1' h2')
    · exact ⟨rfl, rfl⟩
theorem tl_0 (p q : Int) (n : Nat) : tl p q n 0 = (p + q) ^ n := by
  unfold tl
  rw [bt_all]
  exact Int.sub_zero _
theorem tl_s (p q : Int) (t k : Nat) (hk : k ≤ t) : tl p q (t + 1) (k + 1) = tl p q t (k + 1) * (p + q) + bt p q t k * p := by
  unfold tl
  rw [bt_all, bt_all, bt_ps, ps_s _ k, Int.pow_succ]
  generalize ps (bt p q t) k = X
  generalize bt p q t k = B
  generalize (p + q) ^ t = U
  grind
theorem tl_up {p q : Int} (hp : 0 ≤ p) (hq : 0 ≤ q) (t k : Nat) (hk : k ≤ t + 1) : tl p q t k * (p + q) ≤ tl p q (t + 1) k := by
  cases k with
  | zero => rw [tl_0, tl_0, Int.pow_succ]; exact Int.le_refl _
  | succ k =>
    rw [tl_s p q t k (by omega)]
    have := Int.mul_nonneg (bt_nn hp hq t k) hp
    omega
theorem rare_up {P : Nat} {d : Int} {n j : Nat} (h5 : 5 ≤ P) (hd : 2 ≤ d) (hj : j ≤ n + 1) (h : ¬ Rare P d n j) : ¬ Rare P d (n + 1) j := by
  unfold Rare at *
  intro h2
  have h1 := tl_up (p := 1) (q := (P : Int) - 1) (by omega) (by omega) n j hj
  rw [show (1 : Int) + ((P : Int) - 1) = P by omega] at h1
  have h3 := Int.mul_le_mul_of_nonneg_right h1 (show 0 ≤ d by omega)
  rw [Int.pow_succ] at h2
  have h4 : tl 1 ((P : Int) - 1) n j * d * P ≤ (P : Int) ^ n * P := by
    rw [Int.mul_assoc, Int.mul_comm d, ← Int.mul_assoc]
    omega
  exact h (Int.le_of_mul_le_mul_right h4 (by omega))
theorem rare_0 {P : Nat} {d : Int} {n : Nat} (h5 : 5 ≤ P) (hd : 2 ≤ d) : ¬ Rare P d n 0 := by
  unfold Rare
  rw [tl_0, show (1 : Int) + ((P : Int) - 1) = P by omega]
  have h : (0 : Int) < (P : Int) ^ n := Int.pow_pos (by omega)
  have := Int.mul_le_mul_of_nonneg_left hd (show 0 ≤ (P : Int) ^ n by omega)
  omega
def FrK (g h : am_G) : Prop := ∀ c j, (c < 103 ∨ 119 < c ∨ c = 103 ∧ j < 9) → h c j = g c j
theorem CLs.frB {g g' : am_G} {k : Nat} (h : CLs g) (hk : k % 2 = 0) (hF : FrB k g g') (hL : BigL g' k) : CLs g' := by
  have key : ∀ a, a % 2 = 0 → BigL g a → BigL g' a := fun a ha hA => by
    by_cases e : a = k
    · subst e; exact hL
    · exact hA.fr hF ⟨by omega, by omega, by omega⟩
  obtain ⟨h1, h2, h3, h4, h5, h6, h7, h8⟩ := h
  exact ⟨key _ rfl h1, key _ rfl h2, key _ rfl h3, key _ rfl h4, key _ rfl h5, key _ rfl h6, key _ rfl h7, key _ rfl h8⟩
theorem CLs.frC {g g' : am_G} (h : CLs g) (hF : FrC 104 106 g g') (hL : BigL g' 104) (hM : BigL g' 106) : CLs g' := by
  obtain ⟨h1, h2, h3, h4, h5, h6, h7, h8⟩ := h
  exact ⟨hL, hM, h3.frc hF (by omega) (by omega), h4.frc hF (by omega) (by omega), h5.frc hF (by omega) (by omega), h6.frc hF (by omega) (by omega), h7.frc hF (by omega) (by omega), h8.frc hF (by omega) (by omega)⟩
theorem CLs.same {g g' : am_G} (h : CLs g) (hF : ∀ c j, 104 ≤ c → c ≤ 119 → g' c j = g c j) : CLs g' := by
  have key : ∀ a, 103 ≤ a → a ≤ 118 → BigL g a → BigL g' a := fun a a1 a2 hA j hj => by rw [hF (a + 1) j (by omega) (by omega)]; exact hA j hj
  obtain ⟨h1, h2, h3, h4, h5, h6, h7, h8⟩ := h
  exact ⟨key _ (by omega) (by omega) h1, key _ (by omega) (by omega) h2, key _ (by omega) (by omega) h3, key _ (by omega) (by omega) h4, key _ (by omega) (by omega) h5, key _ (by omega) (by omega) h6, key _ (by omega) (by omega) h7, key _ (by omega) (by omega) h8⟩
def FrY (g g' : am_G) : Prop := ∀ c j, c ≠ 104 → c ≠ 105 → c ≠ 106 → c ≠ 107 → c ≠ 112 → c ≠ 113 → g' c j = g c j
theorem BigR.frY {g g' : am_G} {a : Nat} {v : Int} (h : BigR g a v) (hF : FrY g g') (h1 : a = 108 ∨ a = 110) : BigR g' a v := by
  obtain ⟨sz, ⟨e1, e2, e3, e4⟩, e5⟩ := h
  refine ⟨sz, ⟨by rw [hF a 1 (by omega) (by omega) (by omega) (by omega) (by omega) (by omega)]; exact e1, e2, fun j hj => by rw [hF (a + 1) j (by omega) (by omega) (by omega) (by omega) (by omega) (by omega)]; exact e3 j hj, ?_⟩, e5⟩
  rw [← e4]
  exact bval_eq fun j _ => hF (a + 1) j (by omega) (by omega) (by omega) (by omega) (by omega) (by omega)
theorem CLs.frY {g g' : am_G} (h : CLs g) (hF : FrY g g') (hL : BigL g' 104) (hM : BigL g' 106) (hN : BigL g' 112) : CLs g' := by
  have key : ∀ a, a = 108 ∨ a = 110 ∨ 113 < a → BigL g a → BigL g' a := fun a a1 hA j hj => by rw [hF (a + 1) j (by omega) (by omega) (by omega) (by omega) (by omega) (by omega)]; exact hA j hj
  obtain ⟨h1, h2, h3, h4, h5, h6, h7, h8⟩ := h
  exact ⟨hL, hM, key _ (by omega) h3, key _ (by omega) h4, hN, key _ (by omega) h6, key _ (by omega) h7, key _ (by omega) h8⟩
theorem e_isRare2 {sn : Nat} {sx : Nat → Int} {b : Nat} {g : am_G} {n k P : Nat} {d : Int} (hP : g 103 0 = (P : Int)) (h5 : 5 ≤ P ∧ P ≤ 37) (hn : n ≤ 60) (hk : k ≤ n) (hd : 0 ≤ d ∧ d ≤ 1000000) (hL1 : BigL g 104) (hL2 : BigL g 106) (hW : BigR g 108 ((P : Int) ^ n)) : Ev sn sx 4 31 [(2, 103), (0, ((n : Nat) : Int)), (0, ((k : Nat) : Int)), (0, d)] (SH b) g (fun r => (∃ g', r = (some (0, 1), SH b, g') ∧ Rare P d n k ∧ BigL g' 104 ∧ BigL g' 106 ∧ FrC 104 106 g g') ∨ (∃ g', r = (some (0, 0), SH b, g') ∧ ¬ Rare P d n k ∧ BigL g' 104 ∧ BigL g' 106 ∧ FrC 104 106 g g')) := (e_isRare hP h5 hn hk hd hL1 hL2 hW).mono fun r h => by
  obtain ⟨g', h1, h2⟩ := h
  rcases h1 with ⟨h1, h3⟩ | ⟨h1, h3⟩
  · exact Or.inl ⟨g', h1, h3, h2⟩
  · exact Or.inr ⟨g', h1, h3, h2⟩
theorem e_isSure2 {sn : Nat} {sx : Nat → Int} {b : Nat} {g : am_G} {n k : Nat} {q s : Int} (hn : n ≤ 60) (hk : k ≤ n) (hq : 0 ≤ q ∧ q ≤ 1000) (hs : 0 ≤ s ∧ s ≤ 1000) (hL1 : BigL g 104) (hL2 : BigL g 106) (hL3 : BigL g 112) (hW : BigR g 110 ((1000 : Int) ^ n)) : Ev sn sx 4 32 [(2, 103), (0, ((n : Nat) : Int)), (0, ((k : Nat) : Int)), (0, q), (0, s)] (SH b) g (fun r => (∃ g', r = (some (0, 1), SH b, g') ∧ Sure q s n k ∧ BigL g' 104 ∧ BigL g' 106 ∧ BigL g' 112 ∧ (∀ c j, c ≠ 104 → c ≠ 105 → c ≠ 106 → c ≠ 107 → c ≠ 112 → c ≠ 113 → g' c j = g c j)) ∨ (∃ g', r = (some (0, 0), SH b, g') ∧ ¬ Sure q s n k ∧ BigL g' 104 ∧ BigL g' 106 ∧ BigL g' 112 ∧ (∀ c j, c ≠ 104 → c ≠ 105 → c ≠ 106 → c ≠ 107 → c ≠ 112 → c ≠ 113 → g' c j = g c j))) := (e_isSure hn hk hq hs hL1 hL2 hL3 hW (pow_2001 (by decide) (by decide) hn)).mono fun r h => by
  obtain ⟨g', h1, h2⟩ := h
  rcases h1 with ⟨h1, h3⟩ | ⟨h1, h3⟩
  · exact Or.inl ⟨g', h1, h3, h2⟩
  · exact Or.inr ⟨g', h1, h3, h2⟩
set_option maxHeartbeats 400000 in
set_option maxRecDepth 20000 in
theorem e_seek {sn : Nat} {sx : Nat → Int} {b : Nat} {g : am_G} {P : Nat} {q d s : Int} (hP : g 103 0 = (P : Int)) (h5 : 5 ≤ P ∧ P ≤ 37) (hq : 1 ≤ q ∧ q ≤ 999) (hd : 2 ≤ d ∧ d ≤ 1000000) (hs : 1 ≤ s ∧ s ≤ 999) (hL : CLs g) : Ev sn sx 5 30 [(2, 103), (0, q), (0, d), (0, s)] (SH b) g (fun r => ∃ g', r = (none, SH b, g') ∧ IsNeed P d q s (g' 103 9) (g' 103 10) ∧ CLs g' ∧ FrK g g') := by
  refine ev_of (K := 4) T30 (by decide) rfl rfl (Nat.le_of_ble_eq_true rfl) ?_
  refine wp_eq (L' := [(2, 103), (0, q), (0, d), (0, s), (9, 0), (9, 0)]) (st' := []) (g' := g) ?_
  refine wp_n 5 (pc' := 8) (L' := [(2, 103), (0, q), (0, d), (0, s), (0, 1), (9, 0)]) (st' := [(0, 1), (2, 108)]) (g' := g) rfl ?_
  refine wp_cv (as := [(2, 108), (0, 1)]) (rest := []) rfl rfl rfl (Nat.le_of_ble_eq_true rfl) rfl (e_set (k := 108) (⟨rfl, rfl⟩ : IsBig b 108) hL.2.2.1 (by omega)) (by decide) (fun r1 h2 => ?_)
  obtain ⟨g8, rfl, hR8, hF8⟩ := h2
  refine wp_eq (L' := [(2, 103), (0, q), (0, d), (0, s), (0, 1), (9, 0)]) (st' := []) (g' := g8) ?_
  refine wp_n 3 (pc' := 16) (L' := [(2, 103), (0, q), (0, d), (0, s), (0, 1), (9, 0)]) (st' := [(0, 1), (2, 110)]) (g' := g8) rfl ?_
  refine wp_cv (as := [(2, 110), (0, 1)]) (rest := []) rfl rfl rfl (Nat.le_of_ble_eq_true rfl) rfl (e_set (k := 110) (⟨rfl, rfl⟩ : IsBig b 110) (hL.2.2.2.1.fr hF8 (by omega)) (by omega)) (by decide) (fun r3 h4 => ?_)
  obtain ⟨g16, rfl, hR16, hF16⟩ := h4
  refine wp_eq (L' := [(2, 103), (0, q), (0, d), (0, s), (0, 1), (9, 0)]) (st' := []) (g' := g16) ?_
  refine wp_n 2 (pc' := 22) (L' := [(2, 103), (0, q), (0, d), (0, s), (0, 1), (0, 1)]) (st' := []) (g' := g16) rfl ?_
  have L22 : ∀ (lf : Nat) (n k : Nat) (h : am_G), 60 - n < lf → (n ≤ 60) → (1 ≤ k ∧ k ≤ n + 1) → (∀ j, j < k → ¬ Rare P d n j) → (∀ m j, 1 ≤ m → m ≤ n → ¬ Good P d q s m j) → (BigR h 108 ((P : Int) ^ n)) → (BigR h 110 ((1000 : Int) ^ n)) → (CLs h) → (FrK g h) → Wp sn sx 4 T30 22 [(2, 103), (0, q), (0, d), (0, s), (0, ((k : Nat) : Int)), (0, ((n : Int) + 1))] [] (SH b) h (fun r => ∃ g', r = (none, SH b, g') ∧ IsNeed P d q s (g' 103 9) (g' 103 10) ∧ CLs g' ∧ FrK g g') := by
    intro lf
    induction lf with
    | zero => intro n k h hlf; exact absurd hlf (Nat.not_lt_zero _)
    | succ lf ih22 =>
      intro n k h hlf hn hk hr hb hW hT hC hF
      refine wp_n 2 (pc' := 26) (L' := [(2, 103), (0, q), (0, d), (0, s), (0, ((k : Nat) : Int)), (0, ((n : Int) + 1))]) (st' := [(0, 60), (0, ((n : Int) + 1))]) (g' := h) rfl ?_
      refine wp_ic_gt rfl (fun c5 => ?_) (fun c5 => ?_)
      · have hn6 : n = 60 := by omega
        refine wp_n 6 (pc' := 124) (L' := [(2, 103), (0, q), (0, d), (0, s), (0, ((k : Nat) : Int)), (0, ((n : Int) + 1))]) (st' := []) (g' := (am_up (am_up h 103 9 (-1)) 103 10 (-1))) rfl ?_
        exact wp_ret rfl rfl rfl ⟨_, rfl, Or.inr ⟨by rw [up_nj (by omega), up_eq], up_eq, fun m j h1 h2 => hb m j h1 (by omega)⟩, hC.same (fun c j h1 h2 => by rw [up_ne (by omega), up_ne (by omega)]), fun c j hc => by
          rcases hc with hc | hc | hc
          · rw [up_ne (by omega), up_ne (by omega)]; exact hF c j (by omega)
          · rw [up_ne (by omega), up_ne (by omega)]; exact hF c j (by omega)
          · obtain ⟨rfl, hj⟩ := hc
            rw [up_nj (by omega), up_nj (by omega)]; exact hF 103 j (by omega)⟩
      · refine wp_n 4 (pc' := 37) (L' := [(2, 103), (0, q), (0, d), (0, s), (0, ((k : Nat) : Int)), (0, ((n : Int) + 1))]) (st' := [(0, (h 103 0)), (2, 108)]) (g' := h) rfl ?_
        refine wp_eq (L' := [(2, 103), (0, q), (0, d), (0, s), (0, ((k : Nat) : Int)), (0, ((n : Int) + 1))]) (st' := [(0, ((P : Nat) : Int)), (2, 108)]) (g' := h) ?_ (by rfl) (by rw [hF 103 0 (by omega), hP]) (by rfl)
        refine wp_cv (as := [(2, 108), (0, ((P : Nat) : Int))]) (rest := []) rfl rfl rfl (Nat.le_of_ble_eq_true rfl) rfl (e_times (k := 108) (⟨rfl, rfl⟩ : IsBig b 108) hW (by omega) (by rw [← Int.pow_succ]; exact Int.lt_of_le_of_lt (pow_2001 (by omega) (by omega) (show n + 1 ≤ 60 by omega)) (by omega))) (by decide) (fun r6 h7 => ?_)
        obtain ⟨g37, rfl, hR37, hF37⟩ := h7
        refine wp_eq (L' := [(2, 103), (0, q), (0, d), (0, s), (0, ((k : Nat) : Int)), (0, ((n : Int) + 1))]) (st' := []) (g' := g37) ?_
        refine wp_n 3 (pc' := 47) (L' := [(2, 103), (0, q), (0, d), (0, s), (0, ((k : Nat) : Int)), (0, ((n : Int) + 1))]) (st' := [(0, 1000), (2, 110)]) (g' := g37) rfl ?_
        have J75 : ∀ (k : Nat) (f : am_G), (1 ≤ k ∧ k ≤ n + 2) → (∀ j, j < k → ¬ Rare P d (n + 1) j) → (BigR f 108 ((P : Int) ^ (n + 1))) → (BigR f 110 ((1000 : Int) ^ (n + 1))) → (CLs f) → (FrK g f) → (n + 1 < k ∨ Rare P d (n + 1) k) → Wp sn sx 4 T30 75 [(2, 103), (0, q), (0, d), (0, s), (0, ((k : Nat) : Int)), (0, ((n : Int) + 1))] [] (SH b) f (fun r => ∃ g', r = (none, SH b, g') ∧ IsNeed P d q s (g' 103 9) (g' 103 10) ∧ CLs g' ∧ FrK g g') := by
          intro k f hk2 hr2 hV hU hD hE hq2
          refine wp_n 2 (pc' := 79) (L' := [(2, 103), (0, q), (0, d), (0, s), (0, ((k : Nat) : Int)), (0, ((n : Int) + 1))]) (st' := [(0, ((n : Int) + 1)), (0, ((k : Nat) : Int))]) (g' := f) rfl ?_
          refine wp_ic_gt rfl (fun c8 => ?_) (fun c8 => ?_)
          · have hng : ∀ j, ¬ Good P d q s (n + 1) j := fun j hG => absurd hG.2.1 (hr2 j (by have := hG.1; omega))
            refine wp_n 2 (pc' := 22) (L' := [(2, 103), (0, q), (0, d), (0, s), (0, ((k : Nat) : Int)), (0, (((n : Int) + 1) + 1))]) (st' := []) (g' := f) rfl ?_
            refine wp_eq (ih22 (n + 1) (k) (f) ?_ ?_ ?_ ?_ ?_ ?_ ?_ ?_ ?_) (by simp) (by rfl) (by rfl)
            · omega
            · omega
            · omega
            · exact hr2
            · intro m j h1 h2
              by_cases e : m = n + 1
              · subst e
                first | exact hng j | exact fun hG => p89 (by rcases hq2 with c | c; exact absurd c (by omega); rw [Good.uniq2 hG c hr2]; exact hG.2.2.2)
              · exact hb m j h1 (by omega)
            · first | exact hV | exact hV.frY hF89 (by omega)
            · first | exact hU | exact hU.frY hF89 (by omega)
            · first | exact hD | exact hD.frY hF89 hL89 hM89 hN89
            · first | exact hE | exact fun c j hc => by rw [hF89 c j (by omega) (by omega) (by omega) (by omega) (by omega) (by omega)]; exact hE c j hc
          · refine wp_n 2 (pc' := 85) (L' := [(2, 103), (0, q), (0, d), (0, s), (0, ((k : Nat) : Int)), (0, ((n : Int) + 1))]) (st' := [(0, ((n : Int) + 1)), (2, 103)]) (g' := f) rfl ?_
            refine wp_eq (L' := [(2, 103), (0, q), (0, d), (0, s), (0, ((k : Nat) : Int)), (0, ((n : Int) + 1))]) (st' := [(0, ((n + 1 : Nat) : Int)), (2, 103)]) (g' := f) ?_ (by rfl) (by rfl) (by rfl)
            refine wp_n 3 (pc' := 89) (L' := [(2, 103), (0, q), (0, d), (0, s), (0, ((k : Nat) : Int)), (0, ((n : Int) + 1))]) (st' := [(0, s), (0, q), (0, ((k : Nat) : Int)), (0, ((n + 1 : Nat) : Int)), (2, 103)]) (g' := f) rfl ?_
            refine wp_cv (as := [(2, 103), (0, ((n + 1 : Nat) : Int)), (0, ((k : Nat) : Int)), (0, q), (0, s)]) (rest := []) rfl rfl rfl (Nat.le_of_ble_eq_true rfl) rfl (e_isSure2 (n := (n + 1)) (k := k) (by omega) (by omega) (by omega) (by omega) hD.1 hD.2.1 hD.2.2.2.2.1 hU) (by decide) (fun r9 h10 => ?_)
            rcases h10 with ⟨g89, rfl, p89, hL89, hM89, hN89, hF89⟩ | ⟨g89, rfl, p89, hL89, hM89, hN89, hF89⟩
            · refine wp_eq (L' := [(2, 103), (0, q), (0, d), (0, s), (0, ((k : Nat) : Int)), (0, ((n : Int) + 1))]) (st' := [(0, 1)]) (g' := g89) ?_
              refine wp_n 7 (pc' := 107) (L' := [(2, 103), (0, q), (0, d), (0, s), (0, ((k : Nat) : Int)), (0, ((n : Int) + 1))]) (st' := []) (g' := (am_up (am_up g89 103 9 ((n : Int) + 1)) 103 10 ((k : Nat) : Int))) rfl ?_
              exact wp_ret rfl rfl rfl ⟨_, rfl, Or.inl ⟨n + 1, k, by rw [up_nj (by omega), up_eq]; rfl, up_eq, by omega, by omega, ⟨by omega, by rcases hq2 with c | c; exact absurd c (by omega); exact c, hr2, p89⟩, fun m j h1 h2 => hb m j h1 (by omega)⟩, (hD.frY hF89 hL89 hM89 hN89).same (fun c j h1 h2 => by rw [up_ne (by omega), up_ne (by omega)]), fun c j hc => by
                have hx := hF89 c j
                rcases hc with hc | hc | hc
                · rw [up_ne (by omega), up_ne (by omega), hx (by omega) (by omega) (by omega) (by omega) (by omega) (by omega)]; exact hE c j (by omega)
                · rw [up_ne (by omega), up_ne (by omega), hx (by omega) (by omega) (by omega) (by omega) (by omega) (by omega)]; exact hE c j (by omega)
                · obtain ⟨rfl, hj⟩ := hc
                  rw [up_nj (by omega), up_nj (by omega), hx (by omega) (by omega) (by omega) (by omega) (by omega) (by omega)]; exact hE 103 j (by omega)⟩
            · refine wp_eq (L' := [(2, 103), (0, q), (0, d), (0, s), (0, ((k : Nat) : Int)), (0, ((n : Int) + 1))]) (st' := [(0, 0)]) (g' := g89) ?_
              refine wp_n 3 (pc' := 22) (L' := [(2, 103), (0, q), (0, d), (0, s), (0, ((k : Nat) : Int)), (0, (((n : Int) + 1) + 1))]) (st' := []) (g' := g89) rfl ?_
              refine wp_eq (ih22 (n + 1) (k) (g89) ?_ ?_ ?_ ?_ ?_ ?_ ?_ ?_ ?_) (by simp) (by rfl) (by rfl)
              · omega
              · omega
              · omega
              · exact hr2
              · intro m j h1 h2
                by_cases e : m = n + 1
                · subst e
                  first | exact hng j | exact fun hG => p89 (by rcases hq2 with c | c; exact absurd c (by omega); rw [Good.uniq2 hG c hr2]; exact hG.2.2.2)
                · exact hb m j h1 (by omega)
              · first | exact hV | exact hV.frY hF89 (by omega)
              · first | exact hU | exact hU.frY hF89 (by omega)
              · first | exact hD | exact hD.frY hF89 hL89 hM89 hN89
              · first | exact hE | exact fun c j hc => by rw [hF89 c j (by omega) (by omega) (by omega) (by omega) (by omega) (by omega)]; exact hE c j hc
        refine wp_cv (as := [(2, 110), (0, 1000)]) (rest := []) rfl rfl rfl (Nat.le_of_ble_eq_true rfl) rfl (e_times (k := 110) (⟨rfl, rfl⟩ : IsBig b 110) (hT.fr' hF37 (by omega)) (by omega) (by rw [← Int.pow_succ]; exact Int.lt_of_le_of_lt (pow_2001 (by omega) (by omega) (show n + 1 ≤ 60 by omega)) (by omega))) (by decide) (fun r11 h12 => ?_)
        obtain ⟨g47, rfl, hR47, hF47⟩ := h12
        refine wp_eq (L' := [(2, 103), (0, q), (0, d), (0, s), (0, ((k : Nat) : Int)), (0, ((n : Int) + 1))]) (st' := []) (g' := g47) ?_
        have L50 : ∀ (lf : Nat) (k : Nat) (f : am_G), n + 2 - k < lf → (1 ≤ k ∧ k ≤ n + 2) → (∀ j, j < k → ¬ Rare P d (n + 1) j) → (BigR f 108 ((P : Int) ^ (n + 1))) → (BigR f 110 ((1000 : Int) ^ (n + 1))) → (CLs f) → (FrK g f) → Wp sn sx 4 T30 50 [(2, 103), (0, q), (0, d), (0, s), (0, ((k : Nat) : Int)), (0, ((n : Int) + 1))] [] (SH b) f (fun r => ∃ g', r = (none, SH b, g') ∧ IsNeed P d q s (g' 103 9) (g' 103 10) ∧ CLs g' ∧ FrK g g') := by
          intro lf
          induction lf with
          | zero => intro k f hlf; exact absurd hlf (Nat.not_lt_zero _)
          | succ lf ih50 =>
            intro k f hlf hk2 hr2 hV hU hD hE
            refine wp_n 2 (pc' := 54) (L' := [(2, 103), (0, q), (0, d), (0, s), (0, ((k : Nat) : Int)), (0, ((n : Int) + 1))]) (st' := [(0, ((n : Int) + 1)), (0, ((k : Nat) : Int))]) (g' := f) rfl ?_
            refine wp_ic_gt rfl (fun c13 => ?_) (fun c13 => ?_)
            · refine wp_eq (J75 (k) (f) ?_ ?_ ?_ ?_ ?_ ?_ ?_) (by first | rfl | (simp; done) | (simp; omega)) (by rfl) (by rfl)
              · first | assumption | omega
              · exact hr2
              · first | exact hV | exact hV.frc hF63 (by omega) (by omega)
              · first | exact hU | exact hU.frc hF63 (by omega) (by omega)
              · first | exact hD | exact hD.frC hF63 hL63 hM63
              · first | exact hE | exact fun c j hc => by rw [hF63 c j (by omega) (by omega) (by omega) (by omega)]; exact hE c j hc
              · first | exact Or.inl (by omega) | exact Or.inr p63
            · refine wp_n 2 (pc' := 60) (L' := [(2, 103), (0, q), (0, d), (0, s), (0, ((k : Nat) : Int)), (0, ((n : Int) + 1))]) (st' := [(0, ((n : Int) + 1)), (2, 103)]) (g' := f) rfl ?_
              refine wp_eq (L' := [(2, 103), (0, q), (0, d), (0, s), (0, ((k : Nat) : Int)), (0, ((n : Int) + 1))]) (st' := [(0, ((n + 1 : Nat) : Int)), (2, 103)]) (g' := f) ?_ (by rfl) (by rfl) (by rfl)
              refine wp_n 2 (pc' := 63) (L' := [(2, 103), (0, q), (0, d), (0, s), (0, ((k : Nat) : Int)), (0, ((n : Int) + 1))]) (st' := [(0, d), (0, ((k : Nat) : Int)), (0, ((n + 1 : Nat) : Int)), (2, 103)]) (g' := f) rfl ?_
              refine wp_cv (as := [(2, 103), (0, ((n + 1 : Nat) : Int)), (0, ((k : Nat) : Int)), (0, d)]) (rest := []) rfl rfl rfl (Nat.le_of_ble_eq_true rfl) rfl (e_isRare2 (n := (n + 1)) (k := k) (by rw [hE 103 0 (by omega)]; exact hP) (by omega) (by omega) (by omega) (by omega) hD.1 hD.2.1 hV) (by decide) (fun r14 h15 => ?_)
              rcases h15 with ⟨g63, rfl, p63, hL63, hM63, hF63⟩ | ⟨g63, rfl, p63, hL63, hM63, hF63⟩
              · refine wp_eq (L' := [(2, 103), (0, q), (0, d), (0, s), (0, ((k : Nat) : Int)), (0, ((n : Int) + 1))]) (st' := [(0, 1)]) (g' := g63) ?_
                refine wp_n 1 (pc' := 75) (L' := [(2, 103), (0, q), (0, d), (0, s), (0, ((k : Nat) : Int)), (0, ((n : Int) + 1))]) (st' := []) (g' := g63) rfl ?_
                refine wp_eq (J75 (k) (g63) ?_ ?_ ?_ ?_ ?_ ?_ ?_) (by first | rfl | (simp; done) | (simp; omega)) (by rfl) (by rfl)
                · first | assumption | omega
                · exact hr2
                · first | exact hV | exact hV.frc hF63 (by omega) (by omega)
                · first | exact hU | exact hU.frc hF63 (by omega) (by omega)
                · first | exact hD | exact hD.frC hF63 hL63 hM63
                · first | exact hE | exact fun c j hc => by rw [hF63 c j (by omega) (by omega) (by omega) (by omega)]; exact hE c j hc
                · first | exact Or.inl (by omega) | exact Or.inr p63
              · refine wp_eq (L' := [(2, 103), (0, q), (0, d), (0, s), (0, ((k : Nat) : Int)), (0, ((n : Int) + 1))]) (st' := [(0, 0)]) (g' := g63) ?_
                refine wp_n 3 (pc' := 50) (L' := [(2, 103), (0, q), (0, d), (0, s), (0, (((k : Nat) : Int) + 1)), (0, ((n : Int) + 1))]) (st' := []) (g' := g63) rfl ?_
                refine wp_eq (ih50 (k + 1) (g63) ?_ ?_ ?_ ?_ ?_ ?_ ?_) (by first | rfl | (simp; done) | (simp; omega)) (by rfl) (by rfl)
                · omega
                · omega
                · intro j hj
                  by_cases e : j = k
                  · subst e; exact p63
                  · exact hr2 j (by omega)
                · exact hV.frc hF63 (by omega) (by omega)
                · exact hU.frc hF63 (by omega) (by omega)
                · exact hD.frC hF63 hL63 hM63
                · exact fun c j hc => by rw [hF63 c j (by omega) (by omega) (by omega) (by omega)]; exact hE c j hc
        refine wp_eq (L50 (_ + 1) (k) (g47) (Nat.lt_succ_self _) ?_ ?_ ?_ ?_ ?_ ?_) (by first | rfl | (simp; done) | (simp; omega)) (by rfl) (by rfl)
        · omega
        · exact fun j hj => rare_up h5.1 hd.1 (by omega) (hr j hj)
        · rw [Int.pow_succ]; exact hR37.fr' hF47 (by omega)
        · rw [Int.pow_succ]; exact hR47
        · exact (hC.frB rfl hF37 hR37.L).frB rfl hF47 hR47.L
        · exact fun c j hc => by rw [hF47 c j (by omega) (by omega), hF37 c j (by omega) (by omega)]; exact hF c j hc
  refine wp_eq (L22 (_ + 1) (0) (1) (g16) (Nat.lt_succ_self _) ?_ ?_ ?_ ?_ ?_ ?_ ?_ ?_) (by rfl) (by rfl) (by rfl)
  · decide
  · decide
  · intro j hj; obtain rfl : j = 0 := by omega
    exact rare_0 h5.1 hd.1
  · intro m j h1 h2; omega
  · rw [Int.pow_zero]; exact hR8.fr' hF16 (by omega)
  · rw [Int.pow_zero]; exact hR16
  · exact (hL.frB rfl hF8 hR8.L).frB rfl hF16 hR16.L
  · exact fun c j hc => by rw [hF16 c j (by omega) (by omega), hF8 c j (by omega) (by omega)]
