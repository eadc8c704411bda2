/-! the class: least -/
def LK (n x : Nat) (d q : Int) : Prop := 1000 ^ n ≤ tl q (1000 - q) n x * d
def IsLeast (n x : Nat) (d r : Int) : Prop := 0 ≤ r ∧ r ≤ 1000 ∧ (r = 0 ∨ ¬ LK n x d (r - 1)) ∧ (1000 ≤ r ∨ LK n x d r)
theorem e_isLikely2 {sn : Nat} {sx : Nat → Int} {b : Nat} {g : am_G} {n k : Nat} {q d w : Int} (hn : n ≤ 60) (hk : k ≤ n) (hq : 0 ≤ q ∧ q ≤ 1000) (hd : 0 ≤ d ∧ d ≤ 1000000) (hL1 : BigL g 104) (hL2 : BigL g 106) (hW : BigR g 108 w) : Ev sn sx 4 29 [(2, 103), (0, ((n : Nat) : Int)), (0, ((k : Nat) : Int)), (0, q), (0, d)] (SH b) g (fun r => (∃ g', r = (some (0, 1), SH b, g') ∧ w ≤ tl q (1000 - q) n k * d ∧ BigL g' 104 ∧ BigL g' 106 ∧ FrC 104 106 g g') ∨ (∃ g', r = (some (0, 0), SH b, g') ∧ ¬ w ≤ tl q (1000 - q) n k * d ∧ BigL g' 104 ∧ BigL g' 106 ∧ FrC 104 106 g g')) := (e_isLikely hn hk hq hd hL1 hL2 hW).mono fun r h => by
  obtain ⟨g', h1, h2⟩ := h
  rcases h1 with ⟨h1, h3⟩ | ⟨h1, h3⟩
  · exact Or.inl ⟨g', h1, h3, h2⟩
  · exact Or.inr ⟨g', h1, h3, h2⟩
set_option maxHeartbeats 400000 in
set_option maxRecDepth 20000 in
theorem e_least {sn : Nat} {sx : Nat → Int} {b : Nat} {g : am_G} {n x : Nat} {d : Int} (hn : n ≤ 60) (hx : x ≤ n) (hd : 0 ≤ d ∧ d ≤ 1000000) (hL1 : BigL g 104) (hL2 : BigL g 106) (hL3 : BigL g 108) : Ev sn sx 5 28 [(2, 103), (0, ((n : Nat) : Int)), (0, ((x : Nat) : Int)), (0, d)] (SH b) g (fun y => ∃ h r, y = (some (0, r), SH b, h) ∧ IsLeast n x d r ∧ BigL h 104 ∧ BigL h 106 ∧ BigL h 108 ∧ (∀ c j, c ≠ 104 → c ≠ 105 → c ≠ 106 → c ≠ 107 → c ≠ 108 → c ≠ 109 → h c j = g c j)) := by
  refine ev_of (K := 4) T28 (by decide) rfl rfl (Nat.le_of_ble_eq_true rfl) ?_
  refine wp_eq (L' := [(2, 103), (0, ((n : Nat) : Int)), (0, ((x : Nat) : Int)), (0, d), (9, 0), (9, 0), (9, 0)]) (st' := []) (g' := g) ?_
  refine wp_n 4 (pc' := 8) (L' := [(2, 103), (0, ((n : Nat) : Int)), (0, ((x : Nat) : Int)), (0, d), (9, 0), (9, 0), (9, 0)]) (st' := [(0, ((n : Nat) : Int)), (0, 1000), (2, 108)]) (g' := g) rfl ?_
  refine wp_cs (as := [(2, 108), (0, 1000), (0, ((n : Nat) : Int))]) (rest := []) rfl (by decide) rfl (Nat.le_of_ble_eq_true rfl) (e_raise (k := 108) (⟨rfl, rfl⟩ : IsBig b 108) (n := n) hL3 (by omega) (by omega) (Int.lt_of_le_of_lt (pow_2001 (by decide) (by decide) hn) (by omega))) (by decide) (fun r1 h2 => ?_)
  obtain ⟨g8, rfl, hR8, hF8⟩ := h2
  refine wp_eq (L' := [(2, 103), (0, ((n : Nat) : Int)), (0, ((x : Nat) : Int)), (0, d), (9, 0), (9, 0), (9, 0)]) (st' := []) (g' := g8) ?_
  refine wp_n 4 (pc' := 19) (L' := [(2, 103), (0, ((n : Nat) : Int)), (0, ((x : Nat) : Int)), (0, d), (0, 0), (0, 512), (9, 0)]) (st' := []) (g' := g8) rfl ?_
  have L19 : ∀ (lf : Nat) (t : Nat) (h : am_G) (r s : Int) (w6 : am_V), t < lf → (s = 2 ^ t / 2) → (t ≤ 10) → (0 ≤ r ∧ r ≤ 1000) → (r = 0 ∨ ¬ LK n x d (r - 1)) → (1000 ≤ r + 2 ^ t - 1 ∨ LK n x d (r + 2 ^ t - 1)) → (BigL h 104) → (BigL h 106) → (BigR h 108 (1000 ^ n)) → ((∀ c j, c ≠ 104 → c ≠ 105 → c ≠ 106 → c ≠ 107 → c ≠ 108 → c ≠ 109 → h c j = g c j)) → Wp sn sx 4 T28 19 [(2, 103), (0, ((n : Nat) : Int)), (0, ((x : Nat) : Int)), (0, d), (0, r), (0, s), w6] [] (SH b) h (fun y => ∃ h r, y = (some (0, r), SH b, h) ∧ IsLeast n x d r ∧ BigL h 104 ∧ BigL h 106 ∧ BigL h 108 ∧ (∀ c j, c ≠ 104 → c ≠ 105 → c ≠ 106 → c ≠ 107 → c ≠ 108 → c ≠ 109 → h c j = g c j)) := by
    intro lf
    induction lf with
    | zero => intro t h r s w6 hlf; exact absurd hlf (Nat.not_lt_zero _)
    | succ lf ih19 =>
      intro t h r s w6 hlf hs ht hr hlo hhi hA1 hA2 hA3 hF
      refine wp_n 1 (pc' := 21) (L' := [(2, 103), (0, ((n : Nat) : Int)), (0, ((x : Nat) : Int)), (0, d), (0, r), (0, s), w6]) (st' := [(0, s)]) (g' := h) rfl ?_
      refine wp_if_le rfl (fun c3 => ?_) (fun c3 => ?_)
      · have ht0 : t = 0 := by
          rcases Nat.eq_zero_or_pos t with h | h
          · exact h
          · exfalso
            obtain ⟨u, rfl⟩ : ∃ u, t = u + 1 := ⟨t - 1, by omega⟩
            have := two_half u
            have := two_pos u
            have hb := two_le20 (show u ≤ 20 by omega)
            omega
        refine wp_n 1 (pc' := 71) (L' := [(2, 103), (0, ((n : Nat) : Int)), (0, ((x : Nat) : Int)), (0, d), (0, r), (0, s), w6]) (st' := [(0, r)]) (g' := h) rfl ?_
        exact wp_ret rfl rfl rfl ⟨_, _, rfl, ⟨hr.1, hr.2, hlo, by rw [ht0, Int.pow_zero, Int.add_sub_cancel] at hhi; exact hhi⟩, hA1, hA2, hA3.L, hF⟩
      · obtain ⟨u, rfl⟩ : ∃ u, t = u + 1 := by
          rcases Nat.eq_zero_or_pos t with h | h
          · exfalso
            subst h
            have : s = 0 := hs
            omega
          · exact ⟨t - 1, by omega⟩
        have hsu : s = 2 ^ u := hs.trans (two_half u)
        have hsb := two_le20 (show u ≤ 20 by omega)
        have hsp := two_pos u
        have hsn : s / 2 = 2 ^ u / 2 := by rw [hsu]
        have hss : s + s = 2 ^ (u + 1) := by rw [Int.pow_succ, ← hsu]; omega
        refine wp_n 8 (pc' := 38) (L' := [(2, 103), (0, ((n : Nat) : Int)), (0, ((x : Nat) : Int)), (0, d), (0, r), (0, s), (0, ((r + s) - 1))]) (st' := [(0, 1000), (0, ((r + s) - 1))]) (g' := h) rfl ?_
        refine wp_ic_ge rfl (fun c4 => ?_) (fun c4 => ?_)
        · refine wp_n 2 (pc' := 63) (L' := [(2, 103), (0, ((n : Nat) : Int)), (0, ((x : Nat) : Int)), (0, d), (0, r), (0, s), (0, ((r + s) - 1))]) (st' := [(0, 2), (0, s)]) (g' := h) rfl ?_
          refine wp_idiv rfl (by omega) (by omega) (by omega) ?_
          refine wp_eq (L' := [(2, 103), (0, ((n : Nat) : Int)), (0, ((x : Nat) : Int)), (0, d), (0, r), (0, s), (0, ((r + s) - 1))]) (st' := [(0, (s / 2))]) (g' := h) ?_ (by rfl) (by rw [Int.tdiv_eq_ediv_of_nonneg (show 0 ≤ s by omega)]) (by rfl)
          refine wp_n 2 (pc' := 19) (L' := [(2, 103), (0, ((n : Nat) : Int)), (0, ((x : Nat) : Int)), (0, d), (0, r), (0, (s / 2)), (0, ((r + s) - 1))]) (st' := []) (g' := h) rfl ?_
          refine wp_eq (ih19 (u) (h) (r) ((s / 2)) ((0, ((r + s) - 1))) ?_ ?_ ?_ ?_ ?_ ?_ ?_ ?_ ?_ ?_) (by first | rfl | (simp; done) | (simp; omega)) (by rfl) (by rfl)
          · omega
          · exact hsn
          · omega
          · omega
          · first | exact hlo | exact Or.inr (by rw [show r + s - 1 = r + s - 1 from rfl]; exact p47)
          · first | exact Or.inl (by rw [← hsu]; omega) | exact Or.inr (by rw [← hsu]; exact p47) | (rw [← hsu, show r + s + s - 1 = r + (s + s) - 1 by omega, hss]; exact hhi)
          · first | exact hA1 | exact hL47
          · first | exact hA2 | exact hM47
          · first | exact hA3 | exact hA3.frc hF47 (by omega) (by omega)
          · first | exact hF | exact fun c j n1 n2 n3 n4 n5 n6 => (hF47 c j n1 n2 n3 n4).trans (hF c j n1 n2 n3 n4 n5 n6)
        · refine wp_n 5 (pc' := 47) (L' := [(2, 103), (0, ((n : Nat) : Int)), (0, ((x : Nat) : Int)), (0, d), (0, r), (0, s), (0, ((r + s) - 1))]) (st' := [(0, d), (0, ((r + s) - 1)), (0, ((x : Nat) : Int)), (0, ((n : Nat) : Int)), (2, 103)]) (g' := h) rfl ?_
          refine wp_cv (as := [(2, 103), (0, ((n : Nat) : Int)), (0, ((x : Nat) : Int)), (0, ((r + s) - 1)), (0, d)]) (rest := []) rfl rfl rfl (Nat.le_of_ble_eq_true rfl) rfl (e_isLikely2 (n := n) (k := x) (by omega) (by omega) (by omega) (by omega) hA1 hA2 hA3) (by decide) (fun r5 h6 => ?_)
          rcases h6 with ⟨g47, rfl, p47, hL47, hM47, hF47⟩ | ⟨g47, rfl, p47, hL47, hM47, hF47⟩
          · refine wp_eq (L' := [(2, 103), (0, ((n : Nat) : Int)), (0, ((x : Nat) : Int)), (0, d), (0, r), (0, s), (0, ((r + s) - 1))]) (st' := [(0, 1)]) (g' := g47) ?_
            refine wp_n 3 (pc' := 63) (L' := [(2, 103), (0, ((n : Nat) : Int)), (0, ((x : Nat) : Int)), (0, d), (0, r), (0, s), (0, ((r + s) - 1))]) (st' := [(0, 2), (0, s)]) (g' := g47) rfl ?_
            refine wp_idiv rfl (by omega) (by omega) (by omega) ?_
            refine wp_eq (L' := [(2, 103), (0, ((n : Nat) : Int)), (0, ((x : Nat) : Int)), (0, d), (0, r), (0, s), (0, ((r + s) - 1))]) (st' := [(0, (s / 2))]) (g' := g47) ?_ (by rfl) (by rw [Int.tdiv_eq_ediv_of_nonneg (show 0 ≤ s by omega)]) (by rfl)
            refine wp_n 2 (pc' := 19) (L' := [(2, 103), (0, ((n : Nat) : Int)), (0, ((x : Nat) : Int)), (0, d), (0, r), (0, (s / 2)), (0, ((r + s) - 1))]) (st' := []) (g' := g47) rfl ?_
            refine wp_eq (ih19 (u) (g47) (r) ((s / 2)) ((0, ((r + s) - 1))) ?_ ?_ ?_ ?_ ?_ ?_ ?_ ?_ ?_ ?_) (by first | rfl | (simp; done) | (simp; omega)) (by rfl) (by rfl)
            · omega
            · exact hsn
            · omega
            · omega
            · first | exact hlo | exact Or.inr (by rw [show r + s - 1 = r + s - 1 from rfl]; exact p47)
            · first | exact Or.inl (by rw [← hsu]; omega) | exact Or.inr (by rw [← hsu]; exact p47) | (rw [← hsu, show r + s + s - 1 = r + (s + s) - 1 by omega, hss]; exact hhi)
            · first | exact hA1 | exact hL47
            · first | exact hA2 | exact hM47
            · first | exact hA3 | exact hA3.frc hF47 (by omega) (by omega)
            · first | exact hF | exact fun c j n1 n2 n3 n4 n5 n6 => (hF47 c j n1 n2 n3 n4).trans (hF c j n1 n2 n3 n4 n5 n6)
          · refine wp_eq (L' := [(2, 103), (0, ((n : Nat) : Int)), (0, ((x : Nat) : Int)), (0, d), (0, r), (0, s), (0, ((r + s) - 1))]) (st' := [(0, 0)]) (g' := g47) ?_
            refine wp_n 7 (pc' := 63) (L' := [(2, 103), (0, ((n : Nat) : Int)), (0, ((x : Nat) : Int)), (0, d), (0, (r + s)), (0, s), (0, ((r + s) - 1))]) (st' := [(0, 2), (0, s)]) (g' := g47) rfl ?_
            refine wp_idiv rfl (by omega) (by omega) (by omega) ?_
            refine wp_eq (L' := [(2, 103), (0, ((n : Nat) : Int)), (0, ((x : Nat) : Int)), (0, d), (0, (r + s)), (0, s), (0, ((r + s) - 1))]) (st' := [(0, (s / 2))]) (g' := g47) ?_ (by rfl) (by rw [Int.tdiv_eq_ediv_of_nonneg (show 0 ≤ s by omega)]) (by rfl)
            refine wp_n 2 (pc' := 19) (L' := [(2, 103), (0, ((n : Nat) : Int)), (0, ((x : Nat) : Int)), (0, d), (0, (r + s)), (0, (s / 2)), (0, ((r + s) - 1))]) (st' := []) (g' := g47) rfl ?_
            refine wp_eq (ih19 (u) (g47) ((r + s)) ((s / 2)) ((0, ((r + s) - 1))) ?_ ?_ ?_ ?_ ?_ ?_ ?_ ?_ ?_ ?_) (by first | rfl | (simp; done) | (simp; omega)) (by rfl) (by rfl)
            · omega
            · exact hsn
            · omega
            · omega
            · first | exact hlo | exact Or.inr (by rw [show r + s - 1 = r + s - 1 from rfl]; exact p47)
            · first | exact Or.inl (by rw [← hsu]; omega) | exact Or.inr (by rw [← hsu]; exact p47) | (rw [← hsu, show r + s + s - 1 = r + (s + s) - 1 by omega, hss]; exact hhi)
            · first | exact hA1 | exact hL47
            · first | exact hA2 | exact hM47
            · first | exact hA3 | exact hA3.frc hF47 (by omega) (by omega)
            · first | exact hF | exact fun c j n1 n2 n3 n4 n5 n6 => (hF47 c j n1 n2 n3 n4).trans (hF c j n1 n2 n3 n4 n5 n6)
  refine wp_eq (L19 (_ + 1) (10) (g8) (0) (512) ((9, 0)) (Nat.lt_succ_self _) ?_ ?_ ?_ ?_ ?_ ?_ ?_ ?_ ?_) (by first | rfl | (simp; done) | (simp; omega)) (by rfl) (by rfl)
  · rfl
  · decide
  · decide
  · exact Or.inl rfl
  · exact Or.inl (by decide)
  · exact hL1.fr hF8 (by omega)
  · exact hL2.fr hF8 (by omega)
  · exact hR8
  · exact fun c j _ _ _ _ n5 n6 => hF8 c j n5 n6
