/-! A SHOE'S LAW -/
theorem offs_s (sp tn : Nat → Int) (a b c : Int) (n : Nat) : offs sp tn a b c (n + 1) = offs sp tn a b c n + ((Int.tdiv (a * sp n + b) c - tn n).natAbs : Int) := rfl
theorem offs_mono {sp tn : Nat → Int} {a b c : Int} {m n : Nat} (h : m ≤ n) : offs sp tn a b c m ≤ offs sp tn a b c n := by
  induction h with
  | refl => exact Int.le_refl _
  | step _ ih => rw [offs_s]; omega
theorem as_in {a s : Int} (ha : 0 ≤ a ∧ a ≤ 20) (hs : 0 ≤ s ∧ s ≤ 999) : 0 ≤ a * s ∧ a * s ≤ 20 * 999 := ⟨Int.mul_nonneg ha.1 hs.1, Int.mul_le_mul ha.2 hs.2 hs.1 (by decide)⟩
theorem td_in {x c : Int} (hx : -20 ≤ x ∧ x ≤ 20000) (hc : 1 ≤ c) : -20 ≤ Int.tdiv x c ∧ Int.tdiv x c ≤ 20000 := by
  by_cases h : 0 ≤ x
  · rw [Int.tdiv_eq_ediv_of_nonneg h]
    have h1 := Int.ediv_nonneg h (show 0 ≤ c by omega)
    have h2 := Int.ediv_le_self c h
    omega
  · have h1 := Int.natAbs_tdiv x c
    have h2 := Nat.div_le_self x.natAbs c.natAbs
    have h3 : (Int.tdiv x c).natAbs ≤ x.natAbs := Nat.le_trans (Nat.le_of_eq h1) h2
    clear h1 h2
    omega
theorem offs_in {g : am_G} {P : Nat} (hR : Rng P 0 g) {a b c : Int} (ha : 0 ≤ a ∧ a ≤ 20) (hb : -20 ≤ b ∧ b ≤ 20) (hc : 1 ≤ c) : ∀ n, n ≤ 20 → 0 ≤ offs (g 21) (g 22) a b c n ∧ offs (g 21) (g 22) a b c n ≤ 21000 * (n : Int) := by
  intro n
  induction n with
  | zero => intro _; exact ⟨Int.le_refl _, Int.le_refl _⟩
  | succ n ih =>
    intro hn
    have h0 := ih (by omega)
    have h1 := hR.r21_24 n (by omega)
    have h2 := hR.r22_25 n (by omega)
    have h3 := as_in ha h1
    have h4 := td_in (x := a * g 21 n + b) (c := c) (by omega) hc
    rw [offs_s]
    omega
/-- the best of the first m -/
def BQ (sp tn : Nat → Int) (n m : Nat) (l a b c : Int) : Prop := (m = 0 ∧ l = 1073741824) ∨ ∃ q, q < m ∧ l = offq sp tn n q ∧ (∀ p, p < m → offq sp tn n q ≤ offq sp tn n p) ∧ (∀ p, p < q → offq sp tn n q < offq sp tn n p) ∧ a = lwA q ∧ b = lwB q ∧ c = lwC q
theorem BQ.lt {sp tn : Nat → Int} {n m : Nat} {l a b c : Int} (h : BQ sp tn n m l a b c) (hT : offq sp tn n m < l) : BQ sp tn n (m + 1) (offq sp tn n m) (lwA m) (lwB m) (lwC m) := by
  refine Or.inr ⟨m, Nat.lt_succ_self m, rfl, fun p hp => ?_, fun p hp => ?_, rfl, rfl, rfl⟩
  · rcases h with ⟨h1, h2⟩ | ⟨q, h1, h2, h3, h4, h5⟩
    · rw [show p = m by omega]; exact Int.le_refl _
    · by_cases e : p = m
      · rw [e]; exact Int.le_refl _
      · have := h3 p (by omega); omega
  · rcases h with ⟨h1, h2⟩ | ⟨q, h1, h2, h3, h4, h5⟩
    · omega
    · have := h3 p hp; omega
theorem BQ.ge {sp tn : Nat → Int} {n m : Nat} {l a b c : Int} (h : BQ sp tn n m l a b c) (hb : offq sp tn n m < 1073741824) (hT : ¬ offq sp tn n m < l) : BQ sp tn n (m + 1) l a b c := by
  rcases h with ⟨h1, h2⟩ | ⟨q, h1, h2, h3, h4, h5⟩
  · exact absurd hb (by rw [← h2]; exact hT)
  · refine Or.inr ⟨q, by omega, h2, fun p hp => ?_, h4, h5⟩
    by_cases e : p = m
    · rw [e]; omega
    · exact h3 p (by omega)
theorem BQ.end {sp tn : Nat → Int} {n : Nat} {l a b c : Int} (h : BQ sp tn n 17220 l a b c) : ShA sp tn n l a b c := by
  rcases h with ⟨h1, h2⟩ | ⟨q, h1, h2, h3, h4, h5⟩
  · exact absurd h1 (by decide)
  · exact ⟨q, h1, h2, h3, h4, h5⟩
theorem offq_at (sp tn : Nat → Int) (n : Nat) {k i j : Nat} (hi : i < 21) (hj : j < 41) : offq sp tn n ((k * 21 + i) * 41 + j) = offs sp tn (i : Int) ((j : Int) - 20) ((k : Int) + 1) n ∧ lwA ((k * 21 + i) * 41 + j) = (i : Int) ∧ lwB ((k * 21 + i) * 41 + j) = (j : Int) - 20 ∧ lwC ((k * 21 + i) * 41 + j) = (k : Int) + 1 := by
  have a : lwA ((k * 21 + i) * 41 + j) = (i : Int) := by unfold lwA; omega
  have b : lwB ((k * 21 + i) * 41 + j) = (j : Int) - 20 := by unfold lwB; omega
  have c : lwC ((k * 21 + i) * 41 + j) = (k : Int) + 1 := by unfold lwC; omega
  exact ⟨by unfold offq; rw [a, b, c], a, b, c⟩
set_option maxHeartbeats 400000 in
set_option maxRecDepth 20000 in
theorem e_abs {sn : Nat} {sx : Nat → Int} {g : am_G} {sh : am_Sh} {x : Int} (hx : -2147483648 < x ∧ x < 2147483648) : Ev sn sx 1 254 [(0, x)] sh g (fun r => r = (some (0, (x.natAbs : Int)), sh, g)) := by
  refine ev_of (K := 0) T254 (by decide) rfl rfl (Nat.le_of_ble_eq_true rfl) ?_
  refine wp_eq (L' := [(0, x)]) (st' := []) (g' := g) ?_
  refine wp_n 1 (pc' := 1) (L' := [(0, x)]) (st' := [(0, x)]) (g' := g) rfl ?_
  refine wp_if_ge rfl (fun c1 => ?_) (fun c1 => ?_)
  · refine wp_n 1 (pc' := 10) (L' := [(0, x)]) (st' := [(0, x)]) (g' := g) rfl ?_
    exact wp_ret rfl rfl rfl (by rw [show (x.natAbs : Int) = x by omega])
  · refine wp_n 3 (pc' := 10) (L' := [(0, x)]) (st' := [(0, (-x))]) (g' := g) rfl ?_
    exact wp_ret rfl rfl rfl (by rw [show (x.natAbs : Int) = -x by omega])
set_option maxHeartbeats 400000 in
set_option maxRecDepth 20000 in
theorem m_abs {sn : Nat} {sx : Nat → Int} {g : am_G} {sh : am_Sh} {x : Int} (hx : -2147483648 < x ∧ x < 2147483648) : Ev sn sx 1 152 [(0, x)] sh g (fun r => r = (some (0, (x.natAbs : Int)), sh, g)) := by
  refine ev_of (K := 0) T152 (by decide) rfl rfl (Nat.le_of_ble_eq_true rfl) ?_
  refine wp_eq (L' := [(0, x)]) (st' := []) (g' := g) ?_
  refine wp_n 1 (pc' := 1) (L' := [(0, x)]) (st' := [(0, x)]) (g' := g) rfl ?_
  refine wp_if_ge rfl (fun c1 => ?_) (fun c1 => ?_)
  · refine wp_n 1 (pc' := 10) (L' := [(0, x)]) (st' := [(0, x)]) (g' := g) rfl ?_
    exact wp_ret rfl rfl rfl (by rw [show (x.natAbs : Int) = x by omega])
  · refine wp_n 3 (pc' := 10) (L' := [(0, x)]) (st' := [(0, (-x))]) (g' := g) rfl ?_
    exact wp_ret rfl rfl rfl (by rw [show (x.natAbs : Int) = -x by omega])
set_option maxHeartbeats 400000 in
set_option maxRecDepth 20000 in
theorem e_compare {sn : Nat} {sx : Nat → Int} {b : Nat} {g : am_G} {P n : Nat} {sp tn : Nat → Int} {a e c : Int} (hR : Rng P 0 g) (h21 : g 21 = sp) (h22 : g 22 = tn) (hnn : g 10 14 = (n : Int)) (ha : 0 ≤ a ∧ a ≤ 20) (he : -20 ≤ e ∧ e ≤ 20) (hc : 1 ≤ c ∧ c ≤ 20) (hl : 0 ≤ g 120 13 ∧ g 120 13 ≤ 2147483647) : Ev sn sx 2 50 [(2, 120), (2, 10), (0, a), (0, e), (0, c)] (SH b) g (fun r => (offs sp tn a e c n < g 120 13 ∧ r = (none, SH b, am_up (am_up (am_up (am_up g 120 13 (offs sp tn a e c n)) 120 14 a) 120 15 e) 120 16 c)) ∨ (¬ offs sp tn a e c n < g 120 13 ∧ r = (none, SH b, g))) := by
  have hn := hR.r10_8 14 rfl
  refine ev_of (K := 1) T50 (by decide) rfl rfl (Nat.le_of_ble_eq_true rfl) ?_
  refine wp_eq (L' := [(2, 120), (2, 10), (0, a), (0, e), (0, c), (9, 0), (9, 0)]) (st' := []) (g' := g) ?_
  refine wp_n 1 (pc' := 2) (L' := [(2, 120), (2, 10), (0, a), (0, e), (0, c), (9, 0), (9, 0)]) (st' := [(0, c)]) (g' := g) rfl ?_
  refine wp_if_gt rfl (fun c1 => ?_) (fun c1 => ?_)
  · refine wp_n 4 (pc' := 12) (L' := [(2, 120), (2, 10), (0, a), (0, e), (0, c), (0, 0), (0, 0)]) (st' := []) (g' := g) rfl ?_
    have L12 : ∀ (lf : Nat) (i : Nat), n - i < lf → (i ≤ n) → Wp sn sx 1 T50 12 [(2, 120), (2, 10), (0, a), (0, e), (0, c), (0, (offs sp tn a e c i)), (0, ((i : Nat) : Int))] [] (SH b) g (fun r => (offs sp tn a e c n < g 120 13 ∧ r = (none, SH b, am_up (am_up (am_up (am_up g 120 13 (offs sp tn a e c n)) 120 14 a) 120 15 e) 120 16 c)) ∨ (¬ offs sp tn a e c n < g 120 13 ∧ r = (none, SH b, g))) := by
      intro lf
      induction lf with
      | zero => intro i hlf; exact absurd hlf (Nat.not_lt_zero _)
      | succ lf ih12 =>
        intro i hlf hi
        have hof := offs_in hR ha he hc.1 i (by omega)
        rw [h21, h22] at hof
        have hmo := offs_mono (sp := sp) (tn := tn) (a := a) (b := e) (c := c) hi
        refine wp_n 3 (pc' := 18) (L' := [(2, 120), (2, 10), (0, a), (0, e), (0, c), (0, (offs sp tn a e c i)), (0, ((i : Nat) : Int))]) (st' := [(0, (g 10 14)), (0, ((i : Nat) : Int))]) (g' := g) rfl ?_
        refine wp_eq (L' := [(2, 120), (2, 10), (0, a), (0, e), (0, c), (0, (offs sp tn a e c i)), (0, ((i : Nat) : Int))]) (st' := [(0, ((n : Nat) : Int)), (0, ((i : Nat) : Int))]) (g' := g) ?_ (by rfl) (by rw [hnn]) (by rfl)
        refine wp_ic_ge rfl (fun c2 => ?_) (fun c2 => ?_)
        · have hk2 : offs sp tn a e c i = offs sp tn a e c n := by rw [show i = n by omega]
          refine wp_n 3 (pc' := 72) (L' := [(2, 120), (2, 10), (0, a), (0, e), (0, c), (0, (offs sp tn a e c i)), (0, ((i : Nat) : Int))]) (st' := [(0, (g 120 13)), (0, (offs sp tn a e c i))]) (g' := g) rfl ?_
          refine wp_ic_ge rfl (fun c3 => ?_) (fun c3 => ?_)
          · exact wp_ret rfl rfl rfl (Or.inr ⟨by omega, rfl⟩)
          · refine wp_n 12 (pc' := 97) (L' := [(2, 120), (2, 10), (0, a), (0, e), (0, c), (0, (offs sp tn a e c i)), (0, ((i : Nat) : Int))]) (st' := []) (g' := (am_up (am_up (am_up (am_up g 120 13 (offs sp tn a e c i)) 120 14 a) 120 15 e) 120 16 c)) rfl ?_
            exact wp_ret rfl rfl rfl (Or.inl ⟨by omega, by rw [← hk2]⟩)
        · have h1 := hR.r21_24 i (by omega)
          have h2 := hR.r22_25 i (by omega)
          rw [h21] at h1
          rw [h22] at h2
          have h3 := as_in ha h1
          have h4 := td_in (x := a * sp i + e) (c := c) (by omega) hc.1
          refine wp_n 3 (pc' := 27) (L' := [(2, 120), (2, 10), (0, a), (0, e), (0, c), (0, (offs sp tn a e c i)), (0, ((i : Nat) : Int))]) (st' := [(0, (g 120 13)), (0, (offs sp tn a e c i))]) (g' := g) rfl ?_
          refine wp_ic_ge rfl (fun c4 => ?_) (fun c4 => ?_)
          · refine wp_n 3 (pc' := 72) (L' := [(2, 120), (2, 10), (0, a), (0, e), (0, c), (0, (offs sp tn a e c i)), (0, ((i : Nat) : Int))]) (st' := [(0, (g 120 13)), (0, (offs sp tn a e c i))]) (g' := g) rfl ?_
            refine wp_ic_ge rfl (fun c5 => ?_) (fun c5 => ?_)
            · exact wp_ret rfl rfl rfl (Or.inr ⟨by omega, rfl⟩)
            · refine wp_n 12 (pc' := 97) (L' := [(2, 120), (2, 10), (0, a), (0, e), (0, c), (0, (offs sp tn a e c i)), (0, ((i : Nat) : Int))]) (st' := []) (g' := (am_up (am_up (am_up (am_up g 120 13 (offs sp tn a e c i)) 120 14 a) 120 15 e) 120 16 c)) rfl ?_
              exfalso; omega
          · refine wp_n 5 (pc' := 39) (L' := [(2, 120), (2, 10), (0, a), (0, e), (0, c), (0, (offs sp tn a e c i)), (0, ((i : Nat) : Int))]) (st' := [(0, ((i : Nat) : Int)), (2, 21), (0, a), (0, (offs sp tn a e c i))]) (g' := g) rfl ?_
            refine wp_iald (k := 21) (i) rfl rfl (by omega) (by omega) (by decide) ?_
            refine wp_eq (L' := [(2, 120), (2, 10), (0, a), (0, e), (0, c), (0, (offs sp tn a e c i)), (0, ((i : Nat) : Int))]) (st' := [(0, (sp i)), (0, a), (0, (offs sp tn a e c i))]) (g' := g) ?_ (by rfl) (by rw [h21]) (by rfl)
            refine wp_n 4 (pc' := 45) (L' := [(2, 120), (2, 10), (0, a), (0, e), (0, c), (0, (offs sp tn a e c i)), (0, ((i : Nat) : Int))]) (st' := [(0, c), (0, ((a * (sp i)) + e)), (0, (offs sp tn a e c i))]) (g' := g) rfl ?_
            refine wp_idiv rfl (by omega) (by omega) (by omega) ?_
            refine wp_n 3 (pc' := 52) (L' := [(2, 120), (2, 10), (0, a), (0, e), (0, c), (0, (offs sp tn a e c i)), (0, ((i : Nat) : Int))]) (st' := [(0, ((i : Nat) : Int)), (2, 22), (0, (Int.tdiv ((a * (sp i)) + e) c)), (0, (offs sp tn a e c i))]) (g' := g) rfl ?_
            refine wp_iald (k := 22) (i) rfl rfl (by omega) (by omega) (by decide) ?_
            refine wp_eq (L' := [(2, 120), (2, 10), (0, a), (0, e), (0, c), (0, (offs sp tn a e c i)), (0, ((i : Nat) : Int))]) (st' := [(0, (tn i)), (0, (Int.tdiv ((a * (sp i)) + e) c)), (0, (offs sp tn a e c i))]) (g' := g) ?_ (by rfl) (by rw [h22]) (by rfl)
            refine wp_n 1 (pc' := 54) (L' := [(2, 120), (2, 10), (0, a), (0, e), (0, c), (0, (offs sp tn a e c i)), (0, ((i : Nat) : Int))]) (st' := [(0, ((Int.tdiv ((a * (sp i)) + e) c) - (tn i))), (0, (offs sp tn a e c i))]) (g' := g) rfl ?_
            refine wp_cs (as := [(0, ((Int.tdiv ((a * (sp i)) + e) c) - (tn i)))]) (rest := [(0, (offs sp tn a e c i))]) rfl (by decide) rfl (Nat.le_of_ble_eq_true rfl) (e_abs (by omega)) (by decide) (fun r6 h7 => ?_)
            obtain rfl := h7
            refine wp_eq (L' := [(2, 120), (2, 10), (0, a), (0, e), (0, c), (0, (offs sp tn a e c i)), (0, ((i : Nat) : Int))]) (st' := [(0, ((((Int.tdiv ((a * (sp i)) + e) c) - (tn i))).natAbs : Int)), (0, (offs sp tn a e c i))]) (g' := g) ?_
            refine wp_n 4 (pc' := 12) (L' := [(2, 120), (2, 10), (0, a), (0, e), (0, c), (0, ((offs sp tn a e c i) + ((((Int.tdiv ((a * (sp i)) + e) c) - (tn i))).natAbs : Int))), (0, (((i : Nat) : Int) + 1))]) (st' := []) (g' := g) rfl ?_
            refine wp_eq (ih12 (i + 1) ?_ ?_) (by rw [offs_s]; rfl) (by rfl) (by rfl)
            · omega
            · omega
    refine wp_eq (L12 (_ + 1) (0) (Nat.lt_succ_self _) ?_) (by first | rfl | (simp; done) | (simp; omega)) (by rfl) (by rfl)
    · exact Nat.zero_le _
  · exfalso; omega
set_option maxHeartbeats 400000 in
set_option maxRecDepth 20000 in
theorem e_learn {sn : Nat} {sx : Nat → Int} {b : Nat} {g : am_G} {P n : Nat} (hI : CInv P g) (hnn : g 10 14 = (n : Int)) : Ev sn sx 3 49 [(2, 120), (2, 10)] (SH b) g (fun r => ∃ g', r = (none, SH b, g') ∧ g' 120 12 = 1 ∧ ShA (g 21) (g 22) n (g' 120 13) (g' 120 14) (g' 120 15) (g' 120 16) ∧ (∀ q w, ¬ (q = 120 ∧ 12 ≤ w) → g' q w = g q w)) := by
  have hn := hI.rg.r10_8 14 rfl
  have hcal := hI.cal
  unfold CaL at hcal
  rw [show (g 10 14).toNat = n by omega] at hcal
  have hc01 : g 120 12 = 0 ∨ g 120 12 = 1 := by rcases hcal with e | e; exact Or.inl e; exact Or.inr e.1
  refine ev_of (K := 2) T49 (by decide) rfl rfl (Nat.le_of_ble_eq_true rfl) ?_
  refine wp_eq (L' := [(2, 120), (2, 10), (9, 0), (9, 0), (9, 0)]) (st' := []) (g' := g) ?_
  refine wp_n 2 (pc' := 4) (L' := [(2, 120), (2, 10), (9, 0), (9, 0), (9, 0)]) (st' := [(0, (g 120 12))]) (g' := g) rfl ?_
  refine wp_if_eq rfl (fun c1 => ?_) (fun c1 => ?_)
  · refine wp_n 8 (pc' := 21) (L' := [(2, 120), (2, 10), (0, 1), (9, 0), (9, 0)]) (st' := []) (g' := (am_up (am_up g 120 12 1) 120 13 1073741824)) rfl ?_
    have L21 : ∀ (lf : Nat) (k : Nat) (h : am_G) (w3 w4 : am_V), 20 - k < lf → (k ≤ 20) → (BQ (g 21) (g 22) n (k * 861) (h 120 13) (h 120 14) (h 120 15) (h 120 16)) → (h 120 12 = 1) → (∀ q w, ¬ (q = 120 ∧ 12 ≤ w) → h q w = g q w) → Wp sn sx 2 T49 21 [(2, 120), (2, 10), (0, ((k : Int) + 1)), w3, w4] [] (SH b) h (fun r => ∃ g', r = (none, SH b, g') ∧ g' 120 12 = 1 ∧ ShA (g 21) (g 22) n (g' 120 13) (g' 120 14) (g' 120 15) (g' 120 16) ∧ (∀ q w, ¬ (q = 120 ∧ 12 ≤ w) → g' q w = g q w)) := by
      intro lf
      induction lf with
      | zero => intro k h w3 w4 hlf; exact absurd hlf (Nat.not_lt_zero _)
      | succ lf ih21 =>
        intro k h w3 w4 hlf hk hB h12 hF
        refine wp_n 2 (pc' := 24) (L' := [(2, 120), (2, 10), (0, ((k : Int) + 1)), w3, w4]) (st' := [(0, 20), (0, ((k : Int) + 1))]) (g' := h) rfl ?_
        refine wp_ic_gt rfl (fun c2 => ?_) (fun c2 => ?_)
        · have hk20 : k = 20 := by omega
          exact wp_ret rfl rfl rfl ⟨_, rfl, h12, BQ.end (by rw [hk20] at hB; exact hB), hF⟩
        · have hk20 : k < 20 := by omega
          refine wp_n 2 (pc' := 29) (L' := [(2, 120), (2, 10), (0, ((k : Int) + 1)), (0, 0), w4]) (st' := []) (g' := h) rfl ?_
          have L29 : ∀ (lf : Nat) (i : Nat) (h : am_G) (w4 : am_V), 21 - i < lf → (i ≤ 21) → (BQ (g 21) (g 22) n ((k * 21 + i) * 41) (h 120 13) (h 120 14) (h 120 15) (h 120 16)) → (h 120 12 = 1) → (∀ q w, ¬ (q = 120 ∧ 12 ≤ w) → h q w = g q w) → Wp sn sx 2 T49 29 [(2, 120), (2, 10), (0, ((k : Int) + 1)), (0, ((i : Nat) : Int)), w4] [] (SH b) h (fun r => ∃ g', r = (none, SH b, g') ∧ g' 120 12 = 1 ∧ ShA (g 21) (g 22) n (g' 120 13) (g' 120 14) (g' 120 15) (g' 120 16) ∧ (∀ q w, ¬ (q = 120 ∧ 12 ≤ w) → g' q w = g q w)) := by
            intro lf
            induction lf with
            | zero => intro i h w4 hlf; exact absurd hlf (Nat.not_lt_zero _)
            | succ lf ih29 =>
              intro i h w4 hlf hi hB h12 hF
              refine wp_n 2 (pc' := 32) (L' := [(2, 120), (2, 10), (0, ((k : Int) + 1)), (0, ((i : Nat) : Int)), w4]) (st' := [(0, 20), (0, ((i : Nat) : Int))]) (g' := h) rfl ?_
              refine wp_ic_gt rfl (fun c3 => ?_) (fun c3 => ?_)
              · have hi21 : i = 21 := by omega
                refine wp_n 2 (pc' := 21) (L' := [(2, 120), (2, 10), (0, (((k : Int) + 1) + 1)), (0, ((i : Nat) : Int)), w4]) (st' := []) (g' := h) rfl ?_
                refine wp_eq (ih21 (k + 1) (h) ((0, ((i : Nat) : Int))) (w4) ?_ ?_ ?_ ?_ ?_) (by rw [show (((k + 1 : Nat) : Int) + 1) = (((k : Int) + 1) + 1) by omega]) (by rfl) (by rfl)
                · omega
                · omega
                · rw [show (k + 1) * 861 = (k * 21 + i) * 41 by omega]; exact hB
                · exact h12
                · exact hF
              · have hi20 : i < 21 := by omega
                refine wp_n 2 (pc' := 39) (L' := [(2, 120), (2, 10), (0, ((k : Int) + 1)), (0, ((i : Nat) : Int)), (0, (-20))]) (st' := []) (g' := h) rfl ?_
                have L39 : ∀ (lf : Nat) (j : Nat) (h : am_G), 41 - j < lf → (j ≤ 41) → (BQ (g 21) (g 22) n ((k * 21 + i) * 41 + j) (h 120 13) (h 120 14) (h 120 15) (h 120 16)) → (h 120 12 = 1) → (∀ q w, ¬ (q = 120 ∧ 12 ≤ w) → h q w = g q w) → Wp sn sx 2 T49 39 [(2, 120), (2, 10), (0, ((k : Int) + 1)), (0, ((i : Nat) : Int)), (0, ((j : Int) - 20))] [] (SH b) h (fun r => ∃ g', r = (none, SH b, g') ∧ g' 120 12 = 1 ∧ ShA (g 21) (g 22) n (g' 120 13) (g' 120 14) (g' 120 15) (g' 120 16) ∧ (∀ q w, ¬ (q = 120 ∧ 12 ≤ w) → g' q w = g q w)) := by
                  intro lf
                  induction lf with
                  | zero => intro j h hlf; exact absurd hlf (Nat.not_lt_zero _)
                  | succ lf ih39 =>
                    intro j h hlf hj hB h12 hF
                    refine wp_n 2 (pc' := 43) (L' := [(2, 120), (2, 10), (0, ((k : Int) + 1)), (0, ((i : Nat) : Int)), (0, ((j : Int) - 20))]) (st' := [(0, 20), (0, ((j : Int) - 20))]) (g' := h) rfl ?_
                    refine wp_ic_gt rfl (fun c4 => ?_) (fun c4 => ?_)
                    · have hj41 : j = 41 := by omega
                      refine wp_n 2 (pc' := 29) (L' := [(2, 120), (2, 10), (0, ((k : Int) + 1)), (0, (((i : Nat) : Int) + 1)), (0, ((j : Int) - 20))]) (st' := []) (g' := h) rfl ?_
                      refine wp_eq (ih29 (i + 1) (h) ((0, ((j : Int) - 20))) ?_ ?_ ?_ ?_ ?_) (by first | rfl | (simp; done) | (simp; omega)) (by rfl) (by rfl)
                      · omega
                      · omega
                      · rw [show (k * 21 + (i + 1)) * 41 = (k * 21 + i) * 41 + j by omega]; exact hB
                      · exact h12
                      · exact hF
                    · have hj40 : j < 41 := by omega
                      have hk19 : k < 20 := by omega
                      have hoi := offs_in hI.rg (a := (i : Int)) (b := (j : Int) - 20) (c := (k : Int) + 1) (by omega) (by omega) (by omega) n (by omega)
                      have hbl : 0 ≤ h 120 13 ∧ h 120 13 ≤ 2147483647 := by
                        rcases hB with e | ⟨q, e1, e2, e3, e4, e5, e6, e7⟩
                        · omega
                        · have hq := offs_in hI.rg (a := lwA q) (b := lwB q) (c := lwC q) (by unfold lwA; omega) (by unfold lwB; omega) (by unfold lwC; omega) n (by omega)
                          unfold offq at e2
                          omega
                      refine wp_n 5 (pc' := 52) (L' := [(2, 120), (2, 10), (0, ((k : Int) + 1)), (0, ((i : Nat) : Int)), (0, ((j : Int) - 20))]) (st' := [(0, ((k : Int) + 1)), (0, ((j : Int) - 20)), (0, ((i : Nat) : Int)), (2, 10), (2, 120)]) (g' := h) rfl ?_
                      refine wp_cv (as := [(2, 120), (2, 10), (0, ((i : Nat) : Int)), (0, ((j : Int) - 20)), (0, ((k : Int) + 1))]) (rest := []) rfl rfl rfl (Nat.le_of_ble_eq_true rfl) rfl (e_compare (P := P) (n := n) (sp := g 21) (tn := g 22) (hI.rg.same fun q w a1 a2 => hF q w (by omega)) (funext fun w => hF 21 w (by omega)) (funext fun w => hF 22 w (by omega)) (by rw [hF 10 14 (by omega)]; exact hnn) (by omega) (by omega) (by omega) hbl) (by decide) (fun r5 h6 => ?_)
                      rcases h6 with ⟨p52, rfl⟩ | ⟨p52, rfl⟩
                      · refine wp_eq (L' := [(2, 120), (2, 10), (0, ((k : Int) + 1)), (0, ((i : Nat) : Int)), (0, ((j : Int) - 20))]) (st' := []) (g' := (am_up (am_up (am_up (am_up h 120 13 (offs (g 21) (g 22) ((i : Nat) : Int) ((j : Int) - 20) ((k : Int) + 1) n)) 120 14 ((i : Nat) : Int)) 120 15 ((j : Int) - 20)) 120 16 ((k : Int) + 1))) ?_
                        refine wp_n 2 (pc' := 39) (L' := [(2, 120), (2, 10), (0, ((k : Int) + 1)), (0, ((i : Nat) : Int)), (0, (((j : Int) - 20) + 1))]) (st' := []) (g' := (am_up (am_up (am_up (am_up h 120 13 (offs (g 21) (g 22) ((i : Nat) : Int) ((j : Int) - 20) ((k : Int) + 1) n)) 120 14 ((i : Nat) : Int)) 120 15 ((j : Int) - 20)) 120 16 ((k : Int) + 1))) rfl ?_
                        refine wp_eq (ih39 (j + 1) ((am_up (am_up (am_up (am_up h 120 13 (offs (g 21) (g 22) ((i : Nat) : Int) ((j : Int) - 20) ((k : Int) + 1) n)) 120 14 ((i : Nat) : Int)) 120 15 ((j : Int) - 20)) 120 16 ((k : Int) + 1))) ?_ ?_ ?_ ?_ ?_) (by rw [show (((j + 1 : Nat) : Int) - 20) = (((j : Int) - 20) + 1) by omega]) (by rfl) (by rfl)
                        · omega
                        · omega
                        · first
                          | (have hat := offq_at (g 21) (g 22) n (k := k) (i := i) (j := j) (by omega) (by omega)
                             rw [← hat.1] at p52
                             have hb2 := BQ.lt hB p52
                             rw [hat.1, hat.2.1, hat.2.2.1, hat.2.2.2] at hb2
                             rw [up_no (by omega), up_no (by omega), up_no (by omega), up_eq, up_no (by omega), up_no (by omega), up_eq, up_no (by omega), up_eq, up_eq]
                             exact hb2)
                          | (have hat := offq_at (g 21) (g 22) n (k := k) (i := i) (j := j) (by omega) (by omega)
                             have hlt : offq (g 21) (g 22) n ((k * 21 + i) * 41 + j) < 1073741824 := by rw [hat.1]; omega
                             rw [← hat.1] at p52
                             exact BQ.ge hB hlt p52)
                        · first | exact h12 | (rw [up_no (by omega), up_no (by omega), up_no (by omega), up_no (by omega)]; exact h12)
                        · first | exact hF | exact fun q w hq => by rw [up_no (by omega), up_no (by omega), up_no (by omega), up_no (by omega)]; exact hF q w hq
                      · refine wp_eq (L' := [(2, 120), (2, 10), (0, ((k : Int) + 1)), (0, ((i : Nat) : Int)), (0, ((j : Int) - 20))]) (st' := []) (g' := h) ?_
                        refine wp_n 2 (pc' := 39) (L' := [(2, 120), (2, 10), (0, ((k : Int) + 1)), (0, ((i : Nat) : Int)), (0, (((j : Int) - 20) + 1))]) (st' := []) (g' := h) rfl ?_
                        refine wp_eq (ih39 (j + 1) (h) ?_ ?_ ?_ ?_ ?_) (by rw [show (((j + 1 : Nat) : Int) - 20) = (((j : Int) - 20) + 1) by omega]) (by rfl) (by rfl)
                        · omega
                        · omega
                        · first
                          | (have hat := offq_at (g 21) (g 22) n (k := k) (i := i) (j := j) (by omega) (by omega)
                             rw [← hat.1] at p52
                             have hb2 := BQ.lt hB p52
                             rw [hat.1, hat.2.1, hat.2.2.1, hat.2.2.2] at hb2
                             rw [up_no (by omega), up_no (by omega), up_no (by omega), up_eq, up_no (by omega), up_no (by omega), up_eq, up_no (by omega), up_eq, up_eq]
                             exact hb2)
                          | (have hat := offq_at (g 21) (g 22) n (k := k) (i := i) (j := j) (by omega) (by omega)
                             have hlt : offq (g 21) (g 22) n ((k * 21 + i) * 41 + j) < 1073741824 := by rw [hat.1]; omega
                             rw [← hat.1] at p52
                             exact BQ.ge hB hlt p52)
                        · first | exact h12 | (rw [up_no (by omega), up_no (by omega), up_no (by omega), up_no (by omega)]; exact h12)
                        · first | exact hF | exact fun q w hq => by rw [up_no (by omega), up_no (by omega), up_no (by omega), up_no (by omega)]; exact hF q w hq
                refine wp_eq (L39 (_ + 1) (0) (h) (Nat.lt_succ_self _) ?_ ?_ ?_ ?_) (by rfl) (by rfl) (by rfl)
                · exact Nat.zero_le _
                · exact hB
                · exact h12
                · exact hF
          refine wp_eq (L29 (_ + 1) (0) (h) (w4) (Nat.lt_succ_self _) ?_ ?_ ?_ ?_) (by first | rfl | (simp; done) | (simp; omega)) (by rfl) (by rfl)
          · exact Nat.zero_le _
          · rw [show (k * 21 + 0) * 41 = k * 861 by omega]; exact hB
          · exact h12
          · exact hF
    refine wp_eq (L21 (_ + 1) (0) ((am_up (am_up g 120 12 1) 120 13 1073741824)) ((9, 0)) ((9, 0)) (Nat.lt_succ_self _) ?_ ?_ ?_ ?_) (by rfl) (by rfl) (by rfl)
    · exact Nat.zero_le _
    · exact Or.inl ⟨rfl, up_eq⟩
    · rw [up_no (by omega), up_eq]
    · exact fun q w hq => by rw [up_no (by omega), up_no (by omega)]
  · exact wp_ret rfl rfl rfl ⟨_, rfl, by omega, by rcases hcal with e | e; exact absurd e (by omega); exact e.2, fun _ _ _ => rfl⟩
def SoD (w n : Int) : Prop := 0 ≤ w ∧ w ≤ 3 ∧ n ≠ 0
def SoA (c : am_G) (w v : Int) : Prop := (SoD w (c 10 14) ∧ ∃ l a b d, ShA (c 21) (c 22) (c 10 14).toNat l a b d ∧ v = if w = 0 then l else if w = 1 then a else if w = 2 then b else d) ∨ (¬ SoD w (c 10 14) ∧ v = -1000)
theorem SoA.uniq {c : am_G} {w v v' : Int} (h : SoA c w v) (h' : SoA c w v') : v = v' := by
  rcases h with ⟨h1, l, a, b, d, h2, h3⟩ | h <;> rcases h' with ⟨h1', l', a', b', d', h2', h3'⟩ | h'
  · obtain ⟨rfl, rfl, rfl, rfl⟩ := h2.uniq h2'
    exact h3.trans h3'.symm
  · exact absurd h1 h'.1
  · exact absurd h1' h.1
  · exact h.2.trans h'.2.symm
theorem CInv.keepL {P : Nat} {g g' : am_G} (h : CInv P g) (hF : ∀ q w, ¬ (q = 120 ∧ 12 ≤ w) → g' q w = g q w) (hL : CaL g') : CInv P g' := by
  exact ⟨h.ck.same fun c j q => hF c j (by omega), h.rg.same fun c j a b => hF c j (by omega), h.rgi.same fun c j a b => hF c j (by omega), h.e24.same fun c j q => hF c j (by omega), h.e24i.same fun c j q => hF c j (by omega), h.tx.same fun c j a b => hF c j (by omega), h.txi.same fun c j a b => hF c j (by omega), h.ti.same fun c j q => hF c j (by omega), h.tap.same fun c j q => hF c j (by omega), h.cls.same fun c j a b => hF c j (by omega), h.wls.same fun c j a b => hF c j (by omega), h.caw.same fun c j q => hF c j (by omega), hL⟩
set_option maxHeartbeats 400000 in
set_option maxRecDepth 20000 in
theorem e_shoe {sn : Nat} {sx : Nat → Int} {b : Nat} {g : am_G} {P : Nat} {w : Int} (h_w : R32 w) (hI : CInv P g) : Ev sn sx 4 127 [(2, 0), (0, w)] (SH b) g (fun y => ∃ g' v, y = (some (0, v), SH b, g') ∧ SoA g w v ∧ CInv P g' ∧ (∀ q z, ¬ (q = 120 ∧ 12 ≤ z) → g' q z = g q z)) := by
  have hn := hI.rg.r10_8 14 rfl
  obtain ⟨n, hnn⟩ : ∃ n : Nat, g 10 14 = (n : Int) := ⟨(g 10 14).toNat, by omega⟩
  refine ev_of (K := 3) T127 (by decide) rfl rfl (Nat.le_of_ble_eq_true rfl) ?_
  refine wp_eq (L' := [(2, 0), (0, w)]) (st' := []) (g' := g) ?_
  refine wp_n 3 (pc' := 3) (L' := [(2, 0), (0, w)]) (st' := [(0, 3), (0, 0), (0, w)]) (g' := g) rfl ?_
  refine wp_cs (as := [(0, w), (0, 0), (0, 3)]) (rest := []) rfl (by decide) rfl (Nat.le_of_ble_eq_true rfl) (e_within (by omega) (by omega) (by omega)) (by decide) (fun r2 h3 => ?_)
  rcases h3 with ⟨rfl, p1⟩ | ⟨rfl, p1⟩
  · refine wp_eq (L' := [(2, 0), (0, w)]) (st' := [(0, 1)]) (g' := g) ?_
    refine wp_n 4 (pc' := 16) (L' := [(2, 0), (0, w)]) (st' := [(0, (g 10 14))]) (g' := g) rfl ?_
    refine wp_if_ne rfl (fun c4 => ?_) (fun c4 => ?_)
    · refine wp_n 4 (pc' := 31) (L' := [(2, 0), (0, w)]) (st' := [(2, 10), (2, 120)]) (g' := g) rfl ?_
      refine wp_cv (as := [(2, 120), (2, 10)]) (rest := []) rfl rfl rfl (Nat.le_of_ble_eq_true rfl) rfl (e_learn (P := P) (n := n) hI hnn) (by decide) (fun r5 h6 => ?_)
      obtain ⟨g31, rfl, h12, hA31, hF31⟩ := h6
      refine wp_eq (L' := [(2, 0), (0, w)]) (st' := []) (g' := g31) ?_
      refine wp_n 1 (pc' := 35) (L' := [(2, 0), (0, w)]) (st' := [(0, w)]) (g' := g31) rfl ?_
      rcases (show w = 0 ∨ w = 1 ∨ w = 2 ∨ (w < 0 ∨ 2 < w) by omega) with e7 | e7 | e7 | e7
      · refine wp_eq (L' := [(2, 0), (0, w)]) (st' := [(0, 0)]) (g' := g31) ?_ (by rfl) (by rw [e7]) (by rfl)
        refine wp_n 4 (pc' := 67) (L' := [(2, 0), (0, w)]) (st' := [(0, (g31 120 13))]) (g' := g31) rfl ?_
        exact wp_ret rfl rfl rfl ⟨_, _, rfl, Or.inl ⟨by unfold SoD; omega, _, _, _, _, (by rw [show (g 10 14).toNat = n by omega]; exact hA31), by (repeat first | rw [if_pos (by omega)] | rw [if_neg (by omega)])⟩, hI.keepL hF31 (Or.inr ⟨h12, by rw [show g31 21 = g 21 from funext fun j => hF31 21 j (by omega), show g31 22 = g 22 from funext fun j => hF31 22 j (by omega), hF31 10 14 (by omega), show (g 10 14).toNat = n by omega]; exact hA31⟩), hF31⟩
      · refine wp_eq (L' := [(2, 0), (0, w)]) (st' := [(0, 1)]) (g' := g31) ?_ (by rfl) (by rw [e7]) (by rfl)
        refine wp_n 4 (pc' := 75) (L' := [(2, 0), (0, w)]) (st' := [(0, (g31 120 14))]) (g' := g31) rfl ?_
        exact wp_ret rfl rfl rfl ⟨_, _, rfl, Or.inl ⟨by unfold SoD; omega, _, _, _, _, (by rw [show (g 10 14).toNat = n by omega]; exact hA31), by (repeat first | rw [if_pos (by omega)] | rw [if_neg (by omega)])⟩, hI.keepL hF31 (Or.inr ⟨h12, by rw [show g31 21 = g 21 from funext fun j => hF31 21 j (by omega), show g31 22 = g 22 from funext fun j => hF31 22 j (by omega), hF31 10 14 (by omega), show (g 10 14).toNat = n by omega]; exact hA31⟩), hF31⟩
      · refine wp_eq (L' := [(2, 0), (0, w)]) (st' := [(0, 2)]) (g' := g31) ?_ (by rfl) (by rw [e7]) (by rfl)
        refine wp_n 4 (pc' := 83) (L' := [(2, 0), (0, w)]) (st' := [(0, (g31 120 15))]) (g' := g31) rfl ?_
        exact wp_ret rfl rfl rfl ⟨_, _, rfl, Or.inl ⟨by unfold SoD; omega, _, _, _, _, (by rw [show (g 10 14).toNat = n by omega]; exact hA31), by (repeat first | rw [if_pos (by omega)] | rw [if_neg (by omega)])⟩, hI.keepL hF31 (Or.inr ⟨h12, by rw [show g31 21 = g 21 from funext fun j => hF31 21 j (by omega), show g31 22 = g 22 from funext fun j => hF31 22 j (by omega), hF31 10 14 (by omega), show (g 10 14).toNat = n by omega]; exact hA31⟩), hF31⟩
      · refine wp_swd (a' := 84) rfl (by omega) e7 rfl ?_
        refine wp_n 3 (pc' := 91) (L' := [(2, 0), (0, w)]) (st' := [(0, (g31 120 16))]) (g' := g31) rfl ?_
        exact wp_ret rfl rfl rfl ⟨_, _, rfl, Or.inl ⟨by unfold SoD; omega, _, _, _, _, (by rw [show (g 10 14).toNat = n by omega]; exact hA31), by (repeat first | rw [if_pos (by omega)] | rw [if_neg (by omega)])⟩, hI.keepL hF31 (Or.inr ⟨h12, by rw [show g31 21 = g 21 from funext fun j => hF31 21 j (by omega), show g31 22 = g 22 from funext fun j => hF31 22 j (by omega), hF31 10 14 (by omega), show (g 10 14).toNat = n by omega]; exact hA31⟩), hF31⟩
    · refine wp_n 1 (pc' := 22) (L' := [(2, 0), (0, w)]) (st' := [(0, (-1000))]) (g' := g) rfl ?_
      exact wp_ret rfl rfl rfl ⟨_, _, rfl, Or.inr ⟨by unfold SoD; omega, rfl⟩, hI, fun _ _ _ => rfl⟩
  · refine wp_eq (L' := [(2, 0), (0, w)]) (st' := [(0, 0)]) (g' := g) ?_
    refine wp_n 2 (pc' := 22) (L' := [(2, 0), (0, w)]) (st' := [(0, (-1000))]) (g' := g) rfl ?_
    exact wp_ret rfl rfl rfl ⟨_, _, rfl, Or.inr ⟨by unfold SoD; omega, rfl⟩, hI, fun _ _ _ => rfl⟩
theorem C_shoe {sn : Nat} {sx : Nat → Int} {b : Nat} {g : am_G} {P : Nat} {w : Int} (h_w : R32 w) (hI : CInv P g) : Ev sn sx 4 127 [(2, 0), (0, w)] (SH b) g (CPost P g (fun c1 v1 => SoA g w v1 ∧ CoE g c1)) := (e_shoe h_w hI).mono fun r hh => by
  obtain ⟨g', v, h1, h2, h3, h4⟩ := hh
  exact ⟨g', v, b, h1, h3, fun q z hq => h4 q z (by omega), h2, fun q z hq => h4 q z (by unfold Co at hq; omega)⟩
def toldA (w : Int) (q : Nat) : Int := if w = 1 then lwA q else if w = 2 then lwB q else lwC q
/-- the best of the first m, as the reference keeps it -/
def BM (sp tn : Nat → Int) (n : Nat) (w : Int) (m : Nat) (l t : Int) : Prop := (m = 0 ∧ l = -1) ∨ ∃ q, q < m ∧ l = offq sp tn n q ∧ (∀ p, p < m → offq sp tn n q ≤ offq sp tn n p) ∧ (∀ p, p < q → offq sp tn n q < offq sp tn n p) ∧ t = toldA w q
theorem BM.lt {sp tn : Nat → Int} {n : Nat} {w : Int} {m : Nat} {l t : Int} (h : BM sp tn n w m l t) (h0 : 0 ≤ offq sp tn n m) (hT : l < 0 ∨ offq sp tn n m < l) (hl : m ≠ 0 → 0 ≤ l) : BM sp tn n w (m + 1) (offq sp tn n m) (toldA w m) := by
  refine Or.inr ⟨m, Nat.lt_succ_self m, rfl, fun p hp => ?_, fun p hp => ?_, rfl⟩
  · rcases h with ⟨h1, h2⟩ | ⟨q, h1, h2, h3, h4, h5⟩
    · rw [show p = m by omega]; exact Int.le_refl _
    · by_cases e : p = m
      · rw [e]; exact Int.le_refl _
      · have := h3 p (by omega); have := hl (by omega); omega
  · rcases h with ⟨h1, h2⟩ | ⟨q, h1, h2, h3, h4, h5⟩
    · omega
    · have := h3 p hp; have := hl (by omega); omega
theorem BM.ge {sp tn : Nat → Int} {n : Nat} {w : Int} {m : Nat} {l t : Int} (h : BM sp tn n w m l t) (h0 : 0 ≤ l) (hT : l ≤ offq sp tn n m) : BM sp tn n w (m + 1) l t := by
  rcases h with ⟨h1, h2⟩ | ⟨q, h1, h2, h3, h4, h5⟩
  · omega
  · refine Or.inr ⟨q, by omega, h2, fun p hp => ?_, h4, h5⟩
    by_cases e : p = m
    · rw [e]; omega
    · exact h3 p (by omega)
set_option maxHeartbeats 2000000 in
set_option maxRecDepth 20000 in
theorem m_shoe {sn : Nat} {sx : Nat → Int} {b : Nat} {g : am_G} {c : am_G} {P : Nat} {w : Int} (h_w : R32 w) (hI : CInv P c) (hM : MRel c g) : Ev sn sx 2 248 [(2, 127), (0, w)] (SH b) g (fun y => ∃ g' v, y = (some (0, v), SH b, g') ∧ SoA c w v ∧ FrN g g') := by
  have hn := hI.rg.r10_8 14 rfl
  obtain ⟨n, hnn⟩ : ∃ n : Nat, c 10 14 = (n : Int) := ⟨(c 10 14).toNat, by omega⟩
  refine ev_of (K := 1) T248 (by decide) rfl rfl (Nat.le_of_ble_eq_true rfl) ?_
  refine wp_eq (L' := [(2, 127), (0, w), (9, 0), (9, 0), (9, 0), (9, 0), (9, 0), (9, 0), (9, 0)]) (st' := []) (g' := g) ?_
  refine wp_n 3 (pc' := 3) (L' := [(2, 127), (0, w), (9, 0), (9, 0), (9, 0), (9, 0), (9, 0), (9, 0), (9, 0)]) (st' := [(0, 3), (0, 0), (0, w)]) (g' := g) rfl ?_
  refine wp_cs (as := [(0, w), (0, 0), (0, 3)]) (rest := []) rfl (by decide) rfl (Nat.le_of_ble_eq_true rfl) (e_isIn (by omega) (by omega) (by omega)) (by decide) (fun r2 h3 => ?_)
  rcases h3 with ⟨rfl, p1⟩ | ⟨rfl, p1⟩
  · refine wp_eq (L' := [(2, 127), (0, w), (9, 0), (9, 0), (9, 0), (9, 0), (9, 0), (9, 0), (9, 0)]) (st' := [(0, 1)]) (g' := g) ?_
    refine wp_n 4 (pc' := 14) (L' := [(2, 127), (0, w), (9, 0), (9, 0), (9, 0), (9, 0), (9, 0), (9, 0), (9, 0)]) (st' := [(0, 4), (2, 128)]) (g' := g) rfl ?_
    refine wp_iald (k := 128) (4) rfl rfl (by omega) (by omega) (by decide) ?_
    refine wp_eq (L' := [(2, 127), (0, w), (9, 0), (9, 0), (9, 0), (9, 0), (9, 0), (9, 0), (9, 0)]) (st' := [(0, (c 10 14))]) (g' := g) ?_ (by rfl) (by rw [hM.seen]) (by rfl)
    refine wp_if_ne rfl (fun c4 => ?_) (fun c4 => ?_)
    · refine wp_n 6 (pc' := 29) (L' := [(2, 127), (0, w), (0, (-1)), (0, 0), (0, 1), (9, 0), (9, 0), (9, 0), (9, 0)]) (st' := []) (g' := g) rfl ?_
      have L29 : ∀ (lf : Nat) (k : Nat) (l t : Int) (w5 w6 w7 w8 : am_V), 20 - k < lf → (k ≤ 20) → (BM (c 21) (c 22) n w (k * 861) l t) → (-1 ≤ l ∧ l ≤ 420000 ∧ ((k * 861) ≠ 0 → 0 ≤ l)) → Wp sn sx 1 T248 29 [(2, 127), (0, w), (0, l), (0, t), (0, ((k : Int) + 1)), w5, w6, w7, w8] [] (SH b) g (fun y => ∃ g' v, y = (some (0, v), SH b, g') ∧ SoA c w v ∧ FrN g g') := by
        intro lf
        induction lf with
        | zero => intro k l t w5 w6 w7 w8 hlf; exact absurd hlf (Nat.not_lt_zero _)
        | succ lf ih29 =>
          intro k l t w5 w6 w7 w8 hlf hk hB hl
          refine wp_n 2 (pc' := 33) (L' := [(2, 127), (0, w), (0, l), (0, t), (0, ((k : Int) + 1)), w5, w6, w7, w8]) (st' := [(0, 20), (0, ((k : Int) + 1))]) (g' := g) rfl ?_
          refine wp_ic_gt rfl (fun c5 => ?_) (fun c5 => ?_)
          · have hk20 : k = 20 := by omega
            refine wp_n 1 (pc' := 184) (L' := [(2, 127), (0, w), (0, l), (0, t), (0, ((k : Int) + 1)), w5, w6, w7, w8]) (st' := [(0, w)]) (g' := g) rfl ?_
            refine wp_if_ne rfl (fun c6 => ?_) (fun c6 => ?_)
            · refine wp_n 1 (pc' := 192) (L' := [(2, 127), (0, w), (0, l), (0, t), (0, ((k : Int) + 1)), w5, w6, w7, w8]) (st' := [(0, t)]) (g' := g) rfl ?_
              exact wp_ret rfl rfl rfl ⟨_, _, rfl, Or.inl ⟨by unfold SoD; omega, by
                rw [hk20] at hB
                rcases hB with e | ⟨q, e1, e2, e3, e4, e5⟩
                · exact absurd e.1 (by decide)
                · refine ⟨_, _, _, _, ⟨q, e1, rfl, ?_, ?_, rfl, rfl, rfl⟩, ?_⟩
                  · rw [show (c 10 14).toNat = n by omega]; exact e3
                  · rw [show (c 10 14).toNat = n by omega]; exact e4
                  · rw [show (c 10 14).toNat = n by omega]
                    unfold toldA at e5
                    first
                    | (rw [if_pos (show w = 0 by omega)]; exact e2)
                    | (rw [if_neg (show ¬ w = 0 by omega)]; exact e5)⟩, FrN.rfl⟩
            · refine wp_n 2 (pc' := 192) (L' := [(2, 127), (0, w), (0, l), (0, t), (0, ((k : Int) + 1)), w5, w6, w7, w8]) (st' := [(0, l)]) (g' := g) rfl ?_
              exact wp_ret rfl rfl rfl ⟨_, _, rfl, Or.inl ⟨by unfold SoD; omega, by
                rw [hk20] at hB
                rcases hB with e | ⟨q, e1, e2, e3, e4, e5⟩
                · exact absurd e.1 (by decide)
                · refine ⟨_, _, _, _, ⟨q, e1, rfl, ?_, ?_, rfl, rfl, rfl⟩, ?_⟩
                  · rw [show (c 10 14).toNat = n by omega]; exact e3
                  · rw [show (c 10 14).toNat = n by omega]; exact e4
                  · rw [show (c 10 14).toNat = n by omega]
                    unfold toldA at e5
                    first
                    | (rw [if_pos (show w = 0 by omega)]; exact e2)
                    | (rw [if_neg (show ¬ w = 0 by omega)]; exact e5)⟩, FrN.rfl⟩
          · have hk20 : k < 20 := by omega
            refine wp_n 2 (pc' := 39) (L' := [(2, 127), (0, w), (0, l), (0, t), (0, ((k : Int) + 1)), (0, 0), w6, w7, w8]) (st' := []) (g' := g) rfl ?_
            have L39 : ∀ (lf : Nat) (i : Nat) (l t : Int) (w6 w7 w8 : am_V), 21 - i < lf → (i ≤ 21) → (BM (c 21) (c 22) n w ((k * 21 + i) * 41) l t) → (-1 ≤ l ∧ l ≤ 420000 ∧ (((k * 21 + i) * 41) ≠ 0 → 0 ≤ l)) → Wp sn sx 1 T248 39 [(2, 127), (0, w), (0, l), (0, t), (0, ((k : Int) + 1)), (0, ((i : Nat) : Int)), w6, w7, w8] [] (SH b) g (fun y => ∃ g' v, y = (some (0, v), SH b, g') ∧ SoA c w v ∧ FrN g g') := by
              intro lf
              induction lf with
              | zero => intro i l t w6 w7 w8 hlf; exact absurd hlf (Nat.not_lt_zero _)
              | succ lf ih39 =>
                intro i l t w6 w7 w8 hlf hi hB hl
                refine wp_n 2 (pc' := 43) (L' := [(2, 127), (0, w), (0, l), (0, t), (0, ((k : Int) + 1)), (0, ((i : Nat) : Int)), w6, w7, w8]) (st' := [(0, 20), (0, ((i : Nat) : Int))]) (g' := g) rfl ?_
                refine wp_ic_gt rfl (fun c7 => ?_) (fun c7 => ?_)
                · have hi21 : i = 21 := by omega
                  refine wp_n 2 (pc' := 29) (L' := [(2, 127), (0, w), (0, l), (0, t), (0, (((k : Int) + 1) + 1)), (0, ((i : Nat) : Int)), w6, w7, w8]) (st' := []) (g' := g) rfl ?_
                  refine wp_eq (ih29 (k + 1) (l) (t) ((0, ((i : Nat) : Int))) (w6) (w7) (w8) ?_ ?_ ?_ ?_) (by rw [show (((k + 1 : Nat) : Int) + 1) = (((k : Int) + 1) + 1) by omega]) (by rfl) (by rfl)
                  · omega
                  · omega
                  · rw [show (k + 1) * 861 = (k * 21 + i) * 41 by omega]; exact hB
                  · omega
                · have hi20 : i < 21 := by omega
                  refine wp_n 2 (pc' := 50) (L' := [(2, 127), (0, w), (0, l), (0, t), (0, ((k : Int) + 1)), (0, ((i : Nat) : Int)), (0, (-20)), w7, w8]) (st' := []) (g' := g) rfl ?_
                  have L50 : ∀ (lf : Nat) (j : Nat) (l t : Int) (w7 w8 : am_V), 41 - j < lf → (j ≤ 41) → (BM (c 21) (c 22) n w ((k * 21 + i) * 41 + j) l t) → (-1 ≤ l ∧ l ≤ 420000 ∧ (((k * 21 + i) * 41 + j) ≠ 0 → 0 ≤ l)) → Wp sn sx 1 T248 50 [(2, 127), (0, w), (0, l), (0, t), (0, ((k : Int) + 1)), (0, ((i : Nat) : Int)), (0, ((j : Int) - 20)), w7, w8] [] (SH b) g (fun y => ∃ g' v, y = (some (0, v), SH b, g') ∧ SoA c w v ∧ FrN g g') := by
                    intro lf
                    induction lf with
                    | zero => intro j l t w7 w8 hlf; exact absurd hlf (Nat.not_lt_zero _)
                    | succ lf ih50 =>
                      intro j l t w7 w8 hlf hj hB hl
                      refine wp_n 2 (pc' := 54) (L' := [(2, 127), (0, w), (0, l), (0, t), (0, ((k : Int) + 1)), (0, ((i : Nat) : Int)), (0, ((j : Int) - 20)), w7, w8]) (st' := [(0, 20), (0, ((j : Int) - 20))]) (g' := g) rfl ?_
                      refine wp_ic_gt rfl (fun c8 => ?_) (fun c8 => ?_)
                      · have hj41 : j = 41 := by omega
                        refine wp_n 2 (pc' := 39) (L' := [(2, 127), (0, w), (0, l), (0, t), (0, ((k : Int) + 1)), (0, (((i : Nat) : Int) + 1)), (0, ((j : Int) - 20)), w7, w8]) (st' := []) (g' := g) rfl ?_
                        refine wp_eq (ih39 (i + 1) (l) (t) ((0, ((j : Int) - 20))) (w7) (w8) ?_ ?_ ?_ ?_) (by first | rfl | (simp; done) | (simp; omega)) (by rfl) (by rfl)
                        · omega
                        · omega
                        · rw [show (k * 21 + (i + 1)) * 41 = (k * 21 + i) * 41 + j by omega]; exact hB
                        · omega
                      · have hj40 : j < 41 := by omega
                        have hat := offq_at (c 21) (c 22) n (k := k) (i := i) (j := j) (by omega) (by omega)
                        refine wp_n 4 (pc' := 63) (L' := [(2, 127), (0, w), (0, l), (0, t), (0, ((k : Int) + 1)), (0, ((i : Nat) : Int)), (0, ((j : Int) - 20)), (0, 0), (0, 0)]) (st' := []) (g' := g) rfl ?_
                        have L63 : ∀ (lf : Nat) (q : Nat), n - q < lf → (q ≤ n) → Wp sn sx 1 T248 63 [(2, 127), (0, w), (0, l), (0, t), (0, ((k : Int) + 1)), (0, ((i : Nat) : Int)), (0, ((j : Int) - 20)), (0, (offs (c 21) (c 22) (i : Int) ((j : Int) - 20) ((k : Int) + 1) q)), (0, ((q : Nat) : Int))] [] (SH b) g (fun y => ∃ g' v, y = (some (0, v), SH b, g') ∧ SoA c w v ∧ FrN g g') := by
                          intro lf
                          induction lf with
                          | zero => intro q hlf; exact absurd hlf (Nat.not_lt_zero _)
                          | succ lf ih63 =>
                            intro q hlf hq
                            refine wp_n 4 (pc' := 70) (L' := [(2, 127), (0, w), (0, l), (0, t), (0, ((k : Int) + 1)), (0, ((i : Nat) : Int)), (0, ((j : Int) - 20)), (0, (offs (c 21) (c 22) (i : Int) ((j : Int) - 20) ((k : Int) + 1) q)), (0, ((q : Nat) : Int))]) (st' := [(0, 4), (2, 128), (0, ((q : Nat) : Int))]) (g' := g) rfl ?_
                            refine wp_iald (k := 128) (4) rfl rfl (by omega) (by omega) (by decide) ?_
                            refine wp_eq (L' := [(2, 127), (0, w), (0, l), (0, t), (0, ((k : Int) + 1)), (0, ((i : Nat) : Int)), (0, ((j : Int) - 20)), (0, (offs (c 21) (c 22) (i : Int) ((j : Int) - 20) ((k : Int) + 1) q)), (0, ((q : Nat) : Int))]) (st' := [(0, ((n : Nat) : Int)), (0, ((q : Nat) : Int))]) (g' := g) ?_ (by rfl) (by rw [hM.seen, hnn]) (by rfl)
                            refine wp_ic_ge rfl (fun c9 => ?_) (fun c9 => ?_)
                            · have hqn : q = n := by omega
                              have hoi := offs_in hI.rg (a := (i : Int)) (b := (j : Int) - 20) (c := (k : Int) + 1) (by omega) (by omega) (by omega) n (by omega)
                              have hoq : offs (c 21) (c 22) (i : Int) ((j : Int) - 20) ((k : Int) + 1) q = offs (c 21) (c 22) (i : Int) ((j : Int) - 20) ((k : Int) + 1) n := by rw [hqn]
                              refine wp_n 1 (pc' := 127) (L' := [(2, 127), (0, w), (0, l), (0, t), (0, ((k : Int) + 1)), (0, ((i : Nat) : Int)), (0, ((j : Int) - 20)), (0, (offs (c 21) (c 22) (i : Int) ((j : Int) - 20) ((k : Int) + 1) q)), (0, ((q : Nat) : Int))]) (st' := [(0, l)]) (g' := g) rfl ?_
                              refine wp_if_lt rfl (fun c10 => ?_) (fun c10 => ?_)
                              · refine wp_n 4 (pc' := 144) (L' := [(2, 127), (0, w), (0, (offs (c 21) (c 22) (i : Int) ((j : Int) - 20) ((k : Int) + 1) q)), (0, t), (0, ((k : Int) + 1)), (0, ((i : Nat) : Int)), (0, ((j : Int) - 20)), (0, (offs (c 21) (c 22) (i : Int) ((j : Int) - 20) ((k : Int) + 1) q)), (0, ((q : Nat) : Int))]) (st' := [(0, 1), (0, w)]) (g' := g) rfl ?_
                                refine wp_ic_ne rfl (fun c11 => ?_) (fun c11 => ?_)
                                · refine wp_n 2 (pc' := 154) (L' := [(2, 127), (0, w), (0, (offs (c 21) (c 22) (i : Int) ((j : Int) - 20) ((k : Int) + 1) q)), (0, t), (0, ((k : Int) + 1)), (0, ((i : Nat) : Int)), (0, ((j : Int) - 20)), (0, (offs (c 21) (c 22) (i : Int) ((j : Int) - 20) ((k : Int) + 1) q)), (0, ((q : Nat) : Int))]) (st' := [(0, 2), (0, w)]) (g' := g) rfl ?_
                                  refine wp_ic_ne rfl (fun c12 => ?_) (fun c12 => ?_)
                                  · refine wp_n 4 (pc' := 50) (L' := [(2, 127), (0, w), (0, (offs (c 21) (c 22) (i : Int) ((j : Int) - 20) ((k : Int) + 1) q)), (0, ((k : Int) + 1)), (0, ((k : Int) + 1)), (0, ((i : Nat) : Int)), (0, (((j : Int) - 20) + 1)), (0, (offs (c 21) (c 22) (i : Int) ((j : Int) - 20) ((k : Int) + 1) q)), (0, ((q : Nat) : Int))]) (st' := []) (g' := g) rfl ?_
                                    refine wp_eq (ih50 (j + 1) ((offs (c 21) (c 22) (i : Int) ((j : Int) - 20) ((k : Int) + 1) q)) (((k : Int) + 1)) ((0, (offs (c 21) (c 22) (i : Int) ((j : Int) - 20) ((k : Int) + 1) q))) ((0, ((q : Nat) : Int))) ?_ ?_ ?_ ?_) (by rw [show (((j + 1 : Nat) : Int) - 20) = (((j : Int) - 20) + 1) by omega]) (by rfl) (by rfl)
                                    · omega
                                    · omega
                                    · first
                                      | (have hb2 := BM.lt hB (by rw [hat.1]; omega) (by rw [hat.1]; omega) (by omega)
                                         rw [hat.1] at hb2
                                         rw [show (offs (c 21) (c 22) (i : Int) ((j : Int) - 20) ((k : Int) + 1) q) = offs (c 21) (c 22) (i : Int) ((j : Int) - 20) ((k : Int) + 1) n by rw [hqn]]
                                         unfold toldA at hb2
                                         rw [hat.2.1, hat.2.2.1, hat.2.2.2] at hb2
                                         first
                                         | (rw [if_pos (show w = 1 by omega)] at hb2; exact hb2)
                                         | (rw [if_neg (show ¬ w = 1 by omega), if_pos (show w = 2 by omega)] at hb2; exact hb2)
                                         | (rw [if_neg (show ¬ w = 1 by omega), if_neg (show ¬ w = 2 by omega)] at hb2; exact hb2))
                                      | exact BM.ge hB (by omega) (show l ≤ offq (c 21) (c 22) n ((k * 21 + i) * 41 + j) by rw [hat.1]; omega)
                                    · omega
                                  · refine wp_n 5 (pc' := 50) (L' := [(2, 127), (0, w), (0, (offs (c 21) (c 22) (i : Int) ((j : Int) - 20) ((k : Int) + 1) q)), (0, ((j : Int) - 20)), (0, ((k : Int) + 1)), (0, ((i : Nat) : Int)), (0, (((j : Int) - 20) + 1)), (0, (offs (c 21) (c 22) (i : Int) ((j : Int) - 20) ((k : Int) + 1) q)), (0, ((q : Nat) : Int))]) (st' := []) (g' := g) rfl ?_
                                    refine wp_eq (ih50 (j + 1) ((offs (c 21) (c 22) (i : Int) ((j : Int) - 20) ((k : Int) + 1) q)) (((j : Int) - 20)) ((0, (offs (c 21) (c 22) (i : Int) ((j : Int) - 20) ((k : Int) + 1) q))) ((0, ((q : Nat) : Int))) ?_ ?_ ?_ ?_) (by rw [show (((j + 1 : Nat) : Int) - 20) = (((j : Int) - 20) + 1) by omega]) (by rfl) (by rfl)
                                    · omega
                                    · omega
                                    · first
                                      | (have hb2 := BM.lt hB (by rw [hat.1]; omega) (by rw [hat.1]; omega) (by omega)
                                         rw [hat.1] at hb2
                                         rw [show (offs (c 21) (c 22) (i : Int) ((j : Int) - 20) ((k : Int) + 1) q) = offs (c 21) (c 22) (i : Int) ((j : Int) - 20) ((k : Int) + 1) n by rw [hqn]]
                                         unfold toldA at hb2
                                         rw [hat.2.1, hat.2.2.1, hat.2.2.2] at hb2
                                         first
                                         | (rw [if_pos (show w = 1 by omega)] at hb2; exact hb2)
                                         | (rw [if_neg (show ¬ w = 1 by omega), if_pos (show w = 2 by omega)] at hb2; exact hb2)
                                         | (rw [if_neg (show ¬ w = 1 by omega), if_neg (show ¬ w = 2 by omega)] at hb2; exact hb2))
                                      | exact BM.ge hB (by omega) (show l ≤ offq (c 21) (c 22) n ((k * 21 + i) * 41 + j) by rw [hat.1]; omega)
                                    · omega
                                · refine wp_n 5 (pc' := 50) (L' := [(2, 127), (0, w), (0, (offs (c 21) (c 22) (i : Int) ((j : Int) - 20) ((k : Int) + 1) q)), (0, ((i : Nat) : Int)), (0, ((k : Int) + 1)), (0, ((i : Nat) : Int)), (0, (((j : Int) - 20) + 1)), (0, (offs (c 21) (c 22) (i : Int) ((j : Int) - 20) ((k : Int) + 1) q)), (0, ((q : Nat) : Int))]) (st' := []) (g' := g) rfl ?_
                                  refine wp_eq (ih50 (j + 1) ((offs (c 21) (c 22) (i : Int) ((j : Int) - 20) ((k : Int) + 1) q)) (((i : Nat) : Int)) ((0, (offs (c 21) (c 22) (i : Int) ((j : Int) - 20) ((k : Int) + 1) q))) ((0, ((q : Nat) : Int))) ?_ ?_ ?_ ?_) (by rw [show (((j + 1 : Nat) : Int) - 20) = (((j : Int) - 20) + 1) by omega]) (by rfl) (by rfl)
                                  · omega
                                  · omega
                                  · first
                                    | (have hb2 := BM.lt hB (by rw [hat.1]; omega) (by rw [hat.1]; omega) (by omega)
                                       rw [hat.1] at hb2
                                       rw [show (offs (c 21) (c 22) (i : Int) ((j : Int) - 20) ((k : Int) + 1) q) = offs (c 21) (c 22) (i : Int) ((j : Int) - 20) ((k : Int) + 1) n by rw [hqn]]
                                       unfold toldA at hb2
                                       rw [hat.2.1, hat.2.2.1, hat.2.2.2] at hb2
                                       first
                                       | (rw [if_pos (show w = 1 by omega)] at hb2; exact hb2)
                                       | (rw [if_neg (show ¬ w = 1 by omega), if_pos (show w = 2 by omega)] at hb2; exact hb2)
                                       | (rw [if_neg (show ¬ w = 1 by omega), if_neg (show ¬ w = 2 by omega)] at hb2; exact hb2))
                                    | exact BM.ge hB (by omega) (show l ≤ offq (c 21) (c 22) n ((k * 21 + i) * 41 + j) by rw [hat.1]; omega)
                                  · omega
                              · refine wp_n 2 (pc' := 133) (L' := [(2, 127), (0, w), (0, l), (0, t), (0, ((k : Int) + 1)), (0, ((i : Nat) : Int)), (0, ((j : Int) - 20)), (0, (offs (c 21) (c 22) (i : Int) ((j : Int) - 20) ((k : Int) + 1) q)), (0, ((q : Nat) : Int))]) (st' := [(0, l), (0, (offs (c 21) (c 22) (i : Int) ((j : Int) - 20) ((k : Int) + 1) q))]) (g' := g) rfl ?_
                                refine wp_ic_lt rfl (fun c13 => ?_) (fun c13 => ?_)
                                · refine wp_n 4 (pc' := 144) (L' := [(2, 127), (0, w), (0, (offs (c 21) (c 22) (i : Int) ((j : Int) - 20) ((k : Int) + 1) q)), (0, t), (0, ((k : Int) + 1)), (0, ((i : Nat) : Int)), (0, ((j : Int) - 20)), (0, (offs (c 21) (c 22) (i : Int) ((j : Int) - 20) ((k : Int) + 1) q)), (0, ((q : Nat) : Int))]) (st' := [(0, 1), (0, w)]) (g' := g) rfl ?_
                                  refine wp_ic_ne rfl (fun c14 => ?_) (fun c14 => ?_)
                                  · refine wp_n 2 (pc' := 154) (L' := [(2, 127), (0, w), (0, (offs (c 21) (c 22) (i : Int) ((j : Int) - 20) ((k : Int) + 1) q)), (0, t), (0, ((k : Int) + 1)), (0, ((i : Nat) : Int)), (0, ((j : Int) - 20)), (0, (offs (c 21) (c 22) (i : Int) ((j : Int) - 20) ((k : Int) + 1) q)), (0, ((q : Nat) : Int))]) (st' := [(0, 2), (0, w)]) (g' := g) rfl ?_
                                    refine wp_ic_ne rfl (fun c15 => ?_) (fun c15 => ?_)
                                    · refine wp_n 4 (pc' := 50) (L' := [(2, 127), (0, w), (0, (offs (c 21) (c 22) (i : Int) ((j : Int) - 20) ((k : Int) + 1) q)), (0, ((k : Int) + 1)), (0, ((k : Int) + 1)), (0, ((i : Nat) : Int)), (0, (((j : Int) - 20) + 1)), (0, (offs (c 21) (c 22) (i : Int) ((j : Int) - 20) ((k : Int) + 1) q)), (0, ((q : Nat) : Int))]) (st' := []) (g' := g) rfl ?_
                                      refine wp_eq (ih50 (j + 1) ((offs (c 21) (c 22) (i : Int) ((j : Int) - 20) ((k : Int) + 1) q)) (((k : Int) + 1)) ((0, (offs (c 21) (c 22) (i : Int) ((j : Int) - 20) ((k : Int) + 1) q))) ((0, ((q : Nat) : Int))) ?_ ?_ ?_ ?_) (by rw [show (((j + 1 : Nat) : Int) - 20) = (((j : Int) - 20) + 1) by omega]) (by rfl) (by rfl)
                                      · omega
                                      · omega
                                      · first
                                        | (have hb2 := BM.lt hB (by rw [hat.1]; omega) (by rw [hat.1]; omega) (by omega)
                                           rw [hat.1] at hb2
                                           rw [show (offs (c 21) (c 22) (i : Int) ((j : Int) - 20) ((k : Int) + 1) q) = offs (c 21) (c 22) (i : Int) ((j : Int) - 20) ((k : Int) + 1) n by rw [hqn]]
                                           unfold toldA at hb2
                                           rw [hat.2.1, hat.2.2.1, hat.2.2.2] at hb2
                                           first
                                           | (rw [if_pos (show w = 1 by omega)] at hb2; exact hb2)
                                           | (rw [if_neg (show ¬ w = 1 by omega), if_pos (show w = 2 by omega)] at hb2; exact hb2)
                                           | (rw [if_neg (show ¬ w = 1 by omega), if_neg (show ¬ w = 2 by omega)] at hb2; exact hb2))
                                        | exact BM.ge hB (by omega) (show l ≤ offq (c 21) (c 22) n ((k * 21 + i) * 41 + j) by rw [hat.1]; omega)
                                      · omega
                                    · refine wp_n 5 (pc' := 50) (L' := [(2, 127), (0, w), (0, (offs (c 21) (c 22) (i : Int) ((j : Int) - 20) ((k : Int) + 1) q)), (0, ((j : Int) - 20)), (0, ((k : Int) + 1)), (0, ((i : Nat) : Int)), (0, (((j : Int) - 20) + 1)), (0, (offs (c 21) (c 22) (i : Int) ((j : Int) - 20) ((k : Int) + 1) q)), (0, ((q : Nat) : Int))]) (st' := []) (g' := g) rfl ?_
                                      refine wp_eq (ih50 (j + 1) ((offs (c 21) (c 22) (i : Int) ((j : Int) - 20) ((k : Int) + 1) q)) (((j : Int) - 20)) ((0, (offs (c 21) (c 22) (i : Int) ((j : Int) - 20) ((k : Int) + 1) q))) ((0, ((q : Nat) : Int))) ?_ ?_ ?_ ?_) (by rw [show (((j + 1 : Nat) : Int) - 20) = (((j : Int) - 20) + 1) by omega]) (by rfl) (by rfl)
                                      · omega
                                      · omega
                                      · first
                                        | (have hb2 := BM.lt hB (by rw [hat.1]; omega) (by rw [hat.1]; omega) (by omega)
                                           rw [hat.1] at hb2
                                           rw [show (offs (c 21) (c 22) (i : Int) ((j : Int) - 20) ((k : Int) + 1) q) = offs (c 21) (c 22) (i : Int) ((j : Int) - 20) ((k : Int) + 1) n by rw [hqn]]
                                           unfold toldA at hb2
                                           rw [hat.2.1, hat.2.2.1, hat.2.2.2] at hb2
                                           first
                                           | (rw [if_pos (show w = 1 by omega)] at hb2; exact hb2)
                                           | (rw [if_neg (show ¬ w = 1 by omega), if_pos (show w = 2 by omega)] at hb2; exact hb2)
                                           | (rw [if_neg (show ¬ w = 1 by omega), if_neg (show ¬ w = 2 by omega)] at hb2; exact hb2))
                                        | exact BM.ge hB (by omega) (show l ≤ offq (c 21) (c 22) n ((k * 21 + i) * 41 + j) by rw [hat.1]; omega)
                                      · omega
                                  · refine wp_n 5 (pc' := 50) (L' := [(2, 127), (0, w), (0, (offs (c 21) (c 22) (i : Int) ((j : Int) - 20) ((k : Int) + 1) q)), (0, ((i : Nat) : Int)), (0, ((k : Int) + 1)), (0, ((i : Nat) : Int)), (0, (((j : Int) - 20) + 1)), (0, (offs (c 21) (c 22) (i : Int) ((j : Int) - 20) ((k : Int) + 1) q)), (0, ((q : Nat) : Int))]) (st' := []) (g' := g) rfl ?_
                                    refine wp_eq (ih50 (j + 1) ((offs (c 21) (c 22) (i : Int) ((j : Int) - 20) ((k : Int) + 1) q)) (((i : Nat) : Int)) ((0, (offs (c 21) (c 22) (i : Int) ((j : Int) - 20) ((k : Int) + 1) q))) ((0, ((q : Nat) : Int))) ?_ ?_ ?_ ?_) (by rw [show (((j + 1 : Nat) : Int) - 20) = (((j : Int) - 20) + 1) by omega]) (by rfl) (by rfl)
                                    · omega
                                    · omega
                                    · first
                                      | (have hb2 := BM.lt hB (by rw [hat.1]; omega) (by rw [hat.1]; omega) (by omega)
                                         rw [hat.1] at hb2
                                         rw [show (offs (c 21) (c 22) (i : Int) ((j : Int) - 20) ((k : Int) + 1) q) = offs (c 21) (c 22) (i : Int) ((j : Int) - 20) ((k : Int) + 1) n by rw [hqn]]
                                         unfold toldA at hb2
                                         rw [hat.2.1, hat.2.2.1, hat.2.2.2] at hb2
                                         first
                                         | (rw [if_pos (show w = 1 by omega)] at hb2; exact hb2)
                                         | (rw [if_neg (show ¬ w = 1 by omega), if_pos (show w = 2 by omega)] at hb2; exact hb2)
                                         | (rw [if_neg (show ¬ w = 1 by omega), if_neg (show ¬ w = 2 by omega)] at hb2; exact hb2))
                                      | exact BM.ge hB (by omega) (show l ≤ offq (c 21) (c 22) n ((k * 21 + i) * 41 + j) by rw [hat.1]; omega)
                                    · omega
                                · refine wp_n 3 (pc' := 50) (L' := [(2, 127), (0, w), (0, l), (0, t), (0, ((k : Int) + 1)), (0, ((i : Nat) : Int)), (0, (((j : Int) - 20) + 1)), (0, (offs (c 21) (c 22) (i : Int) ((j : Int) - 20) ((k : Int) + 1) q)), (0, ((q : Nat) : Int))]) (st' := []) (g' := g) rfl ?_
                                  refine wp_eq (ih50 (j + 1) (l) (t) ((0, (offs (c 21) (c 22) (i : Int) ((j : Int) - 20) ((k : Int) + 1) q))) ((0, ((q : Nat) : Int))) ?_ ?_ ?_ ?_) (by rw [show (((j + 1 : Nat) : Int) - 20) = (((j : Int) - 20) + 1) by omega]) (by rfl) (by rfl)
                                  · omega
                                  · omega
                                  · first
                                    | (have hb2 := BM.lt hB (by rw [hat.1]; omega) (by rw [hat.1]; omega) (by omega)
                                       rw [hat.1] at hb2
                                       rw [show (offs (c 21) (c 22) (i : Int) ((j : Int) - 20) ((k : Int) + 1) q) = offs (c 21) (c 22) (i : Int) ((j : Int) - 20) ((k : Int) + 1) n by rw [hqn]]
                                       unfold toldA at hb2
                                       rw [hat.2.1, hat.2.2.1, hat.2.2.2] at hb2
                                       first
                                       | (rw [if_pos (show w = 1 by omega)] at hb2; exact hb2)
                                       | (rw [if_neg (show ¬ w = 1 by omega), if_pos (show w = 2 by omega)] at hb2; exact hb2)
                                       | (rw [if_neg (show ¬ w = 1 by omega), if_neg (show ¬ w = 2 by omega)] at hb2; exact hb2))
                                    | exact BM.ge hB (by omega) (show l ≤ offq (c 21) (c 22) n ((k * 21 + i) * 41 + j) by rw [hat.1]; omega)
                                  · omega
                            · have h1 := hI.rg.r21_24 q (by omega)
                              have h2 := hI.rg.r22_25 q (by omega)
                              have h3 := as_in (a := (i : Int)) (by omega) h1
                              have h4 := td_in (x := (i : Int) * c 21 q + ((j : Int) - 20)) (c := (k : Int) + 1) (by omega) (by omega)
                              have hoi := offs_in hI.rg (a := (i : Int)) (b := (j : Int) - 20) (c := (k : Int) + 1) (by omega) (by omega) (by omega) q (by omega)
                              refine wp_n 9 (pc' := 90) (L' := [(2, 127), (0, w), (0, l), (0, t), (0, ((k : Int) + 1)), (0, ((i : Nat) : Int)), (0, ((j : Int) - 20)), (0, (offs (c 21) (c 22) (i : Int) ((j : Int) - 20) ((k : Int) + 1) q)), (0, ((q : Nat) : Int))]) (st' := [(0, (1580 + (2 * ((q : Nat) : Int)))), (2, 128), (0, ((i : Nat) : Int)), (0, (offs (c 21) (c 22) (i : Int) ((j : Int) - 20) ((k : Int) + 1) q))]) (g' := g) rfl ?_
                              refine wp_iald (k := 128) ((1580 + 2 * q)) rfl rfl (by omega) (by omega) (by decide) ?_
                              refine wp_eq (L' := [(2, 127), (0, w), (0, l), (0, t), (0, ((k : Int) + 1)), (0, ((i : Nat) : Int)), (0, ((j : Int) - 20)), (0, (offs (c 21) (c 22) (i : Int) ((j : Int) - 20) ((k : Int) + 1) q)), (0, ((q : Nat) : Int))]) (st' := [(0, (c 21 q)), (0, ((i : Nat) : Int)), (0, (offs (c 21) (c 22) (i : Int) ((j : Int) - 20) ((k : Int) + 1) q))]) (g' := g) ?_ (by rfl) (by rw [hM.ss _ (by omega)]) (by rfl)
                              refine wp_n 4 (pc' := 97) (L' := [(2, 127), (0, w), (0, l), (0, t), (0, ((k : Int) + 1)), (0, ((i : Nat) : Int)), (0, ((j : Int) - 20)), (0, (offs (c 21) (c 22) (i : Int) ((j : Int) - 20) ((k : Int) + 1) q)), (0, ((q : Nat) : Int))]) (st' := [(0, ((k : Int) + 1)), (0, ((((i : Nat) : Int) * (c 21 q)) + ((j : Int) - 20))), (0, (offs (c 21) (c 22) (i : Int) ((j : Int) - 20) ((k : Int) + 1) q))]) (g' := g) rfl ?_
                              refine wp_idiv rfl (by omega) (by omega) (by omega) ?_
                              refine wp_n 9 (pc' := 112) (L' := [(2, 127), (0, w), (0, l), (0, t), (0, ((k : Int) + 1)), (0, ((i : Nat) : Int)), (0, ((j : Int) - 20)), (0, (offs (c 21) (c 22) (i : Int) ((j : Int) - 20) ((k : Int) + 1) q)), (0, ((q : Nat) : Int))]) (st' := [(0, ((1580 + (2 * ((q : Nat) : Int))) + 1)), (2, 128), (0, (Int.tdiv ((((i : Nat) : Int) * (c 21 q)) + ((j : Int) - 20)) ((k : Int) + 1))), (0, (offs (c 21) (c 22) (i : Int) ((j : Int) - 20) ((k : Int) + 1) q))]) (g' := g) rfl ?_
                              refine wp_iald (k := 128) ((1580 + 2 * q + 1)) rfl rfl (by omega) (by omega) (by decide) ?_
                              refine wp_eq (L' := [(2, 127), (0, w), (0, l), (0, t), (0, ((k : Int) + 1)), (0, ((i : Nat) : Int)), (0, ((j : Int) - 20)), (0, (offs (c 21) (c 22) (i : Int) ((j : Int) - 20) ((k : Int) + 1) q)), (0, ((q : Nat) : Int))]) (st' := [(0, (c 22 q)), (0, (Int.tdiv ((((i : Nat) : Int) * (c 21 q)) + ((j : Int) - 20)) ((k : Int) + 1))), (0, (offs (c 21) (c 22) (i : Int) ((j : Int) - 20) ((k : Int) + 1) q))]) (g' := g) ?_ (by rfl) (by rw [hM.sn _ (by omega)]) (by rfl)
                              refine wp_n 1 (pc' := 114) (L' := [(2, 127), (0, w), (0, l), (0, t), (0, ((k : Int) + 1)), (0, ((i : Nat) : Int)), (0, ((j : Int) - 20)), (0, (offs (c 21) (c 22) (i : Int) ((j : Int) - 20) ((k : Int) + 1) q)), (0, ((q : Nat) : Int))]) (st' := [(0, ((Int.tdiv ((((i : Nat) : Int) * (c 21 q)) + ((j : Int) - 20)) ((k : Int) + 1)) - (c 22 q))), (0, (offs (c 21) (c 22) (i : Int) ((j : Int) - 20) ((k : Int) + 1) q))]) (g' := g) rfl ?_
                              refine wp_cs (as := [(0, ((Int.tdiv ((((i : Nat) : Int) * (c 21 q)) + ((j : Int) - 20)) ((k : Int) + 1)) - (c 22 q)))]) (rest := [(0, (offs (c 21) (c 22) (i : Int) ((j : Int) - 20) ((k : Int) + 1) q))]) rfl (by decide) rfl (Nat.le_of_ble_eq_true rfl) (m_abs (by omega)) (by decide) (fun r16 h17 => ?_)
                              obtain rfl := h17
                              refine wp_eq (L' := [(2, 127), (0, w), (0, l), (0, t), (0, ((k : Int) + 1)), (0, ((i : Nat) : Int)), (0, ((j : Int) - 20)), (0, (offs (c 21) (c 22) (i : Int) ((j : Int) - 20) ((k : Int) + 1) q)), (0, ((q : Nat) : Int))]) (st' := [(0, ((((Int.tdiv ((((i : Nat) : Int) * (c 21 q)) + ((j : Int) - 20)) ((k : Int) + 1)) - (c 22 q))).natAbs : Int)), (0, (offs (c 21) (c 22) (i : Int) ((j : Int) - 20) ((k : Int) + 1) q))]) (g' := g) ?_
                              refine wp_n 4 (pc' := 63) (L' := [(2, 127), (0, w), (0, l), (0, t), (0, ((k : Int) + 1)), (0, ((i : Nat) : Int)), (0, ((j : Int) - 20)), (0, ((offs (c 21) (c 22) (i : Int) ((j : Int) - 20) ((k : Int) + 1) q) + ((((Int.tdiv ((((i : Nat) : Int) * (c 21 q)) + ((j : Int) - 20)) ((k : Int) + 1)) - (c 22 q))).natAbs : Int))), (0, (((q : Nat) : Int) + 1))]) (st' := []) (g' := g) rfl ?_
                              refine wp_eq (ih63 (q + 1) ?_ ?_) (by rw [offs_s]; rfl) (by rfl) (by rfl)
                              · omega
                              · omega
                        refine wp_eq (L63 (_ + 1) (0) (Nat.lt_succ_self _) ?_) (by first | rfl | (simp; done) | (simp; omega)) (by rfl) (by rfl)
                        · exact Nat.zero_le _
                  refine wp_eq (L50 (_ + 1) (0) (l) (t) (w7) (w8) (Nat.lt_succ_self _) ?_ ?_ ?_) (by rfl) (by rfl) (by rfl)
                  · exact Nat.zero_le _
                  · exact hB
                  · omega
            refine wp_eq (L39 (_ + 1) (0) (l) (t) (w6) (w7) (w8) (Nat.lt_succ_self _) ?_ ?_ ?_) (by first | rfl | (simp; done) | (simp; omega)) (by rfl) (by rfl)
            · exact Nat.zero_le _
            · rw [show (k * 21 + 0) * 41 = k * 861 by omega]; exact hB
            · omega
      refine wp_eq (L29 (_ + 1) (0) (-1) (0) ((9, 0)) ((9, 0)) ((9, 0)) ((9, 0)) (Nat.lt_succ_self _) ?_ ?_ ?_) (by rfl) (by rfl) (by rfl)
      · exact Nat.zero_le _
      · exact Or.inl ⟨rfl, rfl⟩
      · omega
    · refine wp_n 1 (pc' := 21) (L' := [(2, 127), (0, w), (9, 0), (9, 0), (9, 0), (9, 0), (9, 0), (9, 0), (9, 0)]) (st' := [(0, (-1000))]) (g' := g) rfl ?_
      exact wp_ret rfl rfl rfl ⟨_, _, rfl, Or.inr ⟨by unfold SoD; omega, rfl⟩, FrN.rfl⟩
  · refine wp_eq (L' := [(2, 127), (0, w), (9, 0), (9, 0), (9, 0), (9, 0), (9, 0), (9, 0), (9, 0)]) (st' := [(0, 0)]) (g' := g) ?_
    refine wp_n 2 (pc' := 21) (L' := [(2, 127), (0, w), (9, 0), (9, 0), (9, 0), (9, 0), (9, 0), (9, 0), (9, 0)]) (st' := [(0, (-1000))]) (g' := g) rfl ?_
    exact wp_ret rfl rfl rfl ⟨_, _, rfl, Or.inr ⟨by unfold SoD; omega, rfl⟩, FrN.rfl⟩
theorem M_shoe {sn : Nat} {sx : Nat → Int} {b : Nat} {g c : am_G} {P : Nat} {w : Int} (h_w : R32 w) (hI : CInv P c) (hM : MRel c g) : Ev sn sx 2 248 [(2, 127), (0, w)] (SH b) g (MPost b g (fun c1 v1 => SoA c w v1 ∧ CoE c c1)) := (m_shoe h_w hI hM).mono fun r hh => mpost_n (A := SoA c w) hM (fun _ _ => SoA.uniq) hh
