/-! WHERE: falls; which, falls -/
def FrV (g h : am_G) : Prop := ∀ c j, (c < 56 ∨ 102 < c) → c ≠ 126 → h c j = g c j
def fallT (ev tb fl S : Nat → Int) (w : Int) (p : Nat) : Nat → Int
  | 0 => 0
  | n + 1 => fallT ev tb fl S w p n + (if fl n ≠ -1 ∧ S (3 * ev n + tb n).toNat = w ∧ (fl n).toNat = p then 1 else 0)
def fallN (ev tb fl S : Nat → Int) (w : Int) : Nat → Nat
  | 0 => 0
  | n + 1 => fallN ev tb fl S w n + (if fl n ≠ -1 ∧ S (3 * ev n + tb n).toNat = w then 1 else 0)
theorem fallN_le {ev tb fl S : Nat → Int} {w : Int} (n : Nat) : fallN ev tb fl S w n ≤ n := by
  induction n with
  | zero => exact Nat.le_refl _
  | succ n ih => rw [fallN]; split <;> omega
theorem fallT_in {ev tb fl S : Nat → Int} {w : Int} {p : Nat} (n : Nat) : 0 ≤ fallT ev tb fl S w p n ∧ fallT ev tb fl S w p n ≤ (fallN ev tb fl S w n : Int) := by
  induction n with
  | zero => exact ⟨Int.le_refl _, Int.le_refl _⟩
  | succ n ih =>
    rw [fallT, fallN]
    by_cases h : fl n ≠ -1 ∧ S (3 * ev n + tb n).toNat = w
    · rw [if_pos h]; split <;> omega
    · rw [if_neg h, if_neg fun q => h ⟨q.1, q.2.1⟩]; omega
theorem fall_eq {ev tb fl S S' : Nat → Int} {w : Int} {n : Nat} (hb : ∀ i, i < n → (0 ≤ ev i ∧ ev i ≤ 3) ∧ (0 ≤ tb i ∧ tb i ≤ 2)) (h : ∀ k, k < 12 → S k = S' k) : ∀ i, i ≤ n → fallN ev tb fl S w i = fallN ev tb fl S' w i ∧ ∀ p, fallT ev tb fl S w p i = fallT ev tb fl S' w p i := by
  intro i
  induction i with
  | zero => intro _; exact ⟨rfl, fun _ => rfl⟩
  | succ i ih =>
    intro hi
    have h1 := ih (by omega)
    have h2 := hb i (by omega)
    have h3 := h (3 * ev i + tb i).toNat (by omega)
    refine ⟨by rw [fallN, fallN, h1.1, h3], fun p => by rw [fallT, fallT, h1.2, h3]⟩
theorem WA.uniq {P n e : Nat} {l ev tb fl sc : Nat → Int} (H : BkH P n l ev tb fl sc) (he : e < 4) {a c a' c' : Int} {s s' : Nat → Int} (h : WA P l ev tb fl sc n e a c s) (h' : WA P l ev tb fl sc n e a' c' s') : a = a' ∧ c = c' ∧ ∀ t, t < 3 → s t = s' t := by
  obtain ⟨h1, h2⟩ := h
  obtain ⟨g1, g2⟩ := h'
  refine ⟨h1.trans g1.symm, ?_⟩
  rcases h2 with ⟨a1, a2, a3⟩ | ⟨k, a1, a2, a3, a4, a5, a6⟩ <;> rcases g2 with ⟨b1, b2, b3⟩ | ⟨k', b1, b2, b3, b4, b5, b6⟩
  · exact ⟨a2.trans b2.symm, fun t ht => (a3 t ht).trans (b3 t ht).symm⟩
  · exact absurd b2 (cntW_0 a1 k' b1)
  · exact absurd a2 (cntW_0 b1 k a1)
  · have hk : k = k' := by
      rcases Nat.lt_trichotomy k k' with q | q | q
      · have := b4 k q a2; have := a3 k' b1 b2; omega
      · exact q
      · have := a4 k' q b2; have := b3 k a1 a2; omega
    subst hk
    refine ⟨?_, fun t ht => (a5 t ht).trans (b5 t ht).symm⟩
    rcases a6 with ⟨x1, x2⟩ | ⟨x1, x2⟩ <;> rcases b6 with ⟨y1, y2⟩ | ⟨y1, y2⟩
    · exact x2.trans y2.symm
    · omega
    · omega
    · have hp := sumW_ge (p := fun k => okw ev tb fl sc n e (wy k)) (v := fun k => lkw P l ev tb fl e (wy k) n) (fun k hk => (lk_in H he hk).1) 125 (Nat.le_refl _) k a1 a2
      have hq := (lk_in H he a1).1
      exact x2.uniq (by omega) y2
/-- the wheels that stand, all evenings -/
def StA (P : Nat) (c : am_G) (S : Nat → Int) : Prop := ∀ e : Nat, e < 4 → ∃ a u, WA P (c 3) (c 11) (c 12) (c 14) (c 15) (c 10 4).toNat e a u (fun t => S (3 * e + t))
theorem StA.uniq {P : Nat} {c : am_G} {S S' : Nat → Int} (H : BkH P (c 10 4).toNat (c 3) (c 11) (c 12) (c 14) (c 15)) (h : StA P c S) (h' : StA P c S') : ∀ k, k < 12 → S k = S' k := by
  intro k hk
  obtain ⟨a, u, q⟩ := h (k / 3) (by omega)
  obtain ⟨a', u', q'⟩ := h' (k / 3) (by omega)
  have := (q.uniq H (by omega) q').2.2 (k % 3) (by omega)
  rw [show 3 * (k / 3) + k % 3 = k by omega] at this
  exact this
theorem StA.in {P : Nat} {c : am_G} {S : Nat → Int} (h : StA P c S) (k : Nat) (hk : k < 12) : -1 ≤ S k ∧ S k ≤ 3 := by
  obtain ⟨a, u, q1, q2⟩ := h (k / 3) (by omega)
  have e : 3 * (k / 3) + k % 3 = k := by omega
  rcases q2 with ⟨_, _, q⟩ | ⟨j, j1, _, _, _, q, _⟩
  · have h1 := q (k % 3) (by omega)
    simp only at h1
    rw [e] at h1
    omega
  · have h1 := q (k % 3) (by omega)
    have h2 := wy_in j (k % 3) j1
    simp only at h1
    rw [e] at h1
    omega
def FaC (P : Nat) (c : am_G) (w : Int) (N : Nat) (T : Nat → Int) : Prop := ∃ S, StA P c S ∧ N = fallN (c 11) (c 12) (c 14) S w (c 10 4).toNat ∧ ∀ j, j < P → T j = fallT (c 11) (c 12) (c 14) S w j (c 10 4).toNat
theorem FaC.uniq {P : Nat} {c : am_G} {w : Int} {N N' : Nat} {T T' : Nat → Int} (H : BkH P (c 10 4).toNat (c 3) (c 11) (c 12) (c 14) (c 15)) (h : FaC P c w N T) (h' : FaC P c w N' T') : N = N' ∧ ∀ j, j < P → T j = T' j := by
  obtain ⟨S, h1, h2, h3⟩ := h
  obtain ⟨S', g1, g2, g3⟩ := h'
  have e := fall_eq (ev := c 11) (tb := c 12) (fl := c 14) (w := w) (fun i hi => ⟨(H.2.2.1 i hi).1, (H.2.2.1 i hi).2.1⟩) (StA.uniq H h1 g1) (c 10 4).toNat (Nat.le_refl _)
  exact ⟨h2.trans (e.1.trans g2.symm), fun j hj => (h3 j hj).trans ((e.2 j).trans (g3 j hj).symm)⟩
set_option maxHeartbeats 400000 in
set_option maxRecDepth 20000 in
theorem e_countFalls {sn : Nat} {sx : Nat → Int} {b : Nat} {g : am_G} {P : Nat} {w : Int} (hI : CInv P g) (hw : R32 w) : Ev sn sx 9 85 [(2, 56), (0, w), (2, 126)] (SH b) g (fun r => ∃ g' N, r = (some (0, ((N : Nat) : Int)), SH b, g') ∧ CInv P g' ∧ FrV g g' ∧ FaC P g w N (g' 126)) := by
  have hn := hI.rg.r10_6 4 rfl
  have h5 := hI.ck.1
  have hBk := hI.bk
  have hw1 : -2147483648 ≤ w ∧ w < 2147483648 := hw
  refine ev_of (K := 8) T85 (by decide) rfl rfl (Nat.le_of_ble_eq_true rfl) ?_
  refine wp_eq (L' := [(2, 56), (0, w), (2, 126), (9, 0), (9, 0), (9, 0)]) (st' := []) (g' := g) ?_
  refine wp_n 4 (pc' := 4) (L' := [(2, 56), (0, w), (2, 126), (0, 0), (9, 0), (9, 0)]) (st' := [(0, 0), (2, 126)]) (g' := g) rfl ?_
  refine wp_cs (as := [(2, 126), (0, 0)]) (rest := []) rfl (by decide) rfl (Nat.le_of_ble_eq_true rfl) (e_fill (k := 126) rfl) (by decide) (fun r1 h2 => ?_)
  obtain ⟨g4, rfl, hZ4, hF4⟩ := h2
  refine wp_eq (L' := [(2, 56), (0, w), (2, 126), (0, 0), (9, 0), (9, 0)]) (st' := []) (g' := g4) ?_
  refine wp_n 2 (pc' := 10) (L' := [(2, 56), (0, w), (2, 126), (0, 0), (0, 0), (9, 0)]) (st' := []) (g' := g4) rfl ?_
  have L10 : ∀ (lf : Nat) (e : Nat) (h : am_G) (w5 : am_V), 4 - e < lf → (e ≤ 4) → (CInv P h) → (FrV g h) → (∀ d : Nat, d < e → h 56 2 / 2 ^ d % 2 = 1) → (∀ j, j < 37 → h 126 j = 0) → Wp sn sx 8 T85 10 [(2, 56), (0, w), (2, 126), (0, 0), (0, ((e : Nat) : Int)), w5] [] (SH b) h (fun r => ∃ g' N, r = (some (0, ((N : Nat) : Int)), SH b, g') ∧ CInv P g' ∧ FrV g g' ∧ FaC P g w N (g' 126)) := by
    intro lf
    induction lf with
    | zero => intro e h w5 hlf; exact absurd hlf (Nat.not_lt_zero _)
    | succ lf ih10 =>
      intro e h w5 hlf he hIh hFh hbt hz
      refine wp_n 2 (pc' := 13) (L' := [(2, 56), (0, w), (2, 126), (0, 0), (0, ((e : Nat) : Int)), w5]) (st' := [(0, 4), (0, ((e : Nat) : Int))]) (g' := h) rfl ?_
      refine wp_ic_ge rfl (fun c3 => ?_) (fun c3 => ?_)
      · obtain rfl : e = 4 := by omega
        have hf (c j : Nat) (q : c < 56 ∨ 102 < c) (q2 : c ≠ 126) : h c j = g c j := hFh c j q q2
        have hSt : StA P g (h 59) := fun d hd => ⟨h 57 d, h 58 d, by
          have := hIh.caw.2 d hd (hbt d hd)
          rw [show h 3 = g 3 from funext fun j => hf 3 j (by omega) (by decide), show h 11 = g 11 from funext fun j => hf 11 j (by omega) (by decide), show h 12 = g 12 from funext fun j => hf 12 j (by omega) (by decide), show h 14 = g 14 from funext fun j => hf 14 j (by omega) (by decide), show h 15 = g 15 from funext fun j => hf 15 j (by omega) (by decide), hf 10 4 (by omega) (by decide)] at this
          exact this⟩
        refine wp_n 2 (pc' := 31) (L' := [(2, 56), (0, w), (2, 126), (0, 0), (0, 0), w5]) (st' := []) (g' := h) rfl ?_
        have L31 : ∀ (lf : Nat) (i : Nat) (m : am_G) (w6 : am_V), (g 10 4).toNat - i < lf → (i ≤ (g 10 4).toNat) → (∀ j, j < 37 → m 126 j = (fallT (g 11) (g 12) (g 14) (h 59) w j i)) → (FrA 126 h m) → Wp sn sx 8 T85 31 [(2, 56), (0, w), (2, 126), (0, (((fallN (g 11) (g 12) (g 14) (h 59) w i) : Nat) : Int)), (0, ((i : Nat) : Int)), w6] [] (SH b) m (fun r => ∃ g' N, r = (some (0, ((N : Nat) : Int)), SH b, g') ∧ CInv P g' ∧ FrV g g' ∧ FaC P g w N (g' 126)) := by
          intro lf
          induction lf with
          | zero => intro i m w6 hlf; exact absurd hlf (Nat.not_lt_zero _)
          | succ lf ih31 =>
            intro i m w6 hlf hi hT hFm
            refine wp_n 4 (pc' := 40) (L' := [(2, 56), (0, w), (2, 126), (0, (((fallN (g 11) (g 12) (g 14) (h 59) w i) : Nat) : Int)), (0, ((i : Nat) : Int)), w6]) (st' := [(0, (m 10 4)), (0, ((i : Nat) : Int))]) (g' := m) rfl ?_
            refine wp_eq (L' := [(2, 56), (0, w), (2, 126), (0, (((fallN (g 11) (g 12) (g 14) (h 59) w i) : Nat) : Int)), (0, ((i : Nat) : Int)), w6]) (st' := [(0, (g 10 4)), (0, ((i : Nat) : Int))]) (g' := m) ?_ (by rfl) (by rw [hFm 10 4 (by decide), hf 10 4 (by omega) (by decide)]) (by rfl)
            refine wp_ic_ge rfl (fun c4 => ?_) (fun c4 => ?_)
            · have hin : i = (g 10 4).toNat := by omega
              refine wp_n 1 (pc' := 111) (L' := [(2, 56), (0, w), (2, 126), (0, (((fallN (g 11) (g 12) (g 14) (h 59) w i) : Nat) : Int)), (0, ((i : Nat) : Int)), w6]) (st' := [(0, (((fallN (g 11) (g 12) (g 14) (h 59) w i) : Nat) : Int))]) (g' := m) rfl ?_
              exact wp_ret rfl rfl rfl ⟨_, _, rfl, hIh.keepQ fun c j hc => hFm c j (fun k => hc (by unfold Sq; omega)), fun c j q1 q2 => (hFm c j q2).trans (hFh c j q1 q2), h 59, hSt, by rw [hin], fun j hj => by rw [hT j (by omega), hin]⟩
            · have hb := hBk.2.2.1 i (by omega)
              have hfn := fallN_le (ev := g 11) (tb := g 12) (fl := g 14) (S := h 59) (w := w) i
              have hft := fallT_in (ev := g 11) (tb := g 12) (fl := g 14) (S := h 59) (w := w) (p := (g 14 i).toNat) i
              obtain ⟨s5, hs5⟩ : ∃ s5, s5 = h 59 (3 * g 11 i + g 12 i).toNat := ⟨_, rfl⟩
              have hs5r := hSt.in (3 * g 11 i + g 12 i).toNat (by omega)
              rw [← hs5] at hs5r
              refine wp_n 4 (pc' := 52) (L' := [(2, 56), (0, w), (2, 126), (0, (((fallN (g 11) (g 12) (g 14) (h 59) w i) : Nat) : Int)), (0, ((i : Nat) : Int)), w6]) (st' := [(0, ((i : Nat) : Int)), (2, 14)]) (g' := m) rfl ?_
              refine wp_iald (k := 14) (i) rfl rfl (by omega) (by omega) (by decide) ?_
              refine wp_eq (L' := [(2, 56), (0, w), (2, 126), (0, (((fallN (g 11) (g 12) (g 14) (h 59) w i) : Nat) : Int)), (0, ((i : Nat) : Int)), w6]) (st' := [(0, (g 14 i))]) (g' := m) ?_ (by rfl) (by rw [hFm 14 i (by decide), hf 14 i (by omega) (by decide)]) (by rfl)
              refine wp_n 3 (pc' := 58) (L' := [(2, 56), (0, w), (2, 126), (0, (((fallN (g 11) (g 12) (g 14) (h 59) w i) : Nat) : Int)), (0, ((i : Nat) : Int)), (0, (g 14 i))]) (st' := [(0, (-1)), (0, (g 14 i))]) (g' := m) rfl ?_
              refine wp_ic_eq rfl (fun c5 => ?_) (fun c5 => ?_)
              · refine wp_n 2 (pc' := 31) (L' := [(2, 56), (0, w), (2, 126), (0, (((fallN (g 11) (g 12) (g 14) (h 59) w i) : Nat) : Int)), (0, (((i : Nat) : Int) + 1)), (0, (g 14 i))]) (st' := []) (g' := m) rfl ?_
                refine wp_eq (ih31 (i + 1) (m) ((0, (g 14 i))) ?_ ?_ ?_ ?_) (by first | (rw [fallN, if_pos (by first | assumption | (refine ⟨?_, ?_⟩ <;> omega))]; rfl) | (rw [fallN, if_neg (by omega)]; rfl)) (by rfl) (by rfl)
                · omega
                · omega
                · intro j hj
                  rw [fallT, hT j hj, if_neg (by omega), Int.add_zero]
                · exact hFm
              · refine wp_n 6 (pc' := 74) (L' := [(2, 56), (0, w), (2, 126), (0, (((fallN (g 11) (g 12) (g 14) (h 59) w i) : Nat) : Int)), (0, ((i : Nat) : Int)), (0, (g 14 i))]) (st' := [(0, ((i : Nat) : Int)), (2, 11), (2, 59)]) (g' := m) rfl ?_
                refine wp_iald (k := 11) (i) rfl rfl (by omega) (by omega) (by decide) ?_
                refine wp_eq (L' := [(2, 56), (0, w), (2, 126), (0, (((fallN (g 11) (g 12) (g 14) (h 59) w i) : Nat) : Int)), (0, ((i : Nat) : Int)), (0, (g 14 i))]) (st' := [(0, (g 11 i)), (2, 59)]) (g' := m) ?_ (by rfl) (by rw [hFm 11 i (by decide), hf 11 i (by omega) (by decide)]) (by rfl)
                refine wp_n 6 (pc' := 86) (L' := [(2, 56), (0, w), (2, 126), (0, (((fallN (g 11) (g 12) (g 14) (h 59) w i) : Nat) : Int)), (0, ((i : Nat) : Int)), (0, (g 14 i))]) (st' := [(0, ((i : Nat) : Int)), (2, 12), (0, ((g 11 i) * 3)), (2, 59)]) (g' := m) rfl ?_
                refine wp_iald (k := 12) (i) rfl rfl (by omega) (by omega) (by decide) ?_
                refine wp_eq (L' := [(2, 56), (0, w), (2, 126), (0, (((fallN (g 11) (g 12) (g 14) (h 59) w i) : Nat) : Int)), (0, ((i : Nat) : Int)), (0, (g 14 i))]) (st' := [(0, (g 12 i)), (0, ((g 11 i) * 3)), (2, 59)]) (g' := m) ?_ (by rfl) (by rw [hFm 12 i (by decide), hf 12 i (by omega) (by decide)]) (by rfl)
                refine wp_n 1 (pc' := 88) (L' := [(2, 56), (0, w), (2, 126), (0, (((fallN (g 11) (g 12) (g 14) (h 59) w i) : Nat) : Int)), (0, ((i : Nat) : Int)), (0, (g 14 i))]) (st' := [(0, (((g 11 i) * 3) + (g 12 i))), (2, 59)]) (g' := m) rfl ?_
                refine wp_iald (k := 59) ((3 * g 11 i + g 12 i).toNat) rfl rfl (by omega) (by omega) (by decide) ?_
                refine wp_eq (L' := [(2, 56), (0, w), (2, 126), (0, (((fallN (g 11) (g 12) (g 14) (h 59) w i) : Nat) : Int)), (0, ((i : Nat) : Int)), (0, (g 14 i))]) (st' := [(0, s5)]) (g' := m) ?_ (by rfl) (by rw [hFm 59 _ (by decide), hs5]) (by rfl)
                refine wp_n 1 (pc' := 90) (L' := [(2, 56), (0, w), (2, 126), (0, (((fallN (g 11) (g 12) (g 14) (h 59) w i) : Nat) : Int)), (0, ((i : Nat) : Int)), (0, (g 14 i))]) (st' := [(0, w), (0, s5)]) (g' := m) rfl ?_
                refine wp_ic_ne rfl (fun c6 => ?_) (fun c6 => ?_)
                · refine wp_n 2 (pc' := 31) (L' := [(2, 56), (0, w), (2, 126), (0, (((fallN (g 11) (g 12) (g 14) (h 59) w i) : Nat) : Int)), (0, (((i : Nat) : Int) + 1)), (0, (g 14 i))]) (st' := []) (g' := m) rfl ?_
                  refine wp_eq (ih31 (i + 1) (m) ((0, (g 14 i))) ?_ ?_ ?_ ?_) (by first | (rw [fallN, if_pos (by first | assumption | (refine ⟨?_, ?_⟩ <;> omega))]; rfl) | (rw [fallN, if_neg (by omega)]; rfl)) (by rfl) (by rfl)
                  · omega
                  · omega
                  · intro j hj
                    rw [fallT, hT j hj, if_neg (by omega), Int.add_zero]
                  · exact hFm
                · refine wp_n 3 (pc' := 97) (L' := [(2, 56), (0, w), (2, 126), (0, (((fallN (g 11) (g 12) (g 14) (h 59) w i) : Nat) : Int)), (0, ((i : Nat) : Int)), (0, (g 14 i))]) (st' := [(0, (g 14 i)), (2, 126), (0, (g 14 i)), (2, 126)]) (g' := m) rfl ?_
                  refine wp_iald (k := 126) ((g 14 i).toNat) rfl rfl (by omega) (by omega) (by decide) ?_
                  refine wp_eq (L' := [(2, 56), (0, w), (2, 126), (0, (((fallN (g 11) (g 12) (g 14) (h 59) w i) : Nat) : Int)), (0, ((i : Nat) : Int)), (0, (g 14 i))]) (st' := [(0, (fallT (g 11) (g 12) (g 14) (h 59) w (g 14 i).toNat i)), (0, (g 14 i)), (2, 126)]) (g' := m) ?_ (by rfl) (by rw [hT _ (by omega)]) (by rfl)
                  refine wp_n 2 (pc' := 100) (L' := [(2, 56), (0, w), (2, 126), (0, (((fallN (g 11) (g 12) (g 14) (h 59) w i) : Nat) : Int)), (0, ((i : Nat) : Int)), (0, (g 14 i))]) (st' := [(0, ((fallT (g 11) (g 12) (g 14) (h 59) w (g 14 i).toNat i) + 1)), (0, (g 14 i)), (2, 126)]) (g' := m) rfl ?_
                  refine wp_iast (k := 126) ((g 14 i).toNat) rfl rfl (by omega) (by omega) (by decide) ?_
                  refine wp_n 3 (pc' := 31) (L' := [(2, 56), (0, w), (2, 126), (0, ((((fallN (g 11) (g 12) (g 14) (h 59) w i) : Nat) : Int) + 1)), (0, (((i : Nat) : Int) + 1)), (0, (g 14 i))]) (st' := []) (g' := (am_up m 126 ((g 14 i).toNat) ((fallT (g 11) (g 12) (g 14) (h 59) w (g 14 i).toNat i) + 1))) rfl ?_
                  refine wp_eq (ih31 (i + 1) ((am_up m 126 ((g 14 i).toNat) ((fallT (g 11) (g 12) (g 14) (h 59) w (g 14 i).toNat i) + 1))) ((0, (g 14 i))) ?_ ?_ ?_ ?_) (by first | (rw [fallN, if_pos (by first | assumption | (refine ⟨?_, ?_⟩ <;> omega))]; rfl) | (rw [fallN, if_neg (by omega)]; rfl)) (by rfl) (by rfl)
                  · omega
                  · omega
                  · intro j hj
                    rw [fallT]
                    by_cases q : j = (g 14 i).toNat
                    · subst q; rw [up_eq, if_pos (by refine ⟨?_, ?_, ?_⟩ <;> omega)]
                    · rw [up_nj q, hT j hj, if_neg (by omega), Int.add_zero]
                  · exact fun c j q => (up_ne q).trans (hFm c j q)
        refine wp_eq (L31 (_ + 1) (0) (h) (w5) (Nat.lt_succ_self _) ?_ ?_ ?_) (by first | rfl | (simp; done) | (simp; omega)) (by rfl) (by rfl)
        · exact Nat.zero_le _
        · exact hz
        · exact fun _ _ _ => rfl
      · refine wp_n 2 (pc' := 19) (L' := [(2, 56), (0, w), (2, 126), (0, 0), (0, ((e : Nat) : Int)), w5]) (st' := [(0, ((e : Nat) : Int)), (2, 56)]) (g' := h) rfl ?_
        refine wp_cv (as := [(2, 56), (0, ((e : Nat) : Int))]) (rest := []) rfl rfl rfl (Nat.le_of_ble_eq_true rfl) rfl (e_settle (P := P) (e := e) hIh (by omega)) (by decide) (fun r7 h8 => ?_)
        obtain ⟨g19, rfl, hI19, hF19, hb19, hc19⟩ := h8
        refine wp_eq (L' := [(2, 56), (0, w), (2, 126), (0, 0), (0, ((e : Nat) : Int)), w5]) (st' := []) (g' := g19) ?_
        refine wp_n 2 (pc' := 10) (L' := [(2, 56), (0, w), (2, 126), (0, 0), (0, (((e : Nat) : Int) + 1)), w5]) (st' := []) (g' := g19) rfl ?_
        refine wp_eq (ih10 (e + 1) (g19) (w5) ?_ ?_ ?_ ?_ ?_ ?_) (by first | rfl | (simp; done) | (simp; omega)) (by rfl) (by rfl)
        · omega
        · omega
        · exact hI19
        · exact fun c j q1 q2 => (hF19 c j q1).trans (hFh c j q1 q2)
        · intro d hd
          by_cases q : d = e
          · subst q; exact hb19
          · exact hc19 d (by omega) (hbt d (by omega))
        · exact fun j hj => (hF19 126 j (by omega)).trans (hz j hj)
  refine wp_eq (L10 (_ + 1) (0) (g4) ((9, 0)) (Nat.lt_succ_self _) ?_ ?_ ?_ ?_ ?_) (by first | rfl | (simp; done) | (simp; omega)) (by rfl) (by rfl)
  · exact Nat.zero_le _
  · exact hI.keepQ fun c j hc => hF4 c j (fun k => hc (by unfold Sq; omega))
  · exact fun c j _ q => hF4 c j q
  · exact fun d hd => absurd hd (Nat.not_lt_zero _)
  · exact hZ4
def WhD (x t : Int) : Prop := 0 ≤ x ∧ x ≤ 3 ∧ -2 ≤ t ∧ t ≤ 2
def WhA (P : Nat) (c : am_G) (x t v : Int) : Prop := (WhD x t ∧ ∃ a u s, WA P (c 3) (c 11) (c 12) (c 14) (c 15) (c 10 4).toNat x.toNat a u s ∧ v = (if t = -2 then a else if t = -1 then u else s t.toNat)) ∨ (¬ WhD x t ∧ v = -1)
theorem WhA.uniq {P : Nat} {c : am_G} (hI : CInv P c) {x t v v' : Int} (h : WhA P c x t v) (h' : WhA P c x t v') : v = v' := by
  rcases h with ⟨h1, a, u, s, h2, h3⟩ | h <;> rcases h' with ⟨k1, a', u', s', k2, k3⟩ | h'
  · obtain ⟨q1, q2, q3, q4⟩ := h1
    have e := h2.uniq hI.bk (by omega) k2
    have e3 := e.2.2 t.toNat
    rw [h3, k3]
    split
    · exact e.1
    · split
      · exact e.2.1
      · exact e3 (by omega)
  · exact absurd h1 h'.1
  · exact absurd k1 h.1
  · exact h.2.trans h'.2.symm
theorem cpost_w {P b : Nat} {g : am_G} {A : Int → Prop} {r : am_R} (h : ∃ g' v, r = (some (0, v), SH b, g') ∧ A v ∧ CInv P g' ∧ FrV g g') : CPost P g (fun c1 v1 => A v1 ∧ CoE g c1) r := by
  obtain ⟨g', v, h1, h2, h3, h4⟩ := h
  exact ⟨g', v, b, h1, h3, fun c j hc => h4 c j (by omega) (by omega), h2, fun c j hc => h4 c j (by unfold Co at hc; omega) (by unfold Co at hc; omega)⟩
theorem FrV.rfl {g : am_G} : FrV g g := fun _ _ _ _ => Eq.refl _
set_option maxHeartbeats 400000 in
set_option maxRecDepth 20000 in
theorem e_which {sn : Nat} {sx : Nat → Int} {b : Nat} {g : am_G} {P : Nat} {x t : Int} (h_x : R32 x) (h_t : R32 t) (hI : CInv P g) : Ev sn sx 9 112 [(2, 0), (0, x), (0, t)] (SH b) g (fun r => ∃ g' v, r = (some (0, v), SH b, g') ∧ WhA P g x t v ∧ CInv P g' ∧ FrV g g') := by
  have hx1 : -2147483648 ≤ x ∧ x < 2147483648 := h_x
  have ht1 : -2147483648 ≤ t ∧ t < 2147483648 := h_t
  refine ev_of (K := 8) T112 (by decide) rfl rfl (Nat.le_of_ble_eq_true rfl) ?_
  refine wp_eq (L' := [(2, 0), (0, x), (0, t)]) (st' := []) (g' := g) ?_
  refine wp_n 3 (pc' := 3) (L' := [(2, 0), (0, x), (0, t)]) (st' := [(0, 3), (0, 0), (0, x)]) (g' := g) rfl ?_
  refine wp_cs (as := [(0, x), (0, 0), (0, 3)]) (rest := []) rfl (by decide) rfl (Nat.le_of_ble_eq_true rfl) (e_within (by omega) (by omega) (by omega)) (by decide) (fun r2 h3 => ?_)
  rcases h3 with ⟨rfl, p1⟩ | ⟨rfl, p1⟩
  · refine wp_eq (L' := [(2, 0), (0, x), (0, t)]) (st' := [(0, 1)]) (g' := g) ?_
    refine wp_n 4 (pc' := 13) (L' := [(2, 0), (0, x), (0, t)]) (st' := [(0, 2), (0, (-2)), (0, t)]) (g' := g) rfl ?_
    refine wp_cs (as := [(0, t), (0, (-2)), (0, 2)]) (rest := []) rfl (by decide) rfl (Nat.le_of_ble_eq_true rfl) (e_within (by omega) (by omega) (by omega)) (by decide) (fun r5 h6 => ?_)
    rcases h6 with ⟨rfl, p4⟩ | ⟨rfl, p4⟩
    · refine wp_eq (L' := [(2, 0), (0, x), (0, t)]) (st' := [(0, 1)]) (g' := g) ?_
      refine wp_n 4 (pc' := 26) (L' := [(2, 0), (0, x), (0, t)]) (st' := [(0, x), (2, 56)]) (g' := g) rfl ?_
      refine wp_eq (L' := [(2, 0), (0, x), (0, t)]) (st' := [(0, ((x.toNat : Nat) : Int)), (2, 56)]) (g' := g) ?_ (by rfl) (by rw [Int.toNat_of_nonneg (by omega)]) (by rfl)
      refine wp_cv (as := [(2, 56), (0, ((x.toNat : Nat) : Int))]) (rest := []) rfl rfl rfl (Nat.le_of_ble_eq_true rfl) rfl (e_settle (P := P) (e := x.toNat) hI (by omega)) (by decide) (fun r7 h8 => ?_)
      obtain ⟨g26, rfl, hI26, hF26, hb26, hc26⟩ := h8
      have hA := hI26.caw.2 x.toNat (by omega) hb26
      rw [show g26 3 = g 3 from funext fun j => hF26 3 j (by omega), show g26 11 = g 11 from funext fun j => hF26 11 j (by omega), show g26 12 = g 12 from funext fun j => hF26 12 j (by omega), show g26 14 = g 14 from funext fun j => hF26 14 j (by omega), show g26 15 = g 15 from funext fun j => hF26 15 j (by omega), hF26 10 4 (by omega)] at hA
      refine wp_eq (L' := [(2, 0), (0, x), (0, t)]) (st' := []) (g' := g26) ?_
      refine wp_n 2 (pc' := 32) (L' := [(2, 0), (0, x), (0, t)]) (st' := [(0, (-2)), (0, t)]) (g' := g26) rfl ?_
      refine wp_ic_ne rfl (fun c9 => ?_) (fun c9 => ?_)
      · refine wp_n 2 (pc' := 47) (L' := [(2, 0), (0, x), (0, t)]) (st' := [(0, (-1)), (0, t)]) (g' := g26) rfl ?_
        refine wp_ic_ne rfl (fun c10 => ?_) (fun c10 => ?_)
        · refine wp_n 8 (pc' := 74) (L' := [(2, 0), (0, x), (0, t)]) (st' := [(0, ((x * 3) + t)), (2, 59)]) (g' := g26) rfl ?_
          refine wp_iald (k := 59) ((3 * x.toNat + t.toNat)) rfl rfl (by omega) (by omega) (by decide) ?_
          exact wp_ret rfl rfl rfl ⟨_, _, rfl, Or.inl ⟨by unfold WhD; omega, _, _, _, hA, by first | (rw [if_pos (by omega)]) | (rw [if_neg (by omega), if_pos (by omega)]) | (rw [if_neg (by omega), if_neg (by omega)])⟩, hI26, fun c j q _ => hF26 c j q⟩
        · refine wp_n 4 (pc' := 58) (L' := [(2, 0), (0, x), (0, t)]) (st' := [(0, x), (2, 58)]) (g' := g26) rfl ?_
          refine wp_iald (k := 58) (x.toNat) rfl rfl (by omega) (by omega) (by decide) ?_
          refine wp_n 1 (pc' := 75) (L' := [(2, 0), (0, x), (0, t)]) (st' := [(0, (g26 58 x.toNat))]) (g' := g26) rfl ?_
          exact wp_ret rfl rfl rfl ⟨_, _, rfl, Or.inl ⟨by unfold WhD; omega, _, _, _, hA, by first | (rw [if_pos (by omega)]) | (rw [if_neg (by omega), if_pos (by omega)]) | (rw [if_neg (by omega), if_neg (by omega)])⟩, hI26, fun c j q _ => hF26 c j q⟩
      · refine wp_n 4 (pc' := 43) (L' := [(2, 0), (0, x), (0, t)]) (st' := [(0, x), (2, 57)]) (g' := g26) rfl ?_
        refine wp_iald (k := 57) (x.toNat) rfl rfl (by omega) (by omega) (by decide) ?_
        exact wp_ret rfl rfl rfl ⟨_, _, rfl, Or.inl ⟨by unfold WhD; omega, _, _, _, hA, by first | (rw [if_pos (by omega)]) | (rw [if_neg (by omega), if_pos (by omega)]) | (rw [if_neg (by omega), if_neg (by omega)])⟩, hI26, fun c j q _ => hF26 c j q⟩
    · refine wp_eq (L' := [(2, 0), (0, x), (0, t)]) (st' := [(0, 0)]) (g' := g) ?_
      refine wp_n 2 (pc' := 20) (L' := [(2, 0), (0, x), (0, t)]) (st' := [(0, (-1))]) (g' := g) rfl ?_
      exact wp_ret rfl rfl rfl ⟨_, _, rfl, Or.inr ⟨by unfold WhD; omega, rfl⟩, hI, FrV.rfl⟩
  · refine wp_eq (L' := [(2, 0), (0, x), (0, t)]) (st' := [(0, 0)]) (g' := g) ?_
    refine wp_n 2 (pc' := 20) (L' := [(2, 0), (0, x), (0, t)]) (st' := [(0, (-1))]) (g' := g) rfl ?_
    exact wp_ret rfl rfl rfl ⟨_, _, rfl, Or.inr ⟨by unfold WhD; omega, rfl⟩, hI, FrV.rfl⟩
theorem C_which {sn : Nat} {sx : Nat → Int} {b : Nat} {g : am_G} {P : Nat} {x t : Int} (h_x : R32 x) (h_t : R32 t) (hI : CInv P g) : Ev sn sx 9 112 [(2, 0), (0, x), (0, t)] (SH b) g (CPost P g (fun c1 v1 => WhA P g x t v1 ∧ CoE g c1)) := (e_which h_x h_t hI).mono fun r hh => cpost_w hh
def FaD (P : Nat) (w p : Int) : Prop := 0 ≤ w ∧ w ≤ 3 ∧ -1 ≤ p ∧ p < (P : Int)
def FaA (P : Nat) (c : am_G) (w p v : Int) : Prop := (FaD P w p ∧ ∃ N T, FaC P c w N T ∧ v = (if p = -1 then (N : Int) else T p.toNat)) ∨ (¬ FaD P w p ∧ v = -1)
theorem FaA.uniq {P : Nat} {c : am_G} (hI : CInv P c) {w p v v' : Int} (h : FaA P c w p v) (h' : FaA P c w p v') : v = v' := by
  rcases h with ⟨h1, N, T, h2, h3⟩ | h <;> rcases h' with ⟨k1, N', T', k2, k3⟩ | h'
  · obtain ⟨q1, q2, q3, q4⟩ := h1
    have e := h2.uniq hI.bk k2
    rw [h3, k3, e.1]
    split
    · rfl
    · exact e.2 _ (by omega)
  · exact absurd h1 h'.1
  · exact absurd k1 h.1
  · exact h.2.trans h'.2.symm
set_option maxHeartbeats 400000 in
set_option maxRecDepth 20000 in
theorem e_falls {sn : Nat} {sx : Nat → Int} {b : Nat} {g : am_G} {P : Nat} {w p : Int} (h_w : R32 w) (h_p : R32 p) (hI : CInv P g) : Ev sn sx 10 113 [(2, 0), (0, w), (0, p)] (SH b) g (fun r => ∃ g' v, r = (some (0, v), SH b, g') ∧ FaA P g w p v ∧ CInv P g' ∧ FrV g g') := by
  have hP := hI.ck.2.1
  have h5 := hI.ck.1
  have hw1 : -2147483648 ≤ w ∧ w < 2147483648 := h_w
  have hp1 : -2147483648 ≤ p ∧ p < 2147483648 := h_p
  refine ev_of (K := 9) T113 (by decide) rfl rfl (Nat.le_of_ble_eq_true rfl) ?_
  refine wp_eq (L' := [(2, 0), (0, w), (0, p), (9, 0)]) (st' := []) (g' := g) ?_
  refine wp_n 1 (pc' := 1) (L' := [(2, 0), (0, w), (0, p), (9, 0)]) (st' := [(0, w)]) (g' := g) rfl ?_
  refine wp_cs (as := [(0, w)]) (rest := []) rfl (by decide) rfl (Nat.le_of_ble_eq_true rfl) (e_isWheel (by omega)) (by decide) (fun r2 h3 => ?_)
  rcases h3 with ⟨rfl, p1⟩ | ⟨rfl, p1⟩
  · refine wp_eq (L' := [(2, 0), (0, w), (0, p), (9, 0)]) (st' := [(0, 1)]) (g' := g) ?_
    refine wp_n 3 (pc' := 9) (L' := [(2, 0), (0, w), (0, p), (9, 0)]) (st' := [(0, p), (2, 0)]) (g' := g) rfl ?_
    refine wp_cv (as := [(2, 0), (0, p)]) (rest := []) rfl rfl rfl (Nat.le_of_ble_eq_true rfl) rfl (e_isPocketOrNone (by omega) (by assumption) (by omega)) (by decide) (fun r4 h5 => ?_)
    rcases h5 with ⟨rfl, p9⟩ | ⟨rfl, p9⟩
    · refine wp_eq (L' := [(2, 0), (0, w), (0, p), (9, 0)]) (st' := [(0, 1)]) (g' := g) ?_
      refine wp_n 6 (pc' := 26) (L' := [(2, 0), (0, w), (0, p), (9, 0)]) (st' := [(2, 126), (0, w), (2, 56)]) (g' := g) rfl ?_
      refine wp_cv (as := [(2, 56), (0, w), (2, 126)]) (rest := []) rfl rfl rfl (Nat.le_of_ble_eq_true rfl) rfl (e_countFalls (P := P) (w := w) hI (by assumption)) (by decide) (fun r6 h7 => ?_)
      obtain ⟨g26, N26, rfl, hI26, hF26, hA26⟩ := h7
      refine wp_eq (L' := [(2, 0), (0, w), (0, p), (9, 0)]) (st' := [(0, ((N26 : Nat) : Int))]) (g' := g26) ?_
      refine wp_n 3 (pc' := 32) (L' := [(2, 0), (0, w), (0, p), (0, ((N26 : Nat) : Int))]) (st' := [(0, (-1)), (0, p)]) (g' := g26) rfl ?_
      refine wp_ic_ne rfl (fun c8 => ?_) (fun c8 => ?_)
      · refine wp_n 3 (pc' := 44) (L' := [(2, 0), (0, w), (0, p), (0, ((N26 : Nat) : Int))]) (st' := [(0, p), (2, 126)]) (g' := g26) rfl ?_
        refine wp_iald (k := 126) (p.toNat) rfl rfl (by omega) (by omega) (by decide) ?_
        exact wp_ret rfl rfl rfl ⟨_, _, rfl, Or.inl ⟨by unfold FaD; omega, _, _, hA26, by first | (rw [if_pos (by omega)]) | (rw [if_neg (by omega)])⟩, hI26, hF26⟩
      · refine wp_n 2 (pc' := 45) (L' := [(2, 0), (0, w), (0, p), (0, ((N26 : Nat) : Int))]) (st' := [(0, ((N26 : Nat) : Int))]) (g' := g26) rfl ?_
        exact wp_ret rfl rfl rfl ⟨_, _, rfl, Or.inl ⟨by unfold FaD; omega, _, _, hA26, by first | (rw [if_pos (by omega)]) | (rw [if_neg (by omega)])⟩, hI26, hF26⟩
    · refine wp_eq (L' := [(2, 0), (0, w), (0, p), (9, 0)]) (st' := [(0, 0)]) (g' := g) ?_
      refine wp_n 2 (pc' := 16) (L' := [(2, 0), (0, w), (0, p), (9, 0)]) (st' := [(0, (-1))]) (g' := g) rfl ?_
      exact wp_ret rfl rfl rfl ⟨_, _, rfl, Or.inr ⟨by unfold FaD; omega, rfl⟩, hI, FrV.rfl⟩
  · refine wp_eq (L' := [(2, 0), (0, w), (0, p), (9, 0)]) (st' := [(0, 0)]) (g' := g) ?_
    refine wp_n 2 (pc' := 16) (L' := [(2, 0), (0, w), (0, p), (9, 0)]) (st' := [(0, (-1))]) (g' := g) rfl ?_
    exact wp_ret rfl rfl rfl ⟨_, _, rfl, Or.inr ⟨by unfold FaD; omega, rfl⟩, hI, FrV.rfl⟩
theorem C_falls {sn : Nat} {sx : Nat → Int} {b : Nat} {g : am_G} {P : Nat} {w p : Int} (h_w : R32 w) (h_p : R32 p) (hI : CInv P g) : Ev sn sx 10 113 [(2, 0), (0, w), (0, p)] (SH b) g (CPost P g (fun c1 v1 => FaA P g w p v1 ∧ CoE g c1)) := (e_falls h_w h_p hI).mono fun r hh => cpost_w hh
