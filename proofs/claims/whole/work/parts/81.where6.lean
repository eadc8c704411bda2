/-! WHERE: weigh -/
theorem ch_ref {i : Nat} (h : i < 12) : ([72, 74, 76, 78, 80, 82, 84, 86, 88, 90, 92, 94] : List Nat)[i]? = some (71 + 2 * i + 1) := by
  rcases (show i = 0 ∨ i = 1 ∨ i = 2 ∨ i = 3 ∨ i = 4 ∨ i = 5 ∨ i = 6 ∨ i = 7 ∨ i = 8 ∨ i = 9 ∨ i = 10 ∨ i = 11 by omega) with q | q | q | q | q | q | q | q | q | q | q | q <;> subst q <;> rfl
theorem isb_ch {b i : Nat} (h : i < 12) : IsBig b (71 + 2 * i) := by
  rcases (show i = 0 ∨ i = 1 ∨ i = 2 ∨ i = 3 ∨ i = 4 ∨ i = 5 ∨ i = 6 ∨ i = 7 ∨ i = 8 ∨ i = 9 ∨ i = 10 ∨ i = 11 by omega) with q | q | q | q | q | q | q | q | q | q | q | q <;> subst q <;> exact ⟨rfl, rfl⟩
theorem WLs.fr {k : Nat} {g g' : am_G} (h : WLs g) (hF : FrB k g g') (hL : BigL g' k) (hk : k % 2 = 1) : WLs g' := by
  intro a h1 h2 h3
  by_cases e : a = k
  · subst e; exact hL
  · exact (h a h1 h2 h3).fr hF (by omega)
def FrG (g h : am_G) : Prop := ∀ c j, c ≠ 62 → (c < 71 ∨ 94 < c) → h c j = g c j
theorem FrG.b {k : Nat} {g h i : am_G} (h1 : FrG g h) (h2 : FrB k h i) (hk : 71 ≤ k ∧ k ≤ 93) : FrG g i := fun c j a b => (h2 c j (by omega) (by omega)).trans (h1 c j a b)
theorem spn_mono {ev tb fl : Nat → Int} {e t : Int} {i n : Nat} (h : i ≤ n) : spn ev tb fl e t i ≤ spn ev tb fl e t n := by
  obtain ⟨d, rfl⟩ := Nat.le.dest h
  induction d with
  | zero => exact Nat.le_refl _
  | succ d ih =>
    have := ih (by omega)
    rw [← Nat.add_assoc, spn]
    omega
theorem chn_le {P n e : Nat} {l ev tb fl sc : Nat → Int} (H : BkH P n l ev tb fl sc) {t w i : Nat} (he : e < 4) (ht : t < 3) (hw : w < 4) (hi : i ≤ n) : 1 ≤ chn P l ev tb fl e t w i ∧ chn P l ev tb fl e t w i ≤ 8796093022208 ^ 24 := by
  have h1 := chn_in H (e := e) (t := t) hw i hi
  have h2 := H.2.2.2.2.2 e he
  have h3 := spn_mono (ev := ev) (tb := tb) (fl := fl) (e := e) (t := t) hi
  refine ⟨h1.1, Int.le_trans h1.2 (pow_up (by decide) ?_)⟩
  rcases (show t = 0 ∨ t = 1 ∨ t = 2 by omega) with q | q | q <;> subst q <;> first | exact Nat.le_trans h3 (Nat.le_trans (Nat.le_trans (Nat.le_add_right _ _) (Nat.le_add_right _ _)) h2) | exact Nat.le_trans h3 (Nat.le_trans (Nat.le_trans (Nat.le_add_left _ _) (Nat.le_add_right _ _)) h2) | exact Nat.le_trans h3 (Nat.le_trans (Nat.le_add_left _ _) h2)
set_option maxHeartbeats 400000 in
set_option maxRecDepth 20000 in
theorem e_wweigh {sn : Nat} {sx : Nat → Int} {b : Nat} {g : am_G} {P e : Nat} (hn : 0 ≤ g 10 4 ∧ g 10 4 ≤ 200) (h1 : g 1 0 = (P : Int)) (hBk : BkH P (g 10 4).toNat (g 3) (g 11) (g 12) (g 14) (g 15)) (hWL : WLs g) (he : e < 4) : Ev sn sx 4 91 [(2, 56), (0, ((e : Nat) : Int))] (SH b) g (fun r => ∃ g', r = (none, SH b, g') ∧ (∀ t w : Nat, t < 3 → w < 4 → BigR g' (71 + 2 * (4 * t + w)) (chn P (g 3) (g 11) (g 12) (g 14) (e : Int) t w (g 10 4).toNat)) ∧ WLs g' ∧ FrG g g') := by
  have h5 := hBk.1
  refine ev_of (K := 3) T91 (by decide) rfl rfl (Nat.le_of_ble_eq_true rfl) ?_
  refine wp_eq (L' := [(2, 56), (0, ((e : Nat) : Int)), (9, 0), (9, 0)]) (st' := []) (g' := g) ?_
  refine wp_n 2 (pc' := 2) (L' := [(2, 56), (0, ((e : Nat) : Int)), (0, 0), (9, 0)]) (st' := []) (g' := g) rfl ?_
  have L2 : ∀ (lf : Nat) (w : Nat) (h : am_G) (w3 : am_V), 4 - w < lf → (w ≤ 4) → (∀ u : Nat, u < w → h 62 u = lsum (g 3) u P) → (FrA 62 g h) → Wp sn sx 3 T91 2 [(2, 56), (0, ((e : Nat) : Int)), (0, ((w : Nat) : Int)), w3] [] (SH b) h (fun r => ∃ g', r = (none, SH b, g') ∧ (∀ t w : Nat, t < 3 → w < 4 → BigR g' (71 + 2 * (4 * t + w)) (chn P (g 3) (g 11) (g 12) (g 14) (e : Int) t w (g 10 4).toNat)) ∧ WLs g' ∧ FrG g g') := by
    intro lf
    induction lf with
    | zero => intro w h w3 hlf; exact absurd hlf (Nat.not_lt_zero _)
    | succ lf ih2 =>
      intro w h w3 hlf hw hS hF
      refine wp_n 2 (pc' := 4) (L' := [(2, 56), (0, ((e : Nat) : Int)), (0, ((w : Nat) : Int)), w3]) (st' := [(0, 4), (0, ((w : Nat) : Int))]) (g' := h) rfl ?_
      refine wp_ic_ge rfl (fun c1 => ?_) (fun c1 => ?_)
      · obtain rfl : w = 4 := by omega
        refine wp_n 2 (pc' := 29) (L' := [(2, 56), (0, ((e : Nat) : Int)), (0, 0), w3]) (st' := []) (g' := h) rfl ?_
        have L29 : ∀ (lf : Nat) (i : Nat) (k : am_G), 12 - i < lf → (i ≤ 12) → (∀ u : Nat, u < i → BigR k (71 + 2 * u) 1) → (∀ u : Nat, u < 4 → k 62 u = lsum (g 3) u P) → (WLs k) → (FrG g k) → Wp sn sx 3 T91 29 [(2, 56), (0, ((e : Nat) : Int)), (0, ((i : Nat) : Int)), w3] [] (SH b) k (fun r => ∃ g', r = (none, SH b, g') ∧ (∀ t w : Nat, t < 3 → w < 4 → BigR g' (71 + 2 * (4 * t + w)) (chn P (g 3) (g 11) (g 12) (g 14) (e : Int) t w (g 10 4).toNat)) ∧ WLs g' ∧ FrG g g') := by
          intro lf
          induction lf with
          | zero => intro i k hlf; exact absurd hlf (Nat.not_lt_zero _)
          | succ lf ih29 =>
            intro i k hlf hi hB hS2 hL hF2
            refine wp_n 4 (pc' := 35) (L' := [(2, 56), (0, ((e : Nat) : Int)), (0, ((i : Nat) : Int)), w3]) (st' := [(0, 12), (0, ((i : Nat) : Int))]) (g' := k) rfl ?_
            refine wp_ic_ge rfl (fun c2 => ?_) (fun c2 => ?_)
            · obtain rfl : i = 12 := by omega
              refine wp_n 2 (pc' := 56) (L' := [(2, 56), (0, ((e : Nat) : Int)), (0, 0), w3]) (st' := []) (g' := k) rfl ?_
              have L56 : ∀ (lf : Nat) (i : Nat) (m : am_G) (w4 : am_V), (g 10 4).toNat - i < lf → (i ≤ (g 10 4).toNat) → (∀ t w : Nat, t < 3 → w < 4 → BigR m (71 + 2 * (4 * t + w)) (chn P (g 3) (g 11) (g 12) (g 14) (e : Int) t w i)) → (∀ u : Nat, u < 4 → m 62 u = lsum (g 3) u P) → (WLs m) → (FrG g m) → Wp sn sx 3 T91 56 [(2, 56), (0, ((e : Nat) : Int)), (0, ((i : Nat) : Int)), w4] [] (SH b) m (fun r => ∃ g', r = (none, SH b, g') ∧ (∀ t w : Nat, t < 3 → w < 4 → BigR g' (71 + 2 * (4 * t + w)) (chn P (g 3) (g 11) (g 12) (g 14) (e : Int) t w (g 10 4).toNat)) ∧ WLs g' ∧ FrG g g') := by
                intro lf
                induction lf with
                | zero => intro i m w4 hlf; exact absurd hlf (Nat.not_lt_zero _)
                | succ lf ih56 =>
                  intro i m w4 hlf hi2 hH hSm hL hF
                  refine wp_n 4 (pc' := 64) (L' := [(2, 56), (0, ((e : Nat) : Int)), (0, ((i : Nat) : Int)), w4]) (st' := [(0, (m 10 4)), (0, ((i : Nat) : Int))]) (g' := m) rfl ?_
                  refine wp_eq (L' := [(2, 56), (0, ((e : Nat) : Int)), (0, ((i : Nat) : Int)), w4]) (st' := [(0, (g 10 4)), (0, ((i : Nat) : Int))]) (g' := m) ?_ (by rfl) (by rw [hF 10 4 (by decide) (by decide)]) (by rfl)
                  refine wp_ic_ge rfl (fun c3 => ?_) (fun c3 => ?_)
                  · have hin : i = (g 10 4).toNat := by omega
                    exact wp_ret rfl rfl rfl ⟨_, rfl, by rw [← hin]; exact hH, hL, hF⟩
                  · have hb := hBk.2.2.1 i (by omega)
                    refine wp_n 4 (pc' := 75) (L' := [(2, 56), (0, ((e : Nat) : Int)), (0, ((i : Nat) : Int)), w4]) (st' := [(0, ((i : Nat) : Int)), (2, 11)]) (g' := m) rfl ?_
                    refine wp_iald (k := 11) (i) rfl rfl (by omega) (by omega) (by decide) ?_
                    refine wp_eq (L' := [(2, 56), (0, ((e : Nat) : Int)), (0, ((i : Nat) : Int)), w4]) (st' := [(0, (g 11 i))]) (g' := m) ?_ (by rfl) (by rw [hF 11 i (by decide) (by decide)]) (by rfl)
                    refine wp_n 1 (pc' := 77) (L' := [(2, 56), (0, ((e : Nat) : Int)), (0, ((i : Nat) : Int)), w4]) (st' := [(0, ((e : Nat) : Int)), (0, (g 11 i))]) (g' := m) rfl ?_
                    refine wp_ic_ne rfl (fun c4 => ?_) (fun c4 => ?_)
                    · refine wp_n 2 (pc' := 56) (L' := [(2, 56), (0, ((e : Nat) : Int)), (0, (((i : Nat) : Int) + 1)), w4]) (st' := []) (g' := m) rfl ?_
                      refine wp_eq (ih56 (i + 1) (m) (w4) ?_ ?_ ?_ ?_ ?_ ?_) (by first | rfl | (simp; done) | (simp; omega)) (by rfl) (by rfl)
                      · omega
                      · omega
                      · intro t v ht hv
                        rw [chn, if_neg (by omega), Int.mul_one]
                        exact hH t v ht hv
                      · exact hSm
                      · exact hL
                      · exact hF
                    · refine wp_n 4 (pc' := 88) (L' := [(2, 56), (0, ((e : Nat) : Int)), (0, ((i : Nat) : Int)), w4]) (st' := [(0, ((i : Nat) : Int)), (2, 14)]) (g' := m) rfl ?_
                      refine wp_iald (k := 14) (i) rfl rfl (by omega) (by omega) (by decide) ?_
                      refine wp_eq (L' := [(2, 56), (0, ((e : Nat) : Int)), (0, ((i : Nat) : Int)), w4]) (st' := [(0, (g 14 i))]) (g' := m) ?_ (by rfl) (by rw [hF 14 i (by decide) (by decide)]) (by rfl)
                      refine wp_n 1 (pc' := 90) (L' := [(2, 56), (0, ((e : Nat) : Int)), (0, ((i : Nat) : Int)), w4]) (st' := [(0, (-1)), (0, (g 14 i))]) (g' := m) rfl ?_
                      refine wp_ic_eq rfl (fun c5 => ?_) (fun c5 => ?_)
                      · refine wp_n 2 (pc' := 56) (L' := [(2, 56), (0, ((e : Nat) : Int)), (0, (((i : Nat) : Int) + 1)), w4]) (st' := []) (g' := m) rfl ?_
                        refine wp_eq (ih56 (i + 1) (m) (w4) ?_ ?_ ?_ ?_ ?_ ?_) (by first | rfl | (simp; done) | (simp; omega)) (by rfl) (by rfl)
                        · omega
                        · omega
                        · intro t v ht hv
                          rw [chn, if_neg (by omega), Int.mul_one]
                          exact hH t v ht hv
                        · exact hSm
                        · exact hL
                        · exact hF
                      · refine wp_n 2 (pc' := 95) (L' := [(2, 56), (0, ((e : Nat) : Int)), (0, ((i : Nat) : Int)), (0, 0)]) (st' := []) (g' := m) rfl ?_
                        have L95 : ∀ (lf : Nat) (w : Nat) (f : am_G), 4 - w < lf → (w ≤ 4) → (∀ t v : Nat, t < 3 → v < 4 → BigR f (71 + 2 * (4 * t + v)) (if (t : Int) = g 12 i ∧ v < w then chn P (g 3) (g 11) (g 12) (g 14) (e : Int) t v (i + 1) else chn P (g 3) (g 11) (g 12) (g 14) (e : Int) t v i)) → (∀ u : Nat, u < 4 → f 62 u = lsum (g 3) u P) → (WLs f) → (FrG g f) → Wp sn sx 3 T91 95 [(2, 56), (0, ((e : Nat) : Int)), (0, ((i : Nat) : Int)), (0, ((w : Nat) : Int))] [] (SH b) f (fun r => ∃ g', r = (none, SH b, g') ∧ (∀ t w : Nat, t < 3 → w < 4 → BigR g' (71 + 2 * (4 * t + w)) (chn P (g 3) (g 11) (g 12) (g 14) (e : Int) t w (g 10 4).toNat)) ∧ WLs g' ∧ FrG g g') := by
                          intro lf
                          induction lf with
                          | zero => intro w f hlf; exact absurd hlf (Nat.not_lt_zero _)
                          | succ lf ih95 =>
                            intro w f hlf hw2 hB hSf hLf hFf
                            refine wp_n 2 (pc' := 97) (L' := [(2, 56), (0, ((e : Nat) : Int)), (0, ((i : Nat) : Int)), (0, ((w : Nat) : Int))]) (st' := [(0, 4), (0, ((w : Nat) : Int))]) (g' := f) rfl ?_
                            refine wp_ic_ge rfl (fun c6 => ?_) (fun c6 => ?_)
                            · have hw4 : w = 4 := by omega
                              refine wp_n 2 (pc' := 56) (L' := [(2, 56), (0, ((e : Nat) : Int)), (0, (((i : Nat) : Int) + 1)), (0, ((w : Nat) : Int))]) (st' := []) (g' := f) rfl ?_
                              refine wp_eq (ih56 (i + 1) (f) ((0, ((w : Nat) : Int))) ?_ ?_ ?_ ?_ ?_ ?_) (by first | rfl | (simp; done) | (simp; omega)) (by rfl) (by rfl)
                              · omega
                              · omega
                              · intro t v ht hv
                                have q0 := hB t v ht hv
                                rw [chn]
                                by_cases q : g 12 i = (t : Int)
                                · rw [if_pos ⟨q.symm, by omega⟩, chn] at q0; exact q0
                                · rw [if_neg fun k => q k.1.symm] at q0; rw [if_neg fun k => q k.2.1, Int.mul_one]; exact q0
                              · exact hSf
                              · exact hLf
                              · exact hFf
                            · have hB0 := hB (g 12 i).toNat w (by omega) (by omega)
                              rw [if_neg (by omega)] at hB0
                              have hl1 := lsum_in (w := (w + 1) % 4) hBk.2.1 (by omega) P (by omega)
                              have hl2 := lsum_in (w := (w + 2) % 4) hBk.2.1 (by omega) P (by omega)
                              have hl3 := lsum_in (w := (w + 3) % 4) hBk.2.1 (by omega) P (by omega)
                              have hl0 := hBk.2.1 (37 * w + (g 14 i).toNat) (by omega)
                              have hc1 := chn_le hBk (t := (g 12 i).toNat) (w := w) (i := i + 1) he (by omega) (by omega) (by omega)
                              have hc0 := chn_le hBk (t := (g 12 i).toNat) (w := w) (i := i) he (by omega) (by omega) (by omega)
                              have hce : chn P (g 3) (g 11) (g 12) (g 14) (e : Int) (g 12 i).toNat w i * (g 3 (37 * w + (g 14 i).toNat) * lsum (g 3) ((w + 1) % 4) P) * (lsum (g 3) ((w + 2) % 4) P * lsum (g 3) ((w + 3) % 4) P) = chn P (g 3) (g 11) (g 12) (g 14) (e : Int) (g 12 i).toNat w (i + 1) := by
                                rw [chn, if_pos (by omega), oth]
                                grind
                              have ho2 : chn P (g 3) (g 11) (g 12) (g 14) (e : Int) (g 12 i).toNat w i * (g 3 (37 * w + (g 14 i).toNat) * lsum (g 3) ((w + 1) % 4) P) * (lsum (g 3) ((w + 2) % 4) P * lsum (g 3) ((w + 3) % 4) P) < 2147483648 ^ 40 := by rw [hce]; exact Int.lt_of_le_of_lt hc1.2 (by decide)
                              have ho1 : chn P (g 3) (g 11) (g 12) (g 14) (e : Int) (g 12 i).toNat w i * (g 3 (37 * w + (g 14 i).toNat) * lsum (g 3) ((w + 1) % 4) P) < 2147483648 ^ 40 := by
                                have m1 := mul_in (m := 99) (k := 3663) hl0 (show 1 ≤ lsum (g 3) ((w + 1) % 4) P ∧ lsum (g 3) ((w + 1) % 4) P ≤ 3663 by omega)
                                have m2 := mul_in hc0 m1
                                exact Int.lt_of_le_of_lt m2.2 (by decide)
                              refine wp_n 7 (pc' := 113) (L' := [(2, 56), (0, ((e : Nat) : Int)), (0, ((i : Nat) : Int)), (0, ((w : Nat) : Int))]) (st' := [(0, ((i : Nat) : Int)), (2, 12), (2, 63), (2, 56)]) (g' := f) rfl ?_
                              refine wp_iald (k := 12) (i) rfl rfl (by omega) (by omega) (by decide) ?_
                              refine wp_eq (L' := [(2, 56), (0, ((e : Nat) : Int)), (0, ((i : Nat) : Int)), (0, ((w : Nat) : Int))]) (st' := [(0, (g 12 i)), (2, 63), (2, 56)]) (g' := f) ?_ (by rfl) (by rw [hFf 12 i (by decide) (by decide)]) (by rfl)
                              refine wp_n 4 (pc' := 118) (L' := [(2, 56), (0, ((e : Nat) : Int)), (0, ((i : Nat) : Int)), (0, ((w : Nat) : Int))]) (st' := [(0, (((g 12 i) * 4) + ((w : Nat) : Int))), (2, 63), (2, 56)]) (g' := f) rfl ?_
                              refine wp_aald (k := 63) (r := (71 + 2 * (4 * (g 12 i).toNat + w))) ((4 * (g 12 i).toNat + w)) rfl rfl (by omega) (by omega) (by decide) (ch_ref (show 4 * (g 12 i).toNat + w < 12 by omega)) ?_
                              refine wp_n 5 (pc' := 128) (L' := [(2, 56), (0, ((e : Nat) : Int)), (0, ((i : Nat) : Int)), (0, ((w : Nat) : Int))]) (st' := [(0, ((i : Nat) : Int)), (2, 14), (0, ((w : Nat) : Int)), (2, (((71 + 2 * (4 * (g 12 i).toNat + w)) : Nat) : Int)), (2, 56)]) (g' := f) rfl ?_
                              refine wp_iald (k := 14) (i) rfl rfl (by omega) (by omega) (by decide) ?_
                              refine wp_eq (L' := [(2, 56), (0, ((e : Nat) : Int)), (0, ((i : Nat) : Int)), (0, ((w : Nat) : Int))]) (st' := [(0, (((g 14 i).toNat : Nat) : Int)), (0, ((w : Nat) : Int)), (2, (((71 + 2 * (4 * (g 12 i).toNat + w)) : Nat) : Int)), (2, 56)]) (g' := f) ?_ (by rfl) (by rw [hFf 14 i (by decide) (by decide), Int.toNat_of_nonneg (by omega)]) (by rfl)
                              refine wp_cv (as := [(2, 56), (2, (((71 + 2 * (4 * (g 12 i).toNat + w)) : Nat) : Int)), (0, ((w : Nat) : Int)), (0, (((g 14 i).toNat : Nat) : Int))]) (rest := []) rfl rfl rfl (Nat.le_of_ble_eq_true rfl) rfl (e_weighSpin (k := (71 + 2 * (4 * (g 12 i).toNat + w))) (isb_ch (show 4 * (g 12 i).toNat + w < 12 by omega)) (v := (chn P (g 3) (g 11) (g 12) (g 14) (e : Int) (g 12 i).toNat w i)) hB0 (by omega) (by omega) (by rw [hFf 3 _ (by decide) (by decide)]) (hSf _ (by omega)) (hSf _ (by omega)) (hSf _ (by omega)) (by omega) (by omega) (by omega) (by omega) (by omega) ho1 ho2) (by decide) (fun r7 h8 => ?_)
                              obtain ⟨g129, rfl, hR129, hF129⟩ := h8
                              refine wp_eq (L' := [(2, 56), (0, ((e : Nat) : Int)), (0, ((i : Nat) : Int)), (0, ((w : Nat) : Int))]) (st' := []) (g' := g129) ?_
                              refine wp_n 2 (pc' := 95) (L' := [(2, 56), (0, ((e : Nat) : Int)), (0, ((i : Nat) : Int)), (0, (((w : Nat) : Int) + 1))]) (st' := []) (g' := g129) rfl ?_
                              refine wp_eq (ih95 (w + 1) (g129) ?_ ?_ ?_ ?_ ?_ ?_) (by first | rfl | (simp; done) | (simp; omega)) (by rfl) (by rfl)
                              · omega
                              · omega
                              · intro t v ht hv
                                by_cases q : (t : Int) = g 12 i ∧ v = w
                                · obtain ⟨q1, q2⟩ := q
                                  obtain rfl : t = (g 12 i).toNat := by omega
                                  subst q2
                                  rw [if_pos ⟨q1, by omega⟩, ← hce]
                                  exact hR129
                                · have q0 := (hB t v ht hv).fr' hF129 (by omega)
                                  by_cases q2 : (t : Int) = g 12 i ∧ v < w
                                  · rw [if_pos q2] at q0; rw [if_pos ⟨q2.1, by omega⟩]; exact q0
                                  · rw [if_neg q2] at q0; rw [if_neg (by omega)]; exact q0
                              · exact fun u hu => (hF129 62 u (by omega) (by omega)).trans (hSf u hu)
                              · exact hLf.fr hF129 hR129.L (by omega)
                              · exact hFf.b hF129 (by omega)
                        refine wp_eq (L95 (_ + 1) (0) (m) (Nat.lt_succ_self _) ?_ ?_ ?_ ?_ ?_) (by first | rfl | (simp; done) | (simp; omega)) (by rfl) (by rfl)
                        · exact Nat.zero_le _
                        · intro t v ht hv; rw [if_neg (by omega)]; exact hH t v ht hv
                        · exact hSm
                        · exact hL
                        · exact hF
              refine wp_eq (L56 (_ + 1) (0) (k) (w3) (Nat.lt_succ_self _) ?_ ?_ ?_ ?_ ?_) (by first | rfl | (simp; done) | (simp; omega)) (by rfl) (by rfl)
              · exact Nat.zero_le _
              · exact fun t w ht hw => hB (4 * t + w) (by omega)
              · exact hS2
              · exact hL
              · exact hF2
            · refine wp_n 3 (pc' := 43) (L' := [(2, 56), (0, ((e : Nat) : Int)), (0, ((i : Nat) : Int)), w3]) (st' := [(0, ((i : Nat) : Int)), (2, 63)]) (g' := k) rfl ?_
              refine wp_aald (k := 63) (r := (71 + 2 * i)) (i) rfl rfl (by omega) (by omega) (by decide) (ch_ref (show i < 12 by omega)) ?_
              refine wp_n 1 (pc' := 45) (L' := [(2, 56), (0, ((e : Nat) : Int)), (0, ((i : Nat) : Int)), w3]) (st' := [(0, 1), (2, (((71 + 2 * i) : Nat) : Int))]) (g' := k) rfl ?_
              refine wp_cv (as := [(2, (((71 + 2 * i) : Nat) : Int)), (0, 1)]) (rest := []) rfl rfl rfl (Nat.le_of_ble_eq_true rfl) (am_rcv_of (isb_ch (show i < 12 by omega)).1 (by decide)) (e_set (isb_ch (show i < 12 by omega)) (hL _ (by omega) (by omega) (by omega)) (by omega)) (by decide) (fun r9 h10 => ?_)
              obtain ⟨g45, rfl, hR45, hF45⟩ := h10
              refine wp_eq (L' := [(2, 56), (0, ((e : Nat) : Int)), (0, ((i : Nat) : Int)), w3]) (st' := []) (g' := g45) ?_
              refine wp_n 2 (pc' := 29) (L' := [(2, 56), (0, ((e : Nat) : Int)), (0, (((i : Nat) : Int) + 1)), w3]) (st' := []) (g' := g45) rfl ?_
              refine wp_eq (ih29 (i + 1) (g45) ?_ ?_ ?_ ?_ ?_ ?_) (by first | rfl | (simp; done) | (simp; omega)) (by rfl) (by rfl)
              · omega
              · omega
              · intro u hu
                by_cases q : u = i
                · subst q; exact hR45
                · exact (hB u (by omega)).fr' hF45 (by omega)
              · exact fun u hu => (hF45 62 u (by omega) (by omega)).trans (hS2 u hu)
              · exact hL.fr hF45 hR45.L (by omega)
              · exact hF2.b hF45 (by omega)
        refine wp_eq (L29 (_ + 1) (0) (h) (Nat.lt_succ_self _) ?_ ?_ ?_ ?_ ?_) (by first | rfl | (simp; done) | (simp; omega)) (by rfl) (by rfl)
        · exact Nat.zero_le _
        · exact fun u hu => absurd hu (Nat.not_lt_zero _)
        · exact fun u hu => hS u (by omega)
        · exact hWL.same fun c j q1 q2 => hF c j (by omega)
        · exact fun c j q1 q2 => hF c j q1
      · refine wp_n 6 (pc' := 17) (L' := [(2, 56), (0, ((e : Nat) : Int)), (0, ((w : Nat) : Int)), w3]) (st' := [(0, ((w : Nat) : Int)), (2, 1), (0, ((w : Nat) : Int)), (2, 62)]) (g' := h) rfl ?_
        refine wp_cv (as := [(2, 1), (0, ((w : Nat) : Int))]) (rest := [(0, ((w : Nat) : Int)), (2, 62)]) rfl rfl rfl (Nat.le_of_ble_eq_true rfl) rfl (e_leans (P := P) (w := w) (by omega) (by rw [hF 1 0 (by decide)]; exact h1) h5) (by decide) (fun r11 h12 => ?_)
        obtain rfl := h12
        refine wp_eq (L' := [(2, 56), (0, ((e : Nat) : Int)), (0, ((w : Nat) : Int)), w3]) (st' := [(0, (lsum (h 3) w P)), (0, ((w : Nat) : Int)), (2, 62)]) (g' := h) ?_
        refine wp_eq (L' := [(2, 56), (0, ((e : Nat) : Int)), (0, ((w : Nat) : Int)), w3]) (st' := [(0, (lsum (g 3) w P)), (0, ((w : Nat) : Int)), (2, 62)]) (g' := h) ?_ (by rfl) (by rw [show h 3 = g 3 from funext fun j => hF 3 j (by decide)]) (by rfl)
        refine wp_iast (k := 62) (w) rfl rfl (by omega) (by omega) (by decide) ?_
        refine wp_n 2 (pc' := 2) (L' := [(2, 56), (0, ((e : Nat) : Int)), (0, (((w : Nat) : Int) + 1)), w3]) (st' := []) (g' := (am_up h 62 w (lsum (g 3) w P))) rfl ?_
        refine wp_eq (ih2 (w + 1) ((am_up h 62 w (lsum (g 3) w P))) (w3) ?_ ?_ ?_ ?_) (by first | rfl | (simp; done) | (simp; omega)) (by rfl) (by rfl)
        · omega
        · omega
        · intro u hu
          by_cases q : u = w
          · subst q; exact up_eq
          · rw [up_nj q]; exact hS u (by omega)
        · exact fun c j q => (up_ne q).trans (hF c j q)
  refine wp_eq (L2 (_ + 1) (0) (g) ((9, 0)) (Nat.lt_succ_self _) ?_ ?_ ?_) (by first | rfl | (simp; done) | (simp; omega)) (by rfl) (by rfl)
  · exact Nat.zero_le _
  · exact fun u hu => absurd hu (Nat.not_lt_zero _)
  · exact fun c j _ => rfl
