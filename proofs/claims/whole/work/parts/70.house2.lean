/-! HOUSE -/
set_option maxHeartbeats 400000 in
set_option maxRecDepth 20000 in
theorem e_lossAfter {sn : Nat} {sx : Nat → Int} {b : Nat} {g : am_G} {a : Nat} {l q : Int} (ha : a ≤ 20) (hl : 0 ≤ l ∧ l ≤ 20) (hq : 0 ≤ q ∧ q ≤ 9999) : Ev sn sx 1 48 [(0, ((a : Nat) : Int)), (0, l), (0, q)] (SH b) g (fun r => r = (some (1, hls l q a), SH b, g)) := by
  refine ev_of (K := 0) T48 (by decide) rfl rfl (Nat.le_of_ble_eq_true rfl) ?_
  refine wp_eq (L' := [(0, ((a : Nat) : Int)), (0, l), (0, q)]) (st' := []) (g' := g) ?_
  refine wp_n 2 (pc' := 2) (L' := [(0, ((a : Nat) : Int)), (0, l), (0, q)]) (st' := [(0, l), (0, ((a : Nat) : Int))]) (g' := g) rfl ?_
  refine wp_ic_lt rfl (fun c1 => ?_) (fun c1 => ?_)
  · refine wp_n 1 (pc' := 14) (L' := [(0, ((a : Nat) : Int)), (0, l), (0, q)]) (st' := [(1, 0)]) (g' := g) rfl ?_
    exact wp_ret rfl rfl rfl (by unfold hls; first | (rw [if_pos (by omega)]; done) | (rw [if_neg (by omega)]; done))
  · refine wp_n 1 (pc' := 6) (L' := [(0, ((a : Nat) : Int)), (0, l), (0, q)]) (st' := [(0, q)]) (g' := g) rfl ?_
    refine wp_i2l rfl (by omega) ?_
    refine wp_n 2 (pc' := 10) (L' := [(0, ((a : Nat) : Int)), (0, l), (0, q)]) (st' := [(1, (Int64.ofInt q <<< ((Int32.ofInt 20).toInt64 &&& 63)).toInt)]) (g' := g) rfl ?_
    refine wp_eq (L' := [(0, ((a : Nat) : Int)), (0, l), (0, q)]) (st' := [(1, (q * 1048576))]) (g' := g) ?_ (by rfl) (by rw [lshl20 (by omega) (by omega)]) (by rfl)
    refine wp_n 1 (pc' := 14) (L' := [(0, ((a : Nat) : Int)), (0, l), (0, q)]) (st' := [(1, (q * 1048576))]) (g' := g) rfl ?_
    exact wp_ret rfl rfl rfl (by unfold hls; first | (rw [if_pos (by omega)]; done) | (rw [if_neg (by omega)]; done))
set_option maxHeartbeats 400000 in
set_option maxRecDepth 20000 in
theorem e_keep {sn : Nat} {sx : Nat → Int} {b : Nat} {g : am_G} {D : Nat} {p l q : Int} (hD : 1 ≤ D ∧ D ≤ 20) (hp : 0 ≤ p ∧ p ≤ 9999) (hl : 0 ≤ l ∧ l ≤ 20) (hq : 0 ≤ q ∧ q ≤ 9999) : Ev sn sx 2 47 [(2, 120), (0, ((D : Nat) : Int)), (0, p), (0, l), (0, q)] (SH b) g (fun r => ∃ g', r = (none, SH b, g') ∧ IsHo p l q D (g' 120 10) (g' 120 11) ∧ FrQ g g') := by
  refine ev_of (K := 1) T47 (by decide) rfl rfl (Nat.le_of_ble_eq_true rfl) ?_
  refine wp_eq (L' := [(2, 120), (0, ((D : Nat) : Int)), (0, p), (0, l), (0, q), (9, 0), (9, 0), (9, 0), (9, 0)]) (st' := []) (g' := g) ?_
  refine wp_n 4 (pc' := 6) (L' := [(2, 120), (0, ((D : Nat) : Int)), (0, p), (0, l), (0, q), (9, 0), (9, 0), (9, 0), (9, 0)]) (st' := [(1, 0), (0, 0), (2, 125)]) (g' := g) rfl ?_
  refine wp_last (k := 125) (0) rfl rfl (by omega) (by omega) (by decide) ?_
  refine wp_n 2 (pc' := 10) (L' := [(2, 120), (0, ((D : Nat) : Int)), (0, p), (0, l), (0, q), (0, 0), (9, 0), (9, 0), (9, 0)]) (st' := []) (g' := (am_up g 125 0 0)) rfl ?_
  have L10 : ∀ (lf : Nat) (k : Nat) (f1 : am_G) (w6 w8 : am_V), D - k < lf → (k ≤ D) → (∀ a, a ≤ k → Pl p l q k a (f1 125 a)) → (FrQ g f1) → Wp sn sx 1 T47 10 [(2, 120), (0, ((D : Nat) : Int)), (0, p), (0, l), (0, q), (0, ((k : Nat) : Int)), w6, (9, 0), w8] [] (SH b) f1 (fun r => ∃ g', r = (none, SH b, g') ∧ IsHo p l q D (g' 120 10) (g' 120 11) ∧ FrQ g g') := by
    intro lf
    induction lf with
    | zero => intro k f1 w6 w8 hlf; exact absurd hlf (Nat.not_lt_zero _)
    | succ lf ih10 =>
      intro k f1 w6 w8 hlf hk hP hF
      refine wp_n 2 (pc' := 13) (L' := [(2, 120), (0, ((D : Nat) : Int)), (0, p), (0, l), (0, q), (0, ((k : Nat) : Int)), w6, (9, 0), w8]) (st' := [(0, ((D : Nat) : Int)), (0, ((k : Nat) : Int))]) (g' := f1) rfl ?_
      refine wp_ic_ge rfl (fun c1 => ?_) (fun c1 => ?_)
      · have hkD : k = D := by omega
        have hP : ∀ a, a ≤ D → Pl p l q D a (f1 125 a) := by rw [← hkD]; exact hP
        refine wp_n 4 (pc' := 138) (L' := [(2, 120), (0, ((D : Nat) : Int)), (0, p), (0, l), (0, q), (1, 1152921504606846976), (9, 0), (0, 0), w8]) (st' := []) (g' := f1) rfl ?_
        have L138 : ∀ (lf : Nat) (i : Nat) (m : Int), D + 1 - i < lf → (i ≤ D + 1) → (∀ a, a < i → m ≤ f1 125 a) → (m = 1152921504606846976 ∨ ∃ a, a ≤ D ∧ m = f1 125 a) → (0 ≤ m ∧ m ≤ 1152921504606846976 + 10484711424 * 20) → Wp sn sx 1 T47 138 [(2, 120), (0, ((D : Nat) : Int)), (0, p), (0, l), (0, q), (1, m), (9, 0), (0, ((i : Nat) : Int)), w8] [] (SH b) f1 (fun r => ∃ g', r = (none, SH b, g') ∧ IsHo p l q D (g' 120 10) (g' 120 11) ∧ FrQ g g') := by
          intro lf
          induction lf with
          | zero => intro i m hlf; exact absurd hlf (Nat.not_lt_zero _)
          | succ lf ih138 =>
            intro i m hlf hi hm hm2 hmi
            refine wp_n 2 (pc' := 141) (L' := [(2, 120), (0, ((D : Nat) : Int)), (0, p), (0, l), (0, q), (1, m), (9, 0), (0, ((i : Nat) : Int)), w8]) (st' := [(0, ((D : Nat) : Int)), (0, ((i : Nat) : Int))]) (g' := f1) rfl ?_
            refine wp_ic_gt rfl (fun c2 => ?_) (fun c2 => ?_)
            · have hMn : Mn p l q D m := mn_of hp hq (by omega) hP (fun a ha => hm a (by omega)) hm2
              refine wp_n 4 (pc' := 170) (L' := [(2, 120), (0, ((D : Nat) : Int)), (0, p), (0, l), (0, q), (1, m), (9, 0), (0, ((i : Nat) : Int)), w8]) (st' := [(1, (Int64.ofInt m >>> ((Int32.ofInt 20).toInt64 &&& 63)).toInt), (2, 120)]) (g' := f1) rfl ?_
              refine wp_eq (L' := [(2, 120), (0, ((D : Nat) : Int)), (0, p), (0, l), (0, q), (1, m), (9, 0), (0, ((i : Nat) : Int)), w8]) (st' := [(1, (m / 1048576)), (2, 120)]) (g' := f1) ?_ (by rfl) (by rw [lshr20 (by omega) (by omega)]) (by rfl)
              refine wp_n 6 (pc' := 181) (L' := [(2, 120), (0, ((D : Nat) : Int)), (0, p), (0, l), (0, q), (1, m), (9, 0), (0, ((i : Nat) : Int)), w8]) (st' := [(1, (Int64.ofInt m &&& Int64.ofInt 1048575).toInt), (2, 120)]) (g' := (am_up f1 120 10 (m / 1048576))) rfl ?_
              refine wp_eq (L' := [(2, 120), (0, ((D : Nat) : Int)), (0, p), (0, l), (0, q), (1, m), (9, 0), (0, ((i : Nat) : Int)), w8]) (st' := [(1, (m % 1048576)), (2, 120)]) (g' := (am_up f1 120 10 (m / 1048576))) ?_ (by rfl) (by rw [land20 (by omega) (by omega)]) (by rfl)
              refine wp_n 2 (pc' := 185) (L' := [(2, 120), (0, ((D : Nat) : Int)), (0, p), (0, l), (0, q), (1, m), (9, 0), (0, ((i : Nat) : Int)), w8]) (st' := []) (g' := (am_up (am_up f1 120 10 (m / 1048576)) 120 11 (m % 1048576))) rfl ?_
              exact wp_ret rfl rfl rfl ⟨_, rfl, by rw [up_no (by omega), up_eq, up_eq]; exact hMn.ho hD.2, (hF.up (by unfold Sq; omega)).up (by unfold Sq; omega)⟩
            · have hPi := (hP i (by omega)).inr hp hq (by omega)
              refine wp_n 4 (pc' := 152) (L' := [(2, 120), (0, ((D : Nat) : Int)), (0, p), (0, l), (0, q), (1, m), (9, 0), (0, ((i : Nat) : Int)), w8]) (st' := [(0, ((i : Nat) : Int)), (2, 125), (1, m)]) (g' := f1) rfl ?_
              refine wp_lald (k := 125) (i) rfl rfl (by omega) (by omega) (by decide) ?_
              refine wp_cs (as := [(1, m), (1, (f1 125 i))]) (rest := []) rfl (by decide) rfl (Nat.le_of_ble_eq_true rfl) (e_lmin (by omega) (by omega)) (by decide) (fun r3 h4 => ?_)
              obtain rfl := h4
              refine wp_eq (L' := [(2, 120), (0, ((D : Nat) : Int)), (0, p), (0, l), (0, q), (1, m), (9, 0), (0, ((i : Nat) : Int)), w8]) (st' := [(1, (if (f1 125 i) < m then (f1 125 i) else m))]) (g' := f1) ?_
              refine wp_n 3 (pc' := 138) (L' := [(2, 120), (0, ((D : Nat) : Int)), (0, p), (0, l), (0, q), (1, (if (f1 125 i) < m then (f1 125 i) else m)), (9, 0), (0, (((i : Nat) : Int) + 1)), w8]) (st' := []) (g' := f1) rfl ?_
              refine wp_eq (ih138 (i + 1) ((if (f1 125 i) < m then (f1 125 i) else m)) ?_ ?_ ?_ ?_ ?_) (by first | rfl | (simp; done) | (simp; omega)) (by rfl) (by rfl)
              · omega
              · omega
              · intro a h1
                by_cases e : a = i
                · subst e; split <;> omega
                · have := hm a (by omega); split <;> omega
              · split
                · exact Or.inr ⟨i, by omega, rfl⟩
                · exact hm2
              · split <;> omega
        refine wp_eq (L138 (_ + 1) (0) (1152921504606846976) (Nat.lt_succ_self _) ?_ ?_ ?_ ?_) (by first | rfl | (simp; done) | (simp; omega)) (by rfl) (by rfl)
        · exact Nat.zero_le _
        · intro a h1; omega
        · exact Or.inl rfl
        · decide
      · refine wp_n 4 (pc' := 25) (L' := [(2, 120), (0, ((D : Nat) : Int)), (0, p), (0, l), (0, q), (0, ((k : Nat) : Int)), (1, 1152921504606846976), (9, 0), (0, ((k : Nat) : Int))]) (st' := []) (g' := f1) rfl ?_
        have L25 : ∀ (lf : Nat) (t : Nat) (m : Int) (f2 : am_G), k + 1 - t < lf → (t ≤ k + 1) → (∀ a, a + t ≤ k → f2 125 a = f1 125 a) → (∀ a, k < a + t → a ≤ k → f2 125 (a + 1) = f1 125 a + hls l q a) → (∀ a, k < a + t → a ≤ k → m ≤ f1 125 a) → (m = 1152921504606846976 ∨ ∃ a, a ≤ k ∧ m = f1 125 a) → (0 ≤ m ∧ m ≤ 1152921504606846976 + 10484711424 * 20) → (FrQ g f2) → Wp sn sx 1 T47 25 [(2, 120), (0, ((D : Nat) : Int)), (0, p), (0, l), (0, q), (0, ((k : Nat) : Int)), (1, m), (9, 0), (0, ((k : Int) - (t : Int)))] [] (SH b) f2 (fun r => ∃ g', r = (none, SH b, g') ∧ IsHo p l q D (g' 120 10) (g' 120 11) ∧ FrQ g g') := by
          intro lf
          induction lf with
          | zero => intro t m f2 hlf; exact absurd hlf (Nat.not_lt_zero _)
          | succ lf ih25 =>
            intro t m f2 hlf ht hA hB hm hm2 hmi hF2
            refine wp_n 1 (pc' := 27) (L' := [(2, 120), (0, ((D : Nat) : Int)), (0, p), (0, l), (0, q), (0, ((k : Nat) : Int)), (1, m), (9, 0), (0, ((k : Int) - (t : Int)))]) (st' := [(0, ((k : Int) - (t : Int)))]) (g' := f2) rfl ?_
            refine wp_if_lt rfl (fun c5 => ?_) (fun c5 => ?_)
            · have htk : t = k + 1 := by omega
              have hMn : Mn p l q k m := mn_of hp hq (by omega) hP (fun a ha => hm a (by omega) ha) hm2
              have hP0 := (hP 0 (Nat.zero_le _)).inr hp hq (by omega)
              have hl0 := hls_in (l := l) hq 0
              have h2k : 2 ^ k ≤ 2 ^ 20 := Nat.pow_le_pow_right (by decide) (by omega)
              have h2p : 0 < 2 ^ k := Nat.pow_pos (by decide)
              refine wp_n 2 (pc' := 78) (L' := [(2, 120), (0, ((D : Nat) : Int)), (0, p), (0, l), (0, q), (0, ((k : Nat) : Int)), (1, m), (9, 0), (0, ((k : Int) - (t : Int)))]) (st' := [(0, p), (1, m)]) (g' := f2) rfl ?_
              refine wp_i2l rfl (by omega) ?_
              refine wp_n 2 (pc' := 82) (L' := [(2, 120), (0, ((D : Nat) : Int)), (0, p), (0, l), (0, q), (0, ((k : Nat) : Int)), (1, m), (9, 0), (0, ((k : Int) - (t : Int)))]) (st' := [(1, (Int64.ofInt p <<< ((Int32.ofInt 20).toInt64 &&& 63)).toInt), (1, m)]) (g' := f2) rfl ?_
              refine wp_eq (L' := [(2, 120), (0, ((D : Nat) : Int)), (0, p), (0, l), (0, q), (0, ((k : Nat) : Int)), (1, m), (9, 0), (0, ((k : Int) - (t : Int)))]) (st' := [(1, (p * 1048576)), (1, m)]) (g' := f2) ?_ (by rfl) (by rw [lshl20 (by omega) (by omega)]) (by rfl)
              refine wp_n 3 (pc' := 86) (L' := [(2, 120), (0, ((D : Nat) : Int)), (0, p), (0, l), (0, q), (0, ((k : Nat) : Int)), (1, m), (9, 0), (0, ((k : Int) - (t : Int)))]) (st' := [(1, (Int64.ofInt 1 <<< ((Int32.ofInt ((k : Nat) : Int)).toInt64 &&& 63)).toInt), (1, (p * 1048576)), (1, m)]) (g' := f2) rfl ?_
              refine wp_eq (L' := [(2, 120), (0, ((D : Nat) : Int)), (0, p), (0, l), (0, q), (0, ((k : Nat) : Int)), (1, m), (9, 0), (0, ((k : Int) - (t : Int)))]) (st' := [(1, (((2 ^ k) : Nat) : Int)), (1, (p * 1048576)), (1, m)]) (g' := f2) ?_ (by rfl) (by rw [lshl_k (by omega)]) (by rfl)
              refine wp_n 4 (pc' := 91) (L' := [(2, 120), (0, ((D : Nat) : Int)), (0, p), (0, l), (0, q), (0, ((k : Nat) : Int)), (1, m), (9, 0), (0, ((k : Int) - (t : Int)))]) (st' := [(0, q), (0, l), (0, 0), (1, ((p * 1048576) + (((2 ^ k) : Nat) : Int))), (1, m)]) (g' := f2) rfl ?_
              refine wp_cs (as := [(0, 0), (0, l), (0, q)]) (rest := [(1, ((p * 1048576) + (((2 ^ k) : Nat) : Int))), (1, m)]) rfl (by decide) rfl (Nat.le_of_ble_eq_true rfl) (e_lossAfter (a := 0) (by omega) (by omega) (by omega)) (by decide) (fun r6 h7 => ?_)
              obtain rfl := h7
              refine wp_eq (L' := [(2, 120), (0, ((D : Nat) : Int)), (0, p), (0, l), (0, q), (0, ((k : Nat) : Int)), (1, m), (9, 0), (0, ((k : Int) - (t : Int)))]) (st' := [(1, (hls l q 0)), (1, ((p * 1048576) + (((2 ^ k) : Nat) : Int))), (1, m)]) (g' := f2) ?_
              refine wp_n 7 (pc' := 106) (L' := [(2, 120), (0, ((D : Nat) : Int)), (0, p), (0, l), (0, q), (0, ((k : Nat) : Int)), (1, (m + (((p * 1048576) + (((2 ^ k) : Nat) : Int)) + (hls l q 0)))), (9, 0), (0, ((k : Int) - (t : Int)))]) (st' := [(1, 1152921504606846976), (0, 0), (2, 125)]) (g' := f2) rfl ?_
              refine wp_last (k := 125) (0) rfl rfl (by omega) (by omega) (by decide) ?_
              refine wp_n 6 (pc' := 117) (L' := [(2, 120), (0, ((D : Nat) : Int)), (0, p), (0, l), (0, q), (0, ((k : Nat) : Int)), (1, (m + (((p * 1048576) + (((2 ^ k) : Nat) : Int)) + (hls l q 0)))), (9, 0), (0, ((k : Int) - (t : Int)))]) (st' := [(0, 1), (2, 125), (0, 1), (2, 125)]) (g' := (am_up f2 125 0 1152921504606846976)) rfl ?_
              refine wp_lald (k := 125) (1) rfl rfl (by omega) (by omega) (by decide) ?_
              refine wp_eq (L' := [(2, 120), (0, ((D : Nat) : Int)), (0, p), (0, l), (0, q), (0, ((k : Nat) : Int)), (1, (m + (((p * 1048576) + (((2 ^ k) : Nat) : Int)) + (hls l q 0)))), (9, 0), (0, ((k : Int) - (t : Int)))]) (st' := [(1, (f1 125 0 + hls l q 0)), (0, 1), (2, 125)]) (g' := (am_up f2 125 0 1152921504606846976)) ?_ (by rfl) (by rw [up_nj (by decide), hB 0 (by omega) (by omega)]) (by rfl)
              refine wp_n 1 (pc' := 120) (L' := [(2, 120), (0, ((D : Nat) : Int)), (0, p), (0, l), (0, q), (0, ((k : Nat) : Int)), (1, (m + (((p * 1048576) + (((2 ^ k) : Nat) : Int)) + (hls l q 0)))), (9, 0), (0, ((k : Int) - (t : Int)))]) (st' := [(1, (m + (((p * 1048576) + (((2 ^ k) : Nat) : Int)) + (hls l q 0)))), (1, (f1 125 0 + hls l q 0)), (0, 1), (2, 125)]) (g' := (am_up f2 125 0 1152921504606846976)) rfl ?_
              refine wp_cs (as := [(1, (f1 125 0 + hls l q 0)), (1, (m + (((p * 1048576) + (((2 ^ k) : Nat) : Int)) + (hls l q 0))))]) (rest := [(0, 1), (2, 125)]) rfl (by decide) rfl (Nat.le_of_ble_eq_true rfl) (e_lmin (by omega) (by omega)) (by decide) (fun r8 h9 => ?_)
              obtain rfl := h9
              refine wp_eq (L' := [(2, 120), (0, ((D : Nat) : Int)), (0, p), (0, l), (0, q), (0, ((k : Nat) : Int)), (1, (m + (((p * 1048576) + (((2 ^ k) : Nat) : Int)) + (hls l q 0)))), (9, 0), (0, ((k : Int) - (t : Int)))]) (st' := [(1, (if (m + (((p * 1048576) + (((2 ^ k) : Nat) : Int)) + (hls l q 0))) < (f1 125 0 + hls l q 0) then (m + (((p * 1048576) + (((2 ^ k) : Nat) : Int)) + (hls l q 0))) else (f1 125 0 + hls l q 0))), (0, 1), (2, 125)]) (g' := (am_up f2 125 0 1152921504606846976)) ?_
              refine wp_last (k := 125) (1) rfl rfl (by omega) (by omega) (by decide) ?_
              refine wp_n 2 (pc' := 10) (L' := [(2, 120), (0, ((D : Nat) : Int)), (0, p), (0, l), (0, q), (0, (((k : Nat) : Int) + 1)), (1, (m + (((p * 1048576) + (((2 ^ k) : Nat) : Int)) + (hls l q 0)))), (9, 0), (0, ((k : Int) - (t : Int)))]) (st' := []) (g' := (am_up (am_up f2 125 0 1152921504606846976) 125 1 (if (m + (((p * 1048576) + (((2 ^ k) : Nat) : Int)) + (hls l q 0))) < (f1 125 0 + hls l q 0) then (m + (((p * 1048576) + (((2 ^ k) : Nat) : Int)) + (hls l q 0))) else (f1 125 0 + hls l q 0)))) rfl ?_
              refine wp_eq (ih10 (k + 1) ((am_up (am_up f2 125 0 1152921504606846976) 125 1 (if (m + (((p * 1048576) + (((2 ^ k) : Nat) : Int)) + (hls l q 0))) < (f1 125 0 + hls l q 0) then (m + (((p * 1048576) + (((2 ^ k) : Nat) : Int)) + (hls l q 0))) else (f1 125 0 + hls l q 0)))) ((1, (m + (((p * 1048576) + (((2 ^ k) : Nat) : Int)) + (hls l q 0))))) ((0, ((k : Int) - (t : Int)))) ?_ ?_ ?_ ?_) (by first | rfl | (simp; done) | (simp; omega)) (by rfl) (by rfl)
              · omega
              · omega
              · intro a ha
                rcases (show a = 0 ∨ a = 1 ∨ 2 ≤ a by omega) with e | e | e
                · subst e; rw [up_nj (by decide), up_eq]; exact pl_zero
                · subst e; rw [up_eq]; exact pl_one hp hq (by omega) (hP 0 (Nat.zero_le _)) hMn (by split <;> omega) (by split <;> omega) (by split <;> first | exact Or.inl rfl | exact Or.inr rfl)
                · rw [up_nj (by omega), up_nj (by omega)]
                  have h3 := hB (a - 1) (by omega) (by omega)
                  rw [show a - 1 + 1 = a by omega] at h3
                  rw [h3]
                  have h4 := pl_up hq (show 1 ≤ a - 1 by omega) (hP (a - 1) (by omega))
                  rw [show a - 1 + 1 = a by omega] at h4
                  exact h4
              · exact (hF2.up (by unfold Sq; omega)).up (by unfold Sq; omega)
            · have hPi := (hP (k - t) (by omega)).inr hp hq (by omega)
              have hli := hls_in (l := l) hq (k - t)
              refine wp_n 4 (pc' := 38) (L' := [(2, 120), (0, ((D : Nat) : Int)), (0, p), (0, l), (0, q), (0, ((k : Nat) : Int)), (1, m), (9, 0), (0, ((k : Int) - (t : Int)))]) (st' := [(0, ((k : Int) - (t : Int))), (2, 125), (1, m)]) (g' := f2) rfl ?_
              refine wp_lald (k := 125) ((k - t)) rfl rfl (by omega) (by omega) (by decide) ?_
              refine wp_eq (L' := [(2, 120), (0, ((D : Nat) : Int)), (0, p), (0, l), (0, q), (0, ((k : Nat) : Int)), (1, m), (9, 0), (0, ((k : Int) - (t : Int)))]) (st' := [(1, (f1 125 (k - t))), (1, m)]) (g' := f2) ?_ (by rfl) (by rw [hA _ (by omega)]) (by rfl)
              refine wp_cs (as := [(1, m), (1, (f1 125 (k - t)))]) (rest := []) rfl (by decide) rfl (Nat.le_of_ble_eq_true rfl) (e_lmin (by omega) (by omega)) (by decide) (fun r10 h11 => ?_)
              obtain rfl := h11
              refine wp_eq (L' := [(2, 120), (0, ((D : Nat) : Int)), (0, p), (0, l), (0, q), (0, ((k : Nat) : Int)), (1, m), (9, 0), (0, ((k : Int) - (t : Int)))]) (st' := [(1, (if (f1 125 (k - t)) < m then (f1 125 (k - t)) else m))]) (g' := f2) ?_
              refine wp_n 9 (pc' := 58) (L' := [(2, 120), (0, ((D : Nat) : Int)), (0, p), (0, l), (0, q), (0, ((k : Nat) : Int)), (1, (if (f1 125 (k - t)) < m then (f1 125 (k - t)) else m)), (9, 0), (0, ((k : Int) - (t : Int)))]) (st' := [(0, ((k : Int) - (t : Int))), (2, 125), (0, (((k : Int) - (t : Int)) + 1)), (2, 125)]) (g' := f2) rfl ?_
              refine wp_lald (k := 125) ((k - t)) rfl rfl (by omega) (by omega) (by decide) ?_
              refine wp_eq (L' := [(2, 120), (0, ((D : Nat) : Int)), (0, p), (0, l), (0, q), (0, ((k : Nat) : Int)), (1, (if (f1 125 (k - t)) < m then (f1 125 (k - t)) else m)), (9, 0), (0, ((k : Int) - (t : Int)))]) (st' := [(1, (f1 125 (k - t))), (0, (((k : Int) - (t : Int)) + 1)), (2, 125)]) (g' := f2) ?_ (by rfl) (by rw [hA _ (by omega)]) (by rfl)
              refine wp_n 1 (pc' := 61) (L' := [(2, 120), (0, ((D : Nat) : Int)), (0, p), (0, l), (0, q), (0, ((k : Nat) : Int)), (1, (if (f1 125 (k - t)) < m then (f1 125 (k - t)) else m)), (9, 0), (0, ((k : Int) - (t : Int)))]) (st' := [(0, ((k : Int) - (t : Int))), (1, (f1 125 (k - t))), (0, (((k : Int) - (t : Int)) + 1)), (2, 125)]) (g' := f2) rfl ?_
              refine wp_eq (L' := [(2, 120), (0, ((D : Nat) : Int)), (0, p), (0, l), (0, q), (0, ((k : Nat) : Int)), (1, (if (f1 125 (k - t)) < m then (f1 125 (k - t)) else m)), (9, 0), (0, ((k : Int) - (t : Int)))]) (st' := [(0, (((k - t) : Nat) : Int)), (1, (f1 125 (k - t))), (0, (((k : Int) - (t : Int)) + 1)), (2, 125)]) (g' := f2) ?_ (by rfl) (by rw [show (k : Int) - (t : Int) = ((k - t : Nat) : Int) by omega]) (by rfl)
              refine wp_n 2 (pc' := 64) (L' := [(2, 120), (0, ((D : Nat) : Int)), (0, p), (0, l), (0, q), (0, ((k : Nat) : Int)), (1, (if (f1 125 (k - t)) < m then (f1 125 (k - t)) else m)), (9, 0), (0, ((k : Int) - (t : Int)))]) (st' := [(0, q), (0, l), (0, (((k - t) : Nat) : Int)), (1, (f1 125 (k - t))), (0, (((k : Int) - (t : Int)) + 1)), (2, 125)]) (g' := f2) rfl ?_
              refine wp_cs (as := [(0, (((k - t) : Nat) : Int)), (0, l), (0, q)]) (rest := [(1, (f1 125 (k - t))), (0, (((k : Int) - (t : Int)) + 1)), (2, 125)]) rfl (by decide) rfl (Nat.le_of_ble_eq_true rfl) (e_lossAfter (a := ((k - t))) (by omega) (by omega) (by omega)) (by decide) (fun r12 h13 => ?_)
              obtain rfl := h13
              refine wp_eq (L' := [(2, 120), (0, ((D : Nat) : Int)), (0, p), (0, l), (0, q), (0, ((k : Nat) : Int)), (1, (if (f1 125 (k - t)) < m then (f1 125 (k - t)) else m)), (9, 0), (0, ((k : Int) - (t : Int)))]) (st' := [(1, (hls l q ((k - t)))), (1, (f1 125 (k - t))), (0, (((k : Int) - (t : Int)) + 1)), (2, 125)]) (g' := f2) ?_
              refine wp_n 1 (pc' := 68) (L' := [(2, 120), (0, ((D : Nat) : Int)), (0, p), (0, l), (0, q), (0, ((k : Nat) : Int)), (1, (if (f1 125 (k - t)) < m then (f1 125 (k - t)) else m)), (9, 0), (0, ((k : Int) - (t : Int)))]) (st' := [(1, ((f1 125 (k - t)) + (hls l q ((k - t))))), (0, (((k : Int) - (t : Int)) + 1)), (2, 125)]) (g' := f2) rfl ?_
              refine wp_last (k := 125) ((k - t + 1)) rfl rfl (by omega) (by omega) (by decide) ?_
              refine wp_n 2 (pc' := 25) (L' := [(2, 120), (0, ((D : Nat) : Int)), (0, p), (0, l), (0, q), (0, ((k : Nat) : Int)), (1, (if (f1 125 (k - t)) < m then (f1 125 (k - t)) else m)), (9, 0), (0, (((k : Int) - (t : Int)) + (-1)))]) (st' := []) (g' := (am_up f2 125 ((k - t + 1)) ((f1 125 (k - t)) + (hls l q ((k - t)))))) rfl ?_
              refine wp_eq (ih25 (t + 1) ((if (f1 125 (k - t)) < m then (f1 125 (k - t)) else m)) ((am_up f2 125 ((k - t + 1)) ((f1 125 (k - t)) + (hls l q ((k - t)))))) ?_ ?_ ?_ ?_ ?_ ?_ ?_ ?_) (by rw [show (k : Int) - ((t + 1 : Nat) : Int) = (k : Int) - (t : Int) + -1 by omega]) (by rfl) (by rfl)
              · omega
              · omega
              · intro a h1; rw [up_nj (by omega)]; exact hA a (by omega)
              · intro a h1 h2
                by_cases e : a = k - t
                · subst e; rw [up_eq]
                · rw [up_nj (by omega)]; exact hB a (by omega) h2
              · intro a h1 h2
                by_cases e : a = k - t
                · subst e; split <;> omega
                · have := hm a (by omega) h2; split <;> omega
              · split
                · exact Or.inr ⟨k - t, by omega, rfl⟩
                · exact hm2
              · split <;> omega
              · exact hF2.up (by unfold Sq; omega)
        refine wp_eq (L25 (_ + 1) (0) (1152921504606846976) (f1) (Nat.lt_succ_self _) ?_ ?_ ?_ ?_ ?_ ?_ ?_) (by rw [show (k : Int) - ((0 : Nat) : Int) = (k : Int) by omega]) (by rfl) (by rfl)
        · exact Nat.zero_le _
        · exact fun _ _ => rfl
        · intro a h1 h2; omega
        · intro a h1 h2; omega
        · exact Or.inl rfl
        · decide
        · exact hF
  refine wp_eq (L10 (_ + 1) (0) ((am_up g 125 0 0)) ((9, 0)) ((9, 0)) (Nat.lt_succ_self _) ?_ ?_ ?_) (by first | rfl | (simp; done) | (simp; omega)) (by rfl) (by rfl)
  · exact Nat.zero_le _
  · intro a ha
    rw [show a = 0 by omega, up_eq]
    refine ⟨fun s hs hw => ?_, Or.inl ⟨0, by decide, rfl, rfl⟩⟩
    unfold wth
    have := (cst_in (l := l) hp hq s 0).1
    omega
  · exact FrQ.rfl.up (by unfold Sq; omega)
def HoD (n p l q w : Int) : Prop := 1 ≤ n ∧ n ≤ 20 ∧ 0 ≤ p ∧ p ≤ 9999 ∧ 0 ≤ l ∧ l ≤ 20 ∧ 0 ≤ q ∧ q ≤ 9999 ∧ 0 ≤ w ∧ w ≤ 1
def HoA (n p l q w v : Int) : Prop := (¬ HoD n p l q w ∧ v = -1) ∨ (HoD n p l q w ∧ ∃ C S, IsHo p l q n.toNat C S ∧ v = if w = 0 then C else S)
theorem HoA.uniq {n p l q w v v' : Int} (H : HoA n p l q w v) (H' : HoA n p l q w v') : v = v' := by
  rcases H with H | ⟨h1, C, S, h2, h3⟩ <;> rcases H' with H' | ⟨h1', C', S', h2', h3'⟩
  · exact H.2.trans H'.2.symm
  · exact absurd h1' H.1
  · exact absurd h1 H'.1
  · have hD := h1
    unfold HoD at hD
    have e := h2.uniq (by omega) h2'
    rw [h3, h3', e.1, e.2]
set_option maxHeartbeats 400000 in
set_option maxRecDepth 20000 in
theorem e_house {sn : Nat} {sx : Nat → Int} {b : Nat} {g : am_G} {P : Nat} {n p l q w : Int} (h_n : R32 n) (h_p : R32 p) (h_l : R32 l) (h_q : R32 q) (h_w : R32 w) (hI : CInv P g) : Ev sn sx 3 125 [(2, 0), (0, n), (0, p), (0, l), (0, q), (0, w)] (SH b) g (fun y => ∃ g' v, y = (some (0, v), SH b, g') ∧ HoA n p l q w v ∧ FrQ g g') := by
  have hP := hI.ck.2.1
  have h5 := hI.ck.1
  refine ev_of (K := 2) T125 (by decide) rfl rfl (Nat.le_of_ble_eq_true rfl) ?_
  refine wp_eq (L' := [(2, 0), (0, n), (0, p), (0, l), (0, q), (0, w), (9, 0)]) (st' := []) (g' := g) ?_
  refine wp_n 3 (pc' := 4) (L' := [(2, 0), (0, n), (0, p), (0, l), (0, q), (0, w), (9, 0)]) (st' := [(0, 20), (0, 1), (0, n)]) (g' := g) rfl ?_
  refine wp_cs (as := [(0, n), (0, 1), (0, 20)]) (rest := []) rfl (by decide) rfl (Nat.le_of_ble_eq_true rfl) (e_within (by omega) (by omega) (by omega)) (by decide) (fun r2 h3 => ?_)
  rcases h3 with ⟨rfl, p1⟩ | ⟨rfl, p1⟩
  · refine wp_eq (L' := [(2, 0), (0, n), (0, p), (0, l), (0, q), (0, w), (9, 0)]) (st' := [(0, 1)]) (g' := g) ?_
    refine wp_n 4 (pc' := 15) (L' := [(2, 0), (0, n), (0, p), (0, l), (0, q), (0, w), (9, 0)]) (st' := [(0, 9999), (0, 0), (0, p)]) (g' := g) rfl ?_
    refine wp_cs (as := [(0, p), (0, 0), (0, 9999)]) (rest := []) rfl (by decide) rfl (Nat.le_of_ble_eq_true rfl) (e_within (by omega) (by omega) (by omega)) (by decide) (fun r5 h6 => ?_)
    rcases h6 with ⟨rfl, p4⟩ | ⟨rfl, p4⟩
    · refine wp_eq (L' := [(2, 0), (0, n), (0, p), (0, l), (0, q), (0, w), (9, 0)]) (st' := [(0, 1)]) (g' := g) ?_
      refine wp_n 4 (pc' := 25) (L' := [(2, 0), (0, n), (0, p), (0, l), (0, q), (0, w), (9, 0)]) (st' := [(0, 20), (0, 0), (0, l)]) (g' := g) rfl ?_
      refine wp_cs (as := [(0, l), (0, 0), (0, 20)]) (rest := []) rfl (by decide) rfl (Nat.le_of_ble_eq_true rfl) (e_within (by omega) (by omega) (by omega)) (by decide) (fun r8 h9 => ?_)
      rcases h9 with ⟨rfl, p7⟩ | ⟨rfl, p7⟩
      · refine wp_eq (L' := [(2, 0), (0, n), (0, p), (0, l), (0, q), (0, w), (9, 0)]) (st' := [(0, 1)]) (g' := g) ?_
        refine wp_n 4 (pc' := 37) (L' := [(2, 0), (0, n), (0, p), (0, l), (0, q), (0, w), (9, 0)]) (st' := [(0, 9999), (0, 0), (0, q)]) (g' := g) rfl ?_
        refine wp_cs (as := [(0, q), (0, 0), (0, 9999)]) (rest := []) rfl (by decide) rfl (Nat.le_of_ble_eq_true rfl) (e_within (by omega) (by omega) (by omega)) (by decide) (fun r11 h12 => ?_)
        rcases h12 with ⟨rfl, p10⟩ | ⟨rfl, p10⟩
        · refine wp_eq (L' := [(2, 0), (0, n), (0, p), (0, l), (0, q), (0, w), (9, 0)]) (st' := [(0, 1)]) (g' := g) ?_
          refine wp_n 4 (pc' := 47) (L' := [(2, 0), (0, n), (0, p), (0, l), (0, q), (0, w), (9, 0)]) (st' := [(0, 1), (0, 0), (0, w)]) (g' := g) rfl ?_
          refine wp_cs (as := [(0, w), (0, 0), (0, 1)]) (rest := []) rfl (by decide) rfl (Nat.le_of_ble_eq_true rfl) (e_within (by omega) (by omega) (by omega)) (by decide) (fun r14 h15 => ?_)
          rcases h15 with ⟨rfl, p13⟩ | ⟨rfl, p13⟩
          · refine wp_eq (L' := [(2, 0), (0, n), (0, p), (0, l), (0, q), (0, w), (9, 0)]) (st' := [(0, 1)]) (g' := g) ?_
            refine wp_n 9 (pc' := 72) (L' := [(2, 0), (0, n), (0, p), (0, l), (0, q), (0, w), (0, 1)]) (st' := [(0, n), (2, 120)]) (g' := g) rfl ?_
            refine wp_eq (L' := [(2, 0), (0, n), (0, p), (0, l), (0, q), (0, w), (0, 1)]) (st' := [(0, ((n.toNat : Nat) : Int)), (2, 120)]) (g' := g) ?_ (by rfl) (by rw [Int.toNat_of_nonneg (by omega)]) (by rfl)
            refine wp_n 3 (pc' := 76) (L' := [(2, 0), (0, n), (0, p), (0, l), (0, q), (0, w), (0, 1)]) (st' := [(0, q), (0, l), (0, p), (0, ((n.toNat : Nat) : Int)), (2, 120)]) (g' := g) rfl ?_
            refine wp_cv (as := [(2, 120), (0, ((n.toNat : Nat) : Int)), (0, p), (0, l), (0, q)]) (rest := []) rfl rfl rfl (Nat.le_of_ble_eq_true rfl) rfl (e_keep (D := (n.toNat)) (by omega) (by omega) (by omega) (by omega)) (by decide) (fun r16 h17 => ?_)
            obtain ⟨g76, rfl, hH76, hF76⟩ := h17
            refine wp_eq (L' := [(2, 0), (0, n), (0, p), (0, l), (0, q), (0, w), (0, 1)]) (st' := []) (g' := g76) ?_
            refine wp_n 1 (pc' := 81) (L' := [(2, 0), (0, n), (0, p), (0, l), (0, q), (0, w), (0, 1)]) (st' := [(0, w)]) (g' := g76) rfl ?_
            refine wp_if_ne rfl (fun c18 => ?_) (fun c18 => ?_)
            · refine wp_n 3 (pc' := 101) (L' := [(2, 0), (0, n), (0, p), (0, l), (0, q), (0, w), (0, 1)]) (st' := [(0, (g76 120 11))]) (g' := g76) rfl ?_
              first
              | exact wp_ret rfl rfl rfl ⟨_, _, rfl, Or.inl ⟨by unfold HoD; omega, rfl⟩, FrQ.rfl⟩
              | exact wp_ret rfl rfl rfl ⟨_, _, rfl, Or.inr ⟨by unfold HoD; omega, _, _, hH76, by rw [if_pos (by omega)]⟩, hF76⟩
              | exact wp_ret rfl rfl rfl ⟨_, _, rfl, Or.inr ⟨by unfold HoD; omega, _, _, hH76, by rw [if_neg (by omega)]⟩, hF76⟩
            · refine wp_n 4 (pc' := 101) (L' := [(2, 0), (0, n), (0, p), (0, l), (0, q), (0, w), (0, 1)]) (st' := [(0, (g76 120 10))]) (g' := g76) rfl ?_
              first
              | exact wp_ret rfl rfl rfl ⟨_, _, rfl, Or.inl ⟨by unfold HoD; omega, rfl⟩, FrQ.rfl⟩
              | exact wp_ret rfl rfl rfl ⟨_, _, rfl, Or.inr ⟨by unfold HoD; omega, _, _, hH76, by rw [if_pos (by omega)]⟩, hF76⟩
              | exact wp_ret rfl rfl rfl ⟨_, _, rfl, Or.inr ⟨by unfold HoD; omega, _, _, hH76, by rw [if_neg (by omega)]⟩, hF76⟩
          · refine wp_eq (L' := [(2, 0), (0, n), (0, p), (0, l), (0, q), (0, w), (9, 0)]) (st' := [(0, 0)]) (g' := g) ?_
            refine wp_n 6 (pc' := 66) (L' := [(2, 0), (0, n), (0, p), (0, l), (0, q), (0, w), (0, 0)]) (st' := [(0, (-1))]) (g' := g) rfl ?_
            first
            | exact wp_ret rfl rfl rfl ⟨_, _, rfl, Or.inl ⟨by unfold HoD; omega, rfl⟩, FrQ.rfl⟩
            | exact wp_ret rfl rfl rfl ⟨_, _, rfl, Or.inr ⟨by unfold HoD; omega, _, _, hH76, by rw [if_pos (by omega)]⟩, hF76⟩
            | exact wp_ret rfl rfl rfl ⟨_, _, rfl, Or.inr ⟨by unfold HoD; omega, _, _, hH76, by rw [if_neg (by omega)]⟩, hF76⟩
        · refine wp_eq (L' := [(2, 0), (0, n), (0, p), (0, l), (0, q), (0, w), (9, 0)]) (st' := [(0, 0)]) (g' := g) ?_
          refine wp_n 6 (pc' := 66) (L' := [(2, 0), (0, n), (0, p), (0, l), (0, q), (0, w), (0, 0)]) (st' := [(0, (-1))]) (g' := g) rfl ?_
          first
          | exact wp_ret rfl rfl rfl ⟨_, _, rfl, Or.inl ⟨by unfold HoD; omega, rfl⟩, FrQ.rfl⟩
          | exact wp_ret rfl rfl rfl ⟨_, _, rfl, Or.inr ⟨by unfold HoD; omega, _, _, hH76, by rw [if_pos (by omega)]⟩, hF76⟩
          | exact wp_ret rfl rfl rfl ⟨_, _, rfl, Or.inr ⟨by unfold HoD; omega, _, _, hH76, by rw [if_neg (by omega)]⟩, hF76⟩
      · refine wp_eq (L' := [(2, 0), (0, n), (0, p), (0, l), (0, q), (0, w), (9, 0)]) (st' := [(0, 0)]) (g' := g) ?_
        refine wp_n 6 (pc' := 66) (L' := [(2, 0), (0, n), (0, p), (0, l), (0, q), (0, w), (0, 0)]) (st' := [(0, (-1))]) (g' := g) rfl ?_
        first
        | exact wp_ret rfl rfl rfl ⟨_, _, rfl, Or.inl ⟨by unfold HoD; omega, rfl⟩, FrQ.rfl⟩
        | exact wp_ret rfl rfl rfl ⟨_, _, rfl, Or.inr ⟨by unfold HoD; omega, _, _, hH76, by rw [if_pos (by omega)]⟩, hF76⟩
        | exact wp_ret rfl rfl rfl ⟨_, _, rfl, Or.inr ⟨by unfold HoD; omega, _, _, hH76, by rw [if_neg (by omega)]⟩, hF76⟩
    · refine wp_eq (L' := [(2, 0), (0, n), (0, p), (0, l), (0, q), (0, w), (9, 0)]) (st' := [(0, 0)]) (g' := g) ?_
      refine wp_n 6 (pc' := 66) (L' := [(2, 0), (0, n), (0, p), (0, l), (0, q), (0, w), (0, 0)]) (st' := [(0, (-1))]) (g' := g) rfl ?_
      first
      | exact wp_ret rfl rfl rfl ⟨_, _, rfl, Or.inl ⟨by unfold HoD; omega, rfl⟩, FrQ.rfl⟩
      | exact wp_ret rfl rfl rfl ⟨_, _, rfl, Or.inr ⟨by unfold HoD; omega, _, _, hH76, by rw [if_pos (by omega)]⟩, hF76⟩
      | exact wp_ret rfl rfl rfl ⟨_, _, rfl, Or.inr ⟨by unfold HoD; omega, _, _, hH76, by rw [if_neg (by omega)]⟩, hF76⟩
  · refine wp_eq (L' := [(2, 0), (0, n), (0, p), (0, l), (0, q), (0, w), (9, 0)]) (st' := [(0, 0)]) (g' := g) ?_
    refine wp_n 6 (pc' := 66) (L' := [(2, 0), (0, n), (0, p), (0, l), (0, q), (0, w), (0, 0)]) (st' := [(0, (-1))]) (g' := g) rfl ?_
    first
    | exact wp_ret rfl rfl rfl ⟨_, _, rfl, Or.inl ⟨by unfold HoD; omega, rfl⟩, FrQ.rfl⟩
    | exact wp_ret rfl rfl rfl ⟨_, _, rfl, Or.inr ⟨by unfold HoD; omega, _, _, hH76, by rw [if_pos (by omega)]⟩, hF76⟩
    | exact wp_ret rfl rfl rfl ⟨_, _, rfl, Or.inr ⟨by unfold HoD; omega, _, _, hH76, by rw [if_neg (by omega)]⟩, hF76⟩
set_option maxHeartbeats 2000000 in
set_option maxRecDepth 20000 in
theorem m_house {sn : Nat} {sx : Nat → Int} {b : Nat} {g : am_G} {c : am_G} {P : Nat} {n p l q w : Int} (h_n : R32 n) (h_p : R32 p) (h_l : R32 l) (h_q : R32 q) (h_w : R32 w) (hI : CInv P c) (hM : MRel c g) : Ev sn sx 2 246 [(2, 127), (0, n), (0, p), (0, l), (0, q), (0, w)] (SH b) g (fun y => ∃ g' v, y = (some (0, v), SH b, g') ∧ HoA n p l q w v ∧ FrN g g') := by
  have h5 := hI.ck.1
  have hP : g 127 0 = (P : Int) := hM.n.trans hI.ck.2.1
  refine ev_of (K := 1) T246 (by decide) rfl rfl (Nat.le_of_ble_eq_true rfl) ?_
  refine wp_eq (L' := [(2, 127), (0, n), (0, p), (0, l), (0, q), (0, w), (9, 0), (9, 0), (9, 0), (9, 0), (9, 0), (9, 0)]) (st' := []) (g' := g) ?_
  refine wp_n 3 (pc' := 4) (L' := [(2, 127), (0, n), (0, p), (0, l), (0, q), (0, w), (9, 0), (9, 0), (9, 0), (9, 0), (9, 0), (9, 0)]) (st' := [(0, 20), (0, 1), (0, n)]) (g' := g) rfl ?_
  refine wp_cs (as := [(0, n), (0, 1), (0, 20)]) (rest := []) rfl (by decide) rfl (Nat.le_of_ble_eq_true rfl) (e_isIn (by omega) (by omega) (by omega)) (by decide) (fun r2 h3 => ?_)
  rcases h3 with ⟨rfl, p1⟩ | ⟨rfl, p1⟩
  · refine wp_eq (L' := [(2, 127), (0, n), (0, p), (0, l), (0, q), (0, w), (9, 0), (9, 0), (9, 0), (9, 0), (9, 0), (9, 0)]) (st' := [(0, 1)]) (g' := g) ?_
    refine wp_n 4 (pc' := 15) (L' := [(2, 127), (0, n), (0, p), (0, l), (0, q), (0, w), (9, 0), (9, 0), (9, 0), (9, 0), (9, 0), (9, 0)]) (st' := [(0, 9999), (0, 0), (0, p)]) (g' := g) rfl ?_
    refine wp_cs (as := [(0, p), (0, 0), (0, 9999)]) (rest := []) rfl (by decide) rfl (Nat.le_of_ble_eq_true rfl) (e_isIn (by omega) (by omega) (by omega)) (by decide) (fun r5 h6 => ?_)
    rcases h6 with ⟨rfl, p4⟩ | ⟨rfl, p4⟩
    · refine wp_eq (L' := [(2, 127), (0, n), (0, p), (0, l), (0, q), (0, w), (9, 0), (9, 0), (9, 0), (9, 0), (9, 0), (9, 0)]) (st' := [(0, 1)]) (g' := g) ?_
      refine wp_n 4 (pc' := 25) (L' := [(2, 127), (0, n), (0, p), (0, l), (0, q), (0, w), (9, 0), (9, 0), (9, 0), (9, 0), (9, 0), (9, 0)]) (st' := [(0, 20), (0, 0), (0, l)]) (g' := g) rfl ?_
      refine wp_cs (as := [(0, l), (0, 0), (0, 20)]) (rest := []) rfl (by decide) rfl (Nat.le_of_ble_eq_true rfl) (e_isIn (by omega) (by omega) (by omega)) (by decide) (fun r8 h9 => ?_)
      rcases h9 with ⟨rfl, p7⟩ | ⟨rfl, p7⟩
      · refine wp_eq (L' := [(2, 127), (0, n), (0, p), (0, l), (0, q), (0, w), (9, 0), (9, 0), (9, 0), (9, 0), (9, 0), (9, 0)]) (st' := [(0, 1)]) (g' := g) ?_
        refine wp_n 4 (pc' := 37) (L' := [(2, 127), (0, n), (0, p), (0, l), (0, q), (0, w), (9, 0), (9, 0), (9, 0), (9, 0), (9, 0), (9, 0)]) (st' := [(0, 9999), (0, 0), (0, q)]) (g' := g) rfl ?_
        refine wp_cs (as := [(0, q), (0, 0), (0, 9999)]) (rest := []) rfl (by decide) rfl (Nat.le_of_ble_eq_true rfl) (e_isIn (by omega) (by omega) (by omega)) (by decide) (fun r11 h12 => ?_)
        rcases h12 with ⟨rfl, p10⟩ | ⟨rfl, p10⟩
        · refine wp_eq (L' := [(2, 127), (0, n), (0, p), (0, l), (0, q), (0, w), (9, 0), (9, 0), (9, 0), (9, 0), (9, 0), (9, 0)]) (st' := [(0, 1)]) (g' := g) ?_
          refine wp_n 4 (pc' := 47) (L' := [(2, 127), (0, n), (0, p), (0, l), (0, q), (0, w), (9, 0), (9, 0), (9, 0), (9, 0), (9, 0), (9, 0)]) (st' := [(0, 1), (0, 0), (0, w)]) (g' := g) rfl ?_
          refine wp_cs (as := [(0, w), (0, 0), (0, 1)]) (rest := []) rfl (by decide) rfl (Nat.le_of_ble_eq_true rfl) (e_isIn (by omega) (by omega) (by omega)) (by decide) (fun r14 h15 => ?_)
          rcases h15 with ⟨rfl, p13⟩ | ⟨rfl, p13⟩
          · refine wp_eq (L' := [(2, 127), (0, n), (0, p), (0, l), (0, q), (0, w), (9, 0), (9, 0), (9, 0), (9, 0), (9, 0), (9, 0)]) (st' := [(0, 1)]) (g' := g) ?_
            refine wp_n 7 (pc' := 64) (L' := [(2, 127), (0, n), (0, p), (0, l), (0, q), (0, w), (0, 0), (0, (-1)), (0, 0), (9, 0), (9, 0), (9, 0)]) (st' := []) (g' := g) rfl ?_
            have L64 : ∀ (lf : Nat) (s : Nat) (S C : Int) (w9 w10 w11 : am_V), 2 ^ n.toNat - s < lf → (s ≤ 2 ^ n.toNat) → ((s = 0 ∧ S = 0 ∧ C = -1) ∨ ∃ s0, s0 < s ∧ C = cst p l q s0 n.toNat ∧ S = (s0 : Int) ∧ ∀ u, u < s → C * 1048576 + S ≤ wth p l q u n.toNat) → Wp sn sx 1 T246 64 [(2, 127), (0, n), (0, p), (0, l), (0, q), (0, w), (0, S), (0, C), (0, ((s : Nat) : Int)), w9, w10, w11] [] (SH b) g (fun y => ∃ g' v, y = (some (0, v), SH b, g') ∧ HoA n p l q w v ∧ FrN g g') := by
              intro lf
              induction lf with
              | zero => intro s S C w9 w10 w11 hlf; exact absurd hlf (Nat.not_lt_zero _)
              | succ lf ih64 =>
                intro s S C w9 w10 w11 hlf hs hC
                have h2k : 2 ^ n.toNat ≤ 2 ^ 20 := Nat.pow_le_pow_right (by decide) (by omega)
                have h2p : 0 < 2 ^ n.toNat := Nat.pow_pos (by decide)
                refine wp_n 3 (pc' := 68) (L' := [(2, 127), (0, n), (0, p), (0, l), (0, q), (0, w), (0, S), (0, C), (0, ((s : Nat) : Int)), w9, w10, w11]) (st' := [(0, n), (0, 1), (0, ((s : Nat) : Int))]) (g' := g) rfl ?_
                refine wp_eq (L' := [(2, 127), (0, n), (0, p), (0, l), (0, q), (0, w), (0, S), (0, C), (0, ((s : Nat) : Int)), w9, w10, w11]) (st' := [(0, ((n.toNat : Nat) : Int)), (0, 1), (0, ((s : Nat) : Int))]) (g' := g) ?_ (by rfl) (by rw [Int.toNat_of_nonneg (by omega)]) (by rfl)
                refine wp_n 1 (pc' := 69) (L' := [(2, 127), (0, n), (0, p), (0, l), (0, q), (0, w), (0, S), (0, C), (0, ((s : Nat) : Int)), w9, w10, w11]) (st' := [(0, (Int32.ofInt 1 <<< (Int32.ofInt ((n.toNat : Nat) : Int) &&& 31)).toInt), (0, ((s : Nat) : Int))]) (g' := g) rfl ?_
                refine wp_eq (L' := [(2, 127), (0, n), (0, p), (0, l), (0, q), (0, w), (0, S), (0, C), (0, ((s : Nat) : Int)), w9, w10, w11]) (st' := [(0, (((2 ^ n.toNat) : Nat) : Int)), (0, ((s : Nat) : Int))]) (g' := g) ?_ (by rfl) (by rw [ishl_k (by omega)]) (by rfl)
                refine wp_ic_ge rfl (fun c16 => ?_) (fun c16 => ?_)
                · have hk2 : s = 2 ^ n.toNat := by omega
                  have hIs : IsHo p l q n.toNat C S := by
                    have hpos : 0 < 2 ^ n.toNat := Nat.pow_pos (by decide)
                    rcases hC with ⟨e1, e2, e3⟩ | ⟨s0, a1, a2, a3, a4⟩
                    · exfalso; omega
                    · exact ⟨s0, by omega, a2, a3, fun u hu => a4 u (by omega)⟩
                  refine wp_n 1 (pc' := 160) (L' := [(2, 127), (0, n), (0, p), (0, l), (0, q), (0, w), (0, S), (0, C), (0, ((s : Nat) : Int)), w9, w10, w11]) (st' := [(0, w)]) (g' := g) rfl ?_
                  refine wp_if_ne rfl (fun c17 => ?_) (fun c17 => ?_)
                  · refine wp_n 1 (pc' := 170) (L' := [(2, 127), (0, n), (0, p), (0, l), (0, q), (0, w), (0, S), (0, C), (0, ((s : Nat) : Int)), w9, w10, w11]) (st' := [(0, S)]) (g' := g) rfl ?_
                    first
                    | exact wp_ret rfl rfl rfl ⟨_, _, rfl, Or.inl ⟨by unfold HoD; omega, rfl⟩, FrN.rfl⟩
                    | exact wp_ret rfl rfl rfl ⟨_, _, rfl, Or.inr ⟨by unfold HoD; omega, _, _, hIs, by rw [if_pos (by omega)]⟩, FrN.rfl⟩
                    | exact wp_ret rfl rfl rfl ⟨_, _, rfl, Or.inr ⟨by unfold HoD; omega, _, _, hIs, by rw [if_neg (by omega)]⟩, FrN.rfl⟩
                  · refine wp_n 2 (pc' := 170) (L' := [(2, 127), (0, n), (0, p), (0, l), (0, q), (0, w), (0, S), (0, C), (0, ((s : Nat) : Int)), w9, w10, w11]) (st' := [(0, C)]) (g' := g) rfl ?_
                    first
                    | exact wp_ret rfl rfl rfl ⟨_, _, rfl, Or.inl ⟨by unfold HoD; omega, rfl⟩, FrN.rfl⟩
                    | exact wp_ret rfl rfl rfl ⟨_, _, rfl, Or.inr ⟨by unfold HoD; omega, _, _, hIs, by rw [if_pos (by omega)]⟩, FrN.rfl⟩
                    | exact wp_ret rfl rfl rfl ⟨_, _, rfl, Or.inr ⟨by unfold HoD; omega, _, _, hIs, by rw [if_neg (by omega)]⟩, FrN.rfl⟩
                · have hCi : -1 ≤ C ∧ C ≤ 400000 := by
                    rcases hC with ⟨e1, e2, e3⟩ | ⟨s0, a1, a2, a3, a4⟩
                    · omega
                    · have := cst_in (p := p) (l := l) (q := q) (by omega) (by omega) s0 n.toNat
                      omega
                  refine wp_n 6 (pc' := 81) (L' := [(2, 127), (0, n), (0, p), (0, l), (0, q), (0, w), (0, S), (0, C), (0, ((s : Nat) : Int)), (0, 0), (0, 0), (0, 0)]) (st' := []) (g' := g) rfl ?_
                  have L81 : ∀ (lf : Nat) (k : Nat), n.toNat - k < lf → (k ≤ n.toNat) → Wp sn sx 1 T246 81 [(2, 127), (0, n), (0, p), (0, l), (0, q), (0, w), (0, S), (0, C), (0, ((s : Nat) : Int)), (0, (cst p l q s k)), (0, (((wrn s k) : Nat) : Int)), (0, ((k : Nat) : Int))] [] (SH b) g (fun y => ∃ g' v, y = (some (0, v), SH b, g') ∧ HoA n p l q w v ∧ FrN g g') := by
                    intro lf
                    induction lf with
                    | zero => intro k hlf; exact absurd hlf (Nat.not_lt_zero _)
                    | succ lf ih81 =>
                      intro k hlf hk
                      have hci := cst_in (p := p) (l := l) (q := q) (by omega) (by omega) s k
                      have hwi := wrn_le s k
                      refine wp_n 2 (pc' := 84) (L' := [(2, 127), (0, n), (0, p), (0, l), (0, q), (0, w), (0, S), (0, C), (0, ((s : Nat) : Int)), (0, (cst p l q s k)), (0, (((wrn s k) : Nat) : Int)), (0, ((k : Nat) : Int))]) (st' := [(0, n), (0, ((k : Nat) : Int))]) (g' := g) rfl ?_
                      refine wp_ic_ge rfl (fun c18 => ?_) (fun c18 => ?_)
                      · have hk3 : k = n.toNat := by omega
                        have hk4 : cst p l q s n.toNat = cst p l q s k := by rw [hk3]
                        refine wp_n 1 (pc' := 131) (L' := [(2, 127), (0, n), (0, p), (0, l), (0, q), (0, w), (0, S), (0, C), (0, ((s : Nat) : Int)), (0, (cst p l q s k)), (0, (((wrn s k) : Nat) : Int)), (0, ((k : Nat) : Int))]) (st' := [(0, C)]) (g' := g) rfl ?_
                        refine wp_if_lt rfl (fun c19 => ?_) (fun c19 => ?_)
                        · refine wp_n 6 (pc' := 64) (L' := [(2, 127), (0, n), (0, p), (0, l), (0, q), (0, w), (0, ((s : Nat) : Int)), (0, (cst p l q s k)), (0, (((s : Nat) : Int) + 1)), (0, (cst p l q s k)), (0, (((wrn s k) : Nat) : Int)), (0, ((k : Nat) : Int))]) (st' := []) (g' := g) rfl ?_
                          refine wp_eq (ih64 (s + 1) (((s : Nat) : Int)) ((cst p l q s k)) ((0, (cst p l q s k))) ((0, (((wrn s k) : Nat) : Int))) ((0, ((k : Nat) : Int))) ?_ ?_ ?_) (by first | rfl | (simp; done) | (simp; omega)) (by rfl) (by rfl)
                          · omega
                          · omega
                          · first
                            | (right
                               rcases hC with ⟨e1, e2, e3⟩ | ⟨s0, a1, a2, a3, a4⟩
                               · exfalso; omega
                               · refine ⟨s0, by omega, a2, a3, fun u hu => ?_⟩
                                 by_cases e : u = s
                                 · subst e; unfold wth; omega
                                 · exact a4 u (by omega))
                            | (right
                               refine ⟨s, by omega, hk4.symm, rfl, fun u hu => ?_⟩
                               by_cases e : u = s
                               · subst e; unfold wth; omega
                               · rcases hC with ⟨e1, e2, e3⟩ | ⟨s0, a1, a2, a3, a4⟩
                                 · exfalso; omega
                                 · have := a4 u (by omega)
                                   have := cst_in (p := p) (l := l) (q := q) (by omega) (by omega) s0 n.toNat
                                   omega)
                        · refine wp_n 2 (pc' := 138) (L' := [(2, 127), (0, n), (0, p), (0, l), (0, q), (0, w), (0, S), (0, C), (0, ((s : Nat) : Int)), (0, (cst p l q s k)), (0, (((wrn s k) : Nat) : Int)), (0, ((k : Nat) : Int))]) (st' := [(0, C), (0, (cst p l q s k))]) (g' := g) rfl ?_
                          refine wp_ic_lt rfl (fun c20 => ?_) (fun c20 => ?_)
                          · refine wp_n 6 (pc' := 64) (L' := [(2, 127), (0, n), (0, p), (0, l), (0, q), (0, w), (0, ((s : Nat) : Int)), (0, (cst p l q s k)), (0, (((s : Nat) : Int) + 1)), (0, (cst p l q s k)), (0, (((wrn s k) : Nat) : Int)), (0, ((k : Nat) : Int))]) (st' := []) (g' := g) rfl ?_
                            refine wp_eq (ih64 (s + 1) (((s : Nat) : Int)) ((cst p l q s k)) ((0, (cst p l q s k))) ((0, (((wrn s k) : Nat) : Int))) ((0, ((k : Nat) : Int))) ?_ ?_ ?_) (by first | rfl | (simp; done) | (simp; omega)) (by rfl) (by rfl)
                            · omega
                            · omega
                            · first
                              | (right
                                 rcases hC with ⟨e1, e2, e3⟩ | ⟨s0, a1, a2, a3, a4⟩
                                 · exfalso; omega
                                 · refine ⟨s0, by omega, a2, a3, fun u hu => ?_⟩
                                   by_cases e : u = s
                                   · subst e; unfold wth; omega
                                   · exact a4 u (by omega))
                              | (right
                                 refine ⟨s, by omega, hk4.symm, rfl, fun u hu => ?_⟩
                                 by_cases e : u = s
                                 · subst e; unfold wth; omega
                                 · rcases hC with ⟨e1, e2, e3⟩ | ⟨s0, a1, a2, a3, a4⟩
                                   · exfalso; omega
                                   · have := a4 u (by omega)
                                     have := cst_in (p := p) (l := l) (q := q) (by omega) (by omega) s0 n.toNat
                                     omega)
                          · refine wp_n 3 (pc' := 64) (L' := [(2, 127), (0, n), (0, p), (0, l), (0, q), (0, w), (0, S), (0, C), (0, (((s : Nat) : Int) + 1)), (0, (cst p l q s k)), (0, (((wrn s k) : Nat) : Int)), (0, ((k : Nat) : Int))]) (st' := []) (g' := g) rfl ?_
                            refine wp_eq (ih64 (s + 1) (S) (C) ((0, (cst p l q s k))) ((0, (((wrn s k) : Nat) : Int))) ((0, ((k : Nat) : Int))) ?_ ?_ ?_) (by first | rfl | (simp; done) | (simp; omega)) (by rfl) (by rfl)
                            · omega
                            · omega
                            · first
                              | (right
                                 rcases hC with ⟨e1, e2, e3⟩ | ⟨s0, a1, a2, a3, a4⟩
                                 · exfalso; omega
                                 · refine ⟨s0, by omega, a2, a3, fun u hu => ?_⟩
                                   by_cases e : u = s
                                   · subst e; unfold wth; omega
                                   · exact a4 u (by omega))
                              | (right
                                 refine ⟨s, by omega, hk4.symm, rfl, fun u hu => ?_⟩
                                 by_cases e : u = s
                                 · subst e; unfold wth; omega
                                 · rcases hC with ⟨e1, e2, e3⟩ | ⟨s0, a1, a2, a3, a4⟩
                                   · exfalso; omega
                                   · have := a4 u (by omega)
                                     have := cst_in (p := p) (l := l) (q := q) (by omega) (by omega) s0 n.toNat
                                     omega)
                      · refine wp_n 5 (pc' := 94) (L' := [(2, 127), (0, n), (0, p), (0, l), (0, q), (0, w), (0, S), (0, C), (0, ((s : Nat) : Int)), (0, (cst p l q s k)), (0, (((wrn s k) : Nat) : Int)), (0, ((k : Nat) : Int))]) (st' := [(0, (Int32.ofInt (Int32.ofInt ((s : Nat) : Int) >>> (Int32.ofInt ((k : Nat) : Int) &&& 31)).toInt &&& Int32.ofInt 1).toInt)]) (g' := g) rfl ?_
                        refine wp_eq (L' := [(2, 127), (0, n), (0, p), (0, l), (0, q), (0, w), (0, S), (0, C), (0, ((s : Nat) : Int)), (0, (cst p l q s k)), (0, (((wrn s k) : Nat) : Int)), (0, ((k : Nat) : Int))]) (st' := [(0, (((s / 2 ^ k % 2) : Nat) : Int))]) (g' := g) ?_ (by rfl) (by rw [ibit_k (by omega) (by omega)]) (by rfl)
                        refine wp_n 1 (pc' := 95) (L' := [(2, 127), (0, n), (0, p), (0, l), (0, q), (0, w), (0, S), (0, C), (0, ((s : Nat) : Int)), (0, (cst p l q s k)), (0, (((wrn s k) : Nat) : Int)), (0, ((k : Nat) : Int))]) (st' := [(0, 1), (0, (((s / 2 ^ k % 2) : Nat) : Int))]) (g' := g) rfl ?_
                        refine wp_ic_ne rfl (fun c21 => ?_) (fun c21 => ?_)
                        · have hb : ¬ s / 2 ^ k % 2 = 1 := by omega
                          refine wp_n 2 (pc' := 110) (L' := [(2, 127), (0, n), (0, p), (0, l), (0, q), (0, w), (0, S), (0, C), (0, ((s : Nat) : Int)), (0, (cst p l q s k)), (0, (((wrn s k) : Nat) : Int)), (0, ((k : Nat) : Int))]) (st' := [(0, l), (0, (((wrn s k) : Nat) : Int))]) (g' := g) rfl ?_
                          refine wp_ic_lt rfl (fun c22 => ?_) (fun c22 => ?_)
                          · have hw0 : s / 2 ^ k % 2 = 1 → ¬ l ≤ 0 := fun e => by omega
                            have hw1 : ¬ s / 2 ^ k % 2 = 1 → ¬ l ≤ (wrn s k : Int) := fun e => by omega
                            refine wp_n 3 (pc' := 81) (L' := [(2, 127), (0, n), (0, p), (0, l), (0, q), (0, w), (0, S), (0, C), (0, ((s : Nat) : Int)), (0, (cst p l q s k)), (0, ((((wrn s k) : Nat) : Int) + 1)), (0, (((k : Nat) : Int) + 1))]) (st' := []) (g' := g) rfl ?_
                            refine wp_eq (ih81 (k + 1) ?_ ?_) (by first
                            | (rw [cst_b hb, wrn_b hb, if_pos (hw0 hb)]; rfl)
                            | (rw [cst_b hb, wrn_b hb, if_neg (hw0 hb), Int.add_zero]; rfl)
                            | (rw [cst_n hb, wrn_n hb, if_pos (hw1 hb)]; rfl)
                            | (rw [cst_n hb, wrn_n hb, if_neg (hw1 hb), Int.add_zero]; rfl)) (by rfl) (by rfl)
                            · omega
                            · omega
                          · have hw0 : s / 2 ^ k % 2 = 1 → l ≤ 0 := fun e => by omega
                            have hw1 : ¬ s / 2 ^ k % 2 = 1 → l ≤ (wrn s k : Int) := fun e => by omega
                            refine wp_n 7 (pc' := 81) (L' := [(2, 127), (0, n), (0, p), (0, l), (0, q), (0, w), (0, S), (0, C), (0, ((s : Nat) : Int)), (0, ((cst p l q s k) + q)), (0, ((((wrn s k) : Nat) : Int) + 1)), (0, (((k : Nat) : Int) + 1))]) (st' := []) (g' := g) rfl ?_
                            refine wp_eq (ih81 (k + 1) ?_ ?_) (by first
                            | (rw [cst_b hb, wrn_b hb, if_pos (hw0 hb)]; rfl)
                            | (rw [cst_b hb, wrn_b hb, if_neg (hw0 hb), Int.add_zero]; rfl)
                            | (rw [cst_n hb, wrn_n hb, if_pos (hw1 hb)]; rfl)
                            | (rw [cst_n hb, wrn_n hb, if_neg (hw1 hb), Int.add_zero]; rfl)) (by rfl) (by rfl)
                            · omega
                            · omega
                        · have hb : s / 2 ^ k % 2 = 1 := by omega
                          refine wp_n 8 (pc' := 110) (L' := [(2, 127), (0, n), (0, p), (0, l), (0, q), (0, w), (0, S), (0, C), (0, ((s : Nat) : Int)), (0, ((cst p l q s k) + p)), (0, 0), (0, ((k : Nat) : Int))]) (st' := [(0, l), (0, 0)]) (g' := g) rfl ?_
                          refine wp_ic_lt rfl (fun c23 => ?_) (fun c23 => ?_)
                          · have hw0 : s / 2 ^ k % 2 = 1 → ¬ l ≤ 0 := fun e => by omega
                            have hw1 : ¬ s / 2 ^ k % 2 = 1 → ¬ l ≤ (wrn s k : Int) := fun e => by omega
                            refine wp_n 3 (pc' := 81) (L' := [(2, 127), (0, n), (0, p), (0, l), (0, q), (0, w), (0, S), (0, C), (0, ((s : Nat) : Int)), (0, ((cst p l q s k) + p)), (0, (0 + 1)), (0, (((k : Nat) : Int) + 1))]) (st' := []) (g' := g) rfl ?_
                            refine wp_eq (ih81 (k + 1) ?_ ?_) (by first
                            | (rw [cst_b hb, wrn_b hb, if_pos (hw0 hb)]; rfl)
                            | (rw [cst_b hb, wrn_b hb, if_neg (hw0 hb), Int.add_zero]; rfl)
                            | (rw [cst_n hb, wrn_n hb, if_pos (hw1 hb)]; rfl)
                            | (rw [cst_n hb, wrn_n hb, if_neg (hw1 hb), Int.add_zero]; rfl)) (by rfl) (by rfl)
                            · omega
                            · omega
                          · have hw0 : s / 2 ^ k % 2 = 1 → l ≤ 0 := fun e => by omega
                            have hw1 : ¬ s / 2 ^ k % 2 = 1 → l ≤ (wrn s k : Int) := fun e => by omega
                            refine wp_n 7 (pc' := 81) (L' := [(2, 127), (0, n), (0, p), (0, l), (0, q), (0, w), (0, S), (0, C), (0, ((s : Nat) : Int)), (0, (((cst p l q s k) + p) + q)), (0, (0 + 1)), (0, (((k : Nat) : Int) + 1))]) (st' := []) (g' := g) rfl ?_
                            refine wp_eq (ih81 (k + 1) ?_ ?_) (by first
                            | (rw [cst_b hb, wrn_b hb, if_pos (hw0 hb)]; rfl)
                            | (rw [cst_b hb, wrn_b hb, if_neg (hw0 hb), Int.add_zero]; rfl)
                            | (rw [cst_n hb, wrn_n hb, if_pos (hw1 hb)]; rfl)
                            | (rw [cst_n hb, wrn_n hb, if_neg (hw1 hb), Int.add_zero]; rfl)) (by rfl) (by rfl)
                            · omega
                            · omega
                  refine wp_eq (L81 (_ + 1) (0) (Nat.lt_succ_self _) ?_) (by first | rfl | (simp; done) | (simp; omega)) (by rfl) (by rfl)
                  · exact Nat.zero_le _
            refine wp_eq (L64 (_ + 1) (0) (0) ((-1)) ((9, 0)) ((9, 0)) ((9, 0)) (Nat.lt_succ_self _) ?_ ?_) (by first | rfl | (simp; done) | (simp; omega)) (by rfl) (by rfl)
            · exact Nat.zero_le _
            · exact Or.inl ⟨rfl, rfl, rfl⟩
          · refine wp_eq (L' := [(2, 127), (0, n), (0, p), (0, l), (0, q), (0, w), (9, 0), (9, 0), (9, 0), (9, 0), (9, 0), (9, 0)]) (st' := [(0, 0)]) (g' := g) ?_
            refine wp_n 2 (pc' := 54) (L' := [(2, 127), (0, n), (0, p), (0, l), (0, q), (0, w), (9, 0), (9, 0), (9, 0), (9, 0), (9, 0), (9, 0)]) (st' := [(0, (-1))]) (g' := g) rfl ?_
            first
            | exact wp_ret rfl rfl rfl ⟨_, _, rfl, Or.inl ⟨by unfold HoD; omega, rfl⟩, FrN.rfl⟩
            | exact wp_ret rfl rfl rfl ⟨_, _, rfl, Or.inr ⟨by unfold HoD; omega, _, _, hIs, by rw [if_pos (by omega)]⟩, FrN.rfl⟩
            | exact wp_ret rfl rfl rfl ⟨_, _, rfl, Or.inr ⟨by unfold HoD; omega, _, _, hIs, by rw [if_neg (by omega)]⟩, FrN.rfl⟩
        · refine wp_eq (L' := [(2, 127), (0, n), (0, p), (0, l), (0, q), (0, w), (9, 0), (9, 0), (9, 0), (9, 0), (9, 0), (9, 0)]) (st' := [(0, 0)]) (g' := g) ?_
          refine wp_n 2 (pc' := 54) (L' := [(2, 127), (0, n), (0, p), (0, l), (0, q), (0, w), (9, 0), (9, 0), (9, 0), (9, 0), (9, 0), (9, 0)]) (st' := [(0, (-1))]) (g' := g) rfl ?_
          first
          | exact wp_ret rfl rfl rfl ⟨_, _, rfl, Or.inl ⟨by unfold HoD; omega, rfl⟩, FrN.rfl⟩
          | exact wp_ret rfl rfl rfl ⟨_, _, rfl, Or.inr ⟨by unfold HoD; omega, _, _, hIs, by rw [if_pos (by omega)]⟩, FrN.rfl⟩
          | exact wp_ret rfl rfl rfl ⟨_, _, rfl, Or.inr ⟨by unfold HoD; omega, _, _, hIs, by rw [if_neg (by omega)]⟩, FrN.rfl⟩
      · refine wp_eq (L' := [(2, 127), (0, n), (0, p), (0, l), (0, q), (0, w), (9, 0), (9, 0), (9, 0), (9, 0), (9, 0), (9, 0)]) (st' := [(0, 0)]) (g' := g) ?_
        refine wp_n 2 (pc' := 54) (L' := [(2, 127), (0, n), (0, p), (0, l), (0, q), (0, w), (9, 0), (9, 0), (9, 0), (9, 0), (9, 0), (9, 0)]) (st' := [(0, (-1))]) (g' := g) rfl ?_
        first
        | exact wp_ret rfl rfl rfl ⟨_, _, rfl, Or.inl ⟨by unfold HoD; omega, rfl⟩, FrN.rfl⟩
        | exact wp_ret rfl rfl rfl ⟨_, _, rfl, Or.inr ⟨by unfold HoD; omega, _, _, hIs, by rw [if_pos (by omega)]⟩, FrN.rfl⟩
        | exact wp_ret rfl rfl rfl ⟨_, _, rfl, Or.inr ⟨by unfold HoD; omega, _, _, hIs, by rw [if_neg (by omega)]⟩, FrN.rfl⟩
    · refine wp_eq (L' := [(2, 127), (0, n), (0, p), (0, l), (0, q), (0, w), (9, 0), (9, 0), (9, 0), (9, 0), (9, 0), (9, 0)]) (st' := [(0, 0)]) (g' := g) ?_
      refine wp_n 2 (pc' := 54) (L' := [(2, 127), (0, n), (0, p), (0, l), (0, q), (0, w), (9, 0), (9, 0), (9, 0), (9, 0), (9, 0), (9, 0)]) (st' := [(0, (-1))]) (g' := g) rfl ?_
      first
      | exact wp_ret rfl rfl rfl ⟨_, _, rfl, Or.inl ⟨by unfold HoD; omega, rfl⟩, FrN.rfl⟩
      | exact wp_ret rfl rfl rfl ⟨_, _, rfl, Or.inr ⟨by unfold HoD; omega, _, _, hIs, by rw [if_pos (by omega)]⟩, FrN.rfl⟩
      | exact wp_ret rfl rfl rfl ⟨_, _, rfl, Or.inr ⟨by unfold HoD; omega, _, _, hIs, by rw [if_neg (by omega)]⟩, FrN.rfl⟩
  · refine wp_eq (L' := [(2, 127), (0, n), (0, p), (0, l), (0, q), (0, w), (9, 0), (9, 0), (9, 0), (9, 0), (9, 0), (9, 0)]) (st' := [(0, 0)]) (g' := g) ?_
    refine wp_n 2 (pc' := 54) (L' := [(2, 127), (0, n), (0, p), (0, l), (0, q), (0, w), (9, 0), (9, 0), (9, 0), (9, 0), (9, 0), (9, 0)]) (st' := [(0, (-1))]) (g' := g) rfl ?_
    first
    | exact wp_ret rfl rfl rfl ⟨_, _, rfl, Or.inl ⟨by unfold HoD; omega, rfl⟩, FrN.rfl⟩
    | exact wp_ret rfl rfl rfl ⟨_, _, rfl, Or.inr ⟨by unfold HoD; omega, _, _, hIs, by rw [if_pos (by omega)]⟩, FrN.rfl⟩
    | exact wp_ret rfl rfl rfl ⟨_, _, rfl, Or.inr ⟨by unfold HoD; omega, _, _, hIs, by rw [if_neg (by omega)]⟩, FrN.rfl⟩
theorem C_house {sn : Nat} {sx : Nat → Int} {b : Nat} {g : am_G} {P : Nat} {n p l q w : Int} (h_n : R32 n) (h_p : R32 p) (h_l : R32 l) (h_q : R32 q) (h_w : R32 w) (hI : CInv P g) : Ev sn sx 3 125 [(2, 0), (0, n), (0, p), (0, l), (0, q), (0, w)] (SH b) g (CPost P g (fun c1 v1 => HoA n p l q w v1 ∧ CoE g c1)) := (e_house h_n h_p h_l h_q h_w hI).mono fun r hh => cpost_q (A := HoA n p l q w) hI hh
theorem M_house {sn : Nat} {sx : Nat → Int} {b : Nat} {g c : am_G} {P : Nat} {n p l q w : Int} (h_n : R32 n) (h_p : R32 p) (h_l : R32 l) (h_q : R32 q) (h_w : R32 w) (hI : CInv P c) (hM : MRel c g) : Ev sn sx 2 246 [(2, 127), (0, n), (0, p), (0, l), (0, q), (0, w)] (SH b) g (MPost b g (fun c1 v1 => HoA n p l q w v1 ∧ CoE c c1)) := (m_house h_n h_p h_l h_q h_w hI hM).mono fun r hh => mpost_n (A := HoA n p l q w) hM (fun _ _ => HoA.uniq) hh
