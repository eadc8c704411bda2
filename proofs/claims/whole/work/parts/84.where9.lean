/-! WHERE: settle -/
theorem free3 (x y z : Int) : ∃ v : Int, 0 ≤ v ∧ v ≤ 3 ∧ v ≠ x ∧ v ≠ y ∧ v ≠ z := by
  rcases (show (0 ≠ x ∧ 0 ≠ y ∧ 0 ≠ z) ∨ (1 ≠ x ∧ 1 ≠ y ∧ 1 ≠ z) ∨ (2 ≠ x ∧ 2 ≠ y ∧ 2 ≠ z) ∨ (3 ≠ x ∧ 3 ≠ y ∧ 3 ≠ z) by omega) with h | h | h | h
  · exact ⟨0, by omega⟩
  · exact ⟨1, by omega⟩
  · exact ⟨2, by omega⟩
  · exact ⟨3, by omega⟩
theorem pick3 (N : Nat) (s x y z : Int) (hs : -1 ≤ s ∧ s ≤ 3) : ∃ d : Int, (N = 0 ∧ d = -1) ∨ (0 < N ∧ 0 ≤ d ∧ d ≤ 3 ∧ (s = d ∨ (s = -1 ∧ d ≠ x ∧ d ≠ y ∧ d ≠ z))) := by
  by_cases h : N = 0
  · exact ⟨-1, Or.inl ⟨h, rfl⟩⟩
  · by_cases h2 : s = -1
    · obtain ⟨v, h3⟩ := free3 x y z
      exact ⟨v, Or.inr ⟨by omega, by omega, by omega, Or.inr ⟨h2, h3.2.2⟩⟩⟩
    · exact ⟨s, Or.inr ⟨by omega, by omega, by omega, Or.inl rfl⟩⟩
theorem ex_way {ev tb fl sc : Nat → Int} {n e : Nat} (hs : ∀ j, j < 12 → -1 ≤ sc j ∧ sc j ≤ 3) (he : e < 4) (hc : ¬ cls sc e) : ∃ k, k < 125 ∧ okw ev tb fl sc n e (wy k) := by
  have n01 : sc (3 * e + 0) ≠ -1 → sc (3 * e + 0) ≠ sc (3 * e + 1) := fun a q => hc ⟨0, by omega, a, 1, by omega, by omega, q.symm⟩
  have n02 : sc (3 * e + 0) ≠ -1 → sc (3 * e + 0) ≠ sc (3 * e + 2) := fun a q => hc ⟨0, by omega, a, 2, by omega, by omega, q.symm⟩
  have n12 : sc (3 * e + 1) ≠ -1 → sc (3 * e + 1) ≠ sc (3 * e + 2) := fun a q => hc ⟨1, by omega, a, 2, by omega, by omega, q.symm⟩
  have s0 := hs (3 * e + 0) (by omega)
  have s1 := hs (3 * e + 1) (by omega)
  have s2 := hs (3 * e + 2) (by omega)
  obtain ⟨d0, h0⟩ := pick3 (spn ev tb fl (e : Int) ((0 : Nat) : Int) n) (sc (3 * e + 0)) (sc (3 * e + 1)) (sc (3 * e + 2)) (sc (3 * e + 2)) s0
  obtain ⟨d1, h1⟩ := pick3 (spn ev tb fl (e : Int) ((1 : Nat) : Int) n) (sc (3 * e + 1)) (sc (3 * e + 0)) (sc (3 * e + 2)) d0 s1
  obtain ⟨d2, h2⟩ := pick3 (spn ev tb fl (e : Int) ((2 : Nat) : Int) n) (sc (3 * e + 2)) (if sc (3 * e + 0) = -1 then d0 else sc (3 * e + 0)) (if sc (3 * e + 1) = -1 then d1 else sc (3 * e + 1)) (-1) s2
  have b0 : -1 ≤ d0 ∧ d0 ≤ 3 := by omega
  have b1 : -1 ≤ d1 ∧ d1 ≤ 3 := by omega
  have b2 : -1 ≤ d2 ∧ d2 ≤ 3 := by omega
  refine ⟨25 * (d0 + 1).toNat + 5 * (d1 + 1).toNat + (d2 + 1).toNat, by omega, ?_⟩
  have e0 : wy (25 * (d0 + 1).toNat + 5 * (d1 + 1).toNat + (d2 + 1).toNat) 0 = d0 := by rw [wy0]; omega
  have e1 : wy (25 * (d0 + 1).toNat + 5 * (d1 + 1).toNat + (d2 + 1).toNat) 1 = d1 := by rw [wy1]; omega
  have e2 : wy (25 * (d0 + 1).toNat + 5 * (d1 + 1).toNat + (d2 + 1).toNat) 2 = d2 := by rw [wy2]; omega
  refine lcx_ok hc fun t ht => ?_
  have tl3 (t : Nat) (v : Int) (q : ∀ u : Nat, u < 3 → u ≠ t → sc (3 * e + u) ≠ v) : ¬ tel sc e t v := fun ⟨u, u1, u2, u3⟩ => q u u1 u2 u3
  rcases (show t = 0 ∨ t = 1 ∨ t = 2 by omega) with q | q | q <;> subst q
  · refine ⟨?_, fun u hu => absurd hu (Nat.not_lt_zero _)⟩
    rw [e0]
    rcases h0 with h0 | h0
    · exact Or.inr h0
    · refine Or.inl ⟨h0.1, h0.2.1, ?_⟩
      by_cases k : sc (3 * e + 0) = -1
      · refine Or.inl ⟨k, tl3 _ _ fun u u1 u2 => ?_⟩
        rcases (show u = 1 ∨ u = 2 by omega) with r | r <;> subst r <;> omega
      · exact Or.inr ⟨k, by omega⟩
  · refine ⟨?_, fun u hu h => ?_⟩
    · rw [e1]
      rcases h1 with h1 | h1
      · exact Or.inr h1
      · refine Or.inl ⟨h1.1, h1.2.1, ?_⟩
        by_cases k : sc (3 * e + 1) = -1
        · refine Or.inl ⟨k, tl3 _ _ fun u u1 u2 => ?_⟩
          rcases (show u = 0 ∨ u = 2 by omega) with r | r <;> subst r <;> omega
        · exact Or.inr ⟨k, by omega⟩
    · obtain rfl : u = 0 := by omega
      rw [e1] at h ⊢
      rw [e0]
      omega
  · refine ⟨?_, fun u hu h => ?_⟩
    · rw [e2]
      rcases h2 with h2 | h2
      · exact Or.inr h2
      · refine Or.inl ⟨h2.1, h2.2.1, ?_⟩
        by_cases k : sc (3 * e + 2) = -1
        · refine Or.inl ⟨k, tl3 _ _ fun u u1 u2 => ?_⟩
          rcases (show u = 0 ∨ u = 1 by omega) with r | r <;> subst r
          · by_cases r2 : sc (3 * e + 0) = -1
            · omega
            · rw [if_neg r2] at h2; omega
          · by_cases r2 : sc (3 * e + 1) = -1
            · omega
            · rw [if_neg r2] at h2; omega
        · exact Or.inr ⟨k, by omega⟩
    · rw [e2] at h ⊢
      rcases (show u = 0 ∨ u = 1 by omega) with r | r <;> subst r
      · rw [e0]
        by_cases r2 : sc (3 * e + 0) = -1
        · rw [if_pos r2] at h2; omega
        · rw [if_neg r2] at h2; omega
      · rw [e1]
        by_cases r2 : sc (3 * e + 1) = -1
        · rw [if_pos r2] at h2; omega
        · rw [if_neg r2] at h2; omega
theorem CInv.where {P : Nat} {g g' : am_G} (h : CInv P g) (hF : ∀ c j, (c < 56 ∨ 102 < c) → g' c j = g c j) (hW : WLs g') (hC : CaW P g') : CInv P g' :=
  ⟨h.ck.same fun c j q => hF c j (by omega), h.rg.same fun c j a b => hF c j (by omega), h.rgi.same fun c j a b => hF c j (by omega), h.e24.same fun c j q => hF c j (by omega), h.e24i.same fun c j q => hF c j (by omega), h.tx.same fun c j a b => hF c j (by omega), h.txi.same fun c j a b => hF c j (by omega), h.ti.same fun c j q => hF c j (by omega), h.tap.same fun c j q => hF c j (by omega), h.cls.same fun c j a b => hF c j (by omega), hW, hC, h.cal.same fun c j q => hF c j (by omega)⟩
def OkW (g : am_G) (e : Nat) : Nat → Prop := fun k => okw (g 11) (g 12) (g 14) (g 15) (g 10 4).toNat e (wy k)
def LkW (P : Nat) (g : am_G) (e : Nat) : Nat → Int := fun k => lkw P (g 3) (g 11) (g 12) (g 14) e (wy k) (g 10 4).toNat
theorem WA.s3 {P n e : Nat} {l ev tb fl sc : Nat → Int} {a c : Int} {s s' : Nat → Int} (h : WA P l ev tb fl sc n e a c s) (hs : ∀ t, t < 3 → s' t = s t) : WA P l ev tb fl sc n e a c s' := by
  obtain ⟨h1, h2⟩ := h
  refine ⟨h1, ?_⟩
  rcases h2 with ⟨a1, a2, a3⟩ | ⟨k, a1, a2, a3, a4, a5, a6⟩
  · exact Or.inl ⟨a1, a2, fun t ht => (hs t ht).trans (a3 t ht)⟩
  · exact Or.inr ⟨k, a1, a2, a3, a4, fun t ht => (hs t ht).trans (a5 t ht), a6⟩
/-- the cache of all but one evening is kept -/
theorem CaW.set {P e s : Nat} {g g' : am_G} (h : CaW P g) (he : e < 4) (hs : g 56 2 = (s : Int)) (hq : s / 2 ^ e % 2 = 0) (h56 : g' 56 2 = ((s + 2 ^ e : Nat) : Int)) (hF : ∀ c j, (c < 56 ∨ 102 < c) → g' c j = g c j) (h57 : ∀ j, j ≠ e → g' 57 j = g 57 j) (h58 : ∀ j, j ≠ e → g' 58 j = g 58 j) (h59 : ∀ j, (j < 3 * e ∨ 3 * e + 3 ≤ j) → g' 59 j = g 59 j) (hA : WA P (g 3) (g 11) (g 12) (g 14) (g 15) (g 10 4).toNat e (g' 57 e) (g' 58 e) (fun t => g' 59 (3 * e + t))) : CaW P g' := by
  have hs16 : s < 16 := by have := h.1; omega
  have hu := us_all s hs16 e he hq
  refine ⟨by rw [h56]; exact ⟨Int.natCast_nonneg _, Int.ofNat_lt.mpr hu.1⟩, fun d hd hb => ?_⟩
  rw [show g' 3 = g 3 from funext fun j => hF 3 j (by omega), show g' 11 = g 11 from funext fun j => hF 11 j (by omega), show g' 12 = g 12 from funext fun j => hF 12 j (by omega), show g' 14 = g 14 from funext fun j => hF 14 j (by omega), show g' 15 = g 15 from funext fun j => hF 15 j (by omega), hF 10 4 (by omega)]
  by_cases q : d = e
  · subst q; exact hA
  · rw [h57 d q, h58 d q]
    refine WA.s3 (h.2 d hd ?_) fun t ht => h59 _ (by omega)
    · skip
      rw [h56] at hb
      have hb2 : (s + 2 ^ e) / 2 ^ d % 2 = 1 := by
        have : (((s + 2 ^ e : Nat) : Int)) / 2 ^ d % 2 = (((s + 2 ^ e) / 2 ^ d % 2 : Nat) : Int) := by rw [Int.natCast_emod, Int.natCast_ediv, Int.natCast_pow]; rfl
        omega
      have := ((hu.2 d hd).mp hb2).resolve_right q
      rw [hs]
      have e2 : ((s : Nat) : Int) / 2 ^ d % 2 = ((s / 2 ^ d % 2 : Nat) : Int) := by rw [Int.natCast_emod, Int.natCast_ediv, Int.natCast_pow]; rfl
      omega
set_option maxHeartbeats 400000 in
set_option maxRecDepth 20000 in
theorem e_settle {sn : Nat} {sx : Nat → Int} {b : Nat} {g : am_G} {P e : Nat} (hI : CInv P g) (he : e < 4) : Ev sn sx 8 86 [(2, 56), (0, ((e : Nat) : Int))] (SH b) g (fun r => ∃ g', r = (none, SH b, g') ∧ CInv P g' ∧ (∀ c j, (c < 56 ∨ 102 < c) → g' c j = g c j) ∧ g' 56 2 / 2 ^ e % 2 = 1 ∧ ∀ d : Nat, d < 4 → g 56 2 / 2 ^ d % 2 = 1 → g' 56 2 / 2 ^ d % 2 = 1) := by
  have hn := hI.rg.r10_6 4 rfl
  have h5 := hI.ck.1
  have hBk := hI.bk
  have hca := hI.caw
  obtain ⟨s, hs⟩ : ∃ s : Nat, g 56 2 = (s : Int) := ⟨(g 56 2).toNat, by have := hca.1; omega⟩
  have hs16 : s < 16 := by have := hca.1; omega
  obtain ⟨q, hq⟩ : ∃ q, q = s / 2 ^ e % 2 := ⟨_, rfl⟩
  have hq01 : q < 2 := by rw [hq]; exact Nat.mod_lt _ (by decide)
  have zb : ∀ (x d : Nat), ((x : Nat) : Int) / 2 ^ d % 2 = ((x / 2 ^ d % 2 : Nat) : Int) := fun x d => by rw [Int.natCast_emod, Int.natCast_ediv, Int.natCast_pow]; rfl
  have hsb : ∀ j, j < 12 → -1 ≤ g 15 j ∧ g 15 j ≤ 3 := hBk.2.2.2.2.1
  refine ev_of (K := 7) T86 (by decide) rfl rfl (Nat.le_of_ble_eq_true rfl) ?_
  refine wp_eq (L' := [(2, 56), (0, ((e : Nat) : Int)), (9, 0)]) (st' := []) (g' := g) ?_
  refine wp_n 2 (pc' := 4) (L' := [(2, 56), (0, ((e : Nat) : Int)), (9, 0)]) (st' := [(0, (g 56 2))]) (g' := g) rfl ?_
  refine wp_eq (L' := [(2, 56), (0, ((e : Nat) : Int)), (9, 0)]) (st' := [(0, ((s : Nat) : Int))]) (g' := g) ?_ (by rfl) (by rw [hs]) (by rfl)
  refine wp_n 2 (pc' := 6) (L' := [(2, 56), (0, ((e : Nat) : Int)), (9, 0)]) (st' := [(0, (Int32.ofInt ((s : Nat) : Int) >>> (Int32.ofInt ((e : Nat) : Int) &&& 31)).toInt)]) (g' := g) rfl ?_
  refine wp_eq (L' := [(2, 56), (0, ((e : Nat) : Int)), (9, 0)]) (st' := [(0, (((s / 2 ^ e) : Nat) : Int))]) (g' := g) ?_ (by rfl) (by rw [ishr_k (by omega) (by omega)]) (by rfl)
  refine wp_n 2 (pc' := 8) (L' := [(2, 56), (0, ((e : Nat) : Int)), (9, 0)]) (st' := [(0, (Int32.ofInt (((s / 2 ^ e) : Nat) : Int) &&& Int32.ofInt 1).toInt)]) (g' := g) rfl ?_
  refine wp_eq (L' := [(2, 56), (0, ((e : Nat) : Int)), (9, 0)]) (st' := [(0, ((q : Nat) : Int))]) (g' := g) ?_ (by rfl) (by rw [iand_1 (Nat.lt_of_le_of_lt (Nat.div_le_self _ _) (by omega)), ← hq]) (by rfl)
  refine wp_n 1 (pc' := 9) (L' := [(2, 56), (0, ((e : Nat) : Int)), (9, 0)]) (st' := [(0, 1), (0, ((q : Nat) : Int))]) (g' := g) rfl ?_
  refine wp_ic_ne rfl (fun c1 => ?_) (fun c1 => ?_)
  · have hq0 : s / 2 ^ e % 2 = 0 := by omega
    refine wp_n 3 (pc' := 18) (L' := [(2, 56), (0, ((e : Nat) : Int)), (9, 0)]) (st' := [(0, (g 56 2)), (2, 56)]) (g' := g) rfl ?_
    refine wp_eq (L' := [(2, 56), (0, ((e : Nat) : Int)), (9, 0)]) (st' := [(0, ((s : Nat) : Int)), (2, 56)]) (g' := g) ?_ (by rfl) (by rw [hs]) (by rfl)
    refine wp_n 3 (pc' := 21) (L' := [(2, 56), (0, ((e : Nat) : Int)), (9, 0)]) (st' := [(0, (Int32.ofInt 1 <<< (Int32.ofInt ((e : Nat) : Int) &&& 31)).toInt), (0, ((s : Nat) : Int)), (2, 56)]) (g' := g) rfl ?_
    refine wp_eq (L' := [(2, 56), (0, ((e : Nat) : Int)), (9, 0)]) (st' := [(0, (((2 ^ e) : Nat) : Int)), (0, ((s : Nat) : Int)), (2, 56)]) (g' := g) ?_ (by rfl) (by rw [ishl_k (by omega)]) (by rfl)
    refine wp_n 1 (pc' := 22) (L' := [(2, 56), (0, ((e : Nat) : Int)), (9, 0)]) (st' := [(0, (Int32.ofInt ((s : Nat) : Int) ||| Int32.ofInt (((2 ^ e) : Nat) : Int)).toInt), (2, 56)]) (g' := g) rfl ?_
    refine wp_eq (L' := [(2, 56), (0, ((e : Nat) : Int)), (9, 0)]) (st' := [(0, (((s + 2 ^ e) : Nat) : Int)), (2, 56)]) (g' := g) ?_ (by rfl) (by rw [ior_all s (by omega) e (by omega) hq0]) (by rfl)
    refine wp_n 5 (pc' := 31) (L' := [(2, 56), (0, ((e : Nat) : Int)), (9, 0)]) (st' := [(0, 0), (0, ((e : Nat) : Int)), (2, 57)]) (g' := (am_up g 56 2 (((s + 2 ^ e) : Nat) : Int))) rfl ?_
    refine wp_iast (k := 57) (e) rfl rfl (by omega) (by omega) (by decide) ?_
    refine wp_n 4 (pc' := 38) (L' := [(2, 56), (0, ((e : Nat) : Int)), (9, 0)]) (st' := [(0, (-1)), (0, ((e : Nat) : Int)), (2, 58)]) (g' := (am_up (am_up g 56 2 (((s + 2 ^ e) : Nat) : Int)) 57 e 0)) rfl ?_
    refine wp_iast (k := 58) (e) rfl rfl (by omega) (by omega) (by decide) ?_
    refine wp_n 2 (pc' := 41) (L' := [(2, 56), (0, ((e : Nat) : Int)), (0, 0)]) (st' := []) (g' := (am_up (am_up (am_up g 56 2 (((s + 2 ^ e) : Nat) : Int)) 57 e 0) 58 e (-1))) rfl ?_
    have L41 : ∀ (lf : Nat) (t : Nat) (h : am_G), 3 - t < lf → (t ≤ 3) → (∀ u : Nat, u < t → h 59 (3 * e + u) = -1) → (∀ u : Nat, u < t → h 60 u = (((spn (g 11) (g 12) (g 14) (e : Int) (u : Int) (g 10 4).toNat) : Nat) : Int)) → (h 57 e = 0) → (h 58 e = -1) → (h 56 2 = ((s + 2 ^ e : Nat) : Int)) → (∀ c j, (c < 56 ∨ 62 < c) → h c j = g c j) → (∀ j, j ≠ e → h 57 j = g 57 j) → (∀ j, j ≠ e → h 58 j = g 58 j) → (∀ j, (j < 3 * e ∨ 3 * e + 3 ≤ j) → h 59 j = g 59 j) → Wp sn sx 7 T86 41 [(2, 56), (0, ((e : Nat) : Int)), (0, ((t : Nat) : Int))] [] (SH b) h (fun r => ∃ g', r = (none, SH b, g') ∧ CInv P g' ∧ (∀ c j, (c < 56 ∨ 102 < c) → g' c j = g c j) ∧ g' 56 2 / 2 ^ e % 2 = 1 ∧ ∀ d : Nat, d < 4 → g 56 2 / 2 ^ d % 2 = 1 → g' 56 2 / 2 ^ d % 2 = 1) := by
      intro lf
      induction lf with
      | zero => intro t h hlf; exact absurd hlf (Nat.not_lt_zero _)
      | succ lf ih41 =>
        intro t h hlf ht h59 h60 h57 h58 h56 hF h57o h58o h59o
        refine wp_n 2 (pc' := 43) (L' := [(2, 56), (0, ((e : Nat) : Int)), (0, ((t : Nat) : Int))]) (st' := [(0, 3), (0, ((t : Nat) : Int))]) (g' := h) rfl ?_
        refine wp_ic_ge rfl (fun c2 => ?_) (fun c2 => ?_)
        · have ht3 : t = 3 := by omega
          have h15 : h 15 = g 15 := funext fun j => hF 15 j (by omega)
          have h11 : h 11 = g 11 := funext fun j => hF 11 j (by omega)
          have h12 : h 12 = g 12 := funext fun j => hF 12 j (by omega)
          have h14 : h 14 = g 14 := funext fun j => hF 14 j (by omega)
          have h3 : h 3 = g 3 := funext fun j => hF 3 j (by omega)
          have h104 : h 10 4 = g 10 4 := hF 10 4 (by omega)
          have hus := us_all s hs16 e he hq0
          have hbits : ∀ d : Nat, d < 4 → g 56 2 / 2 ^ d % 2 = 1 → ((s + 2 ^ e : Nat) : Int) / 2 ^ d % 2 = 1 := by
            intro d hd h0
            rw [hs, zb] at h0
            rw [zb]
            have := (hus.2 d hd).mpr (Or.inl (by omega))
            omega
          have hbite : ((s + 2 ^ e : Nat) : Int) / 2 ^ e % 2 = 1 := by
            rw [zb]
            have := (hus.2 e he).mpr (Or.inr rfl)
            omega
          refine wp_n 2 (pc' := 77) (L' := [(2, 56), (0, ((e : Nat) : Int)), (0, ((t : Nat) : Int))]) (st' := [(0, ((e : Nat) : Int)), (2, 56)]) (g' := h) rfl ?_
          refine wp_cv (as := [(2, 56), (0, ((e : Nat) : Int))]) (rest := []) rfl rfl rfl (Nat.le_of_ble_eq_true rfl) rfl (e_clashes (e := e) he (by rw [h15]; exact hsb)) (by decide) (fun r3 h4 => ?_)
          rcases h4 with ⟨rfl, p77⟩ | ⟨rfl, p77⟩
          · rw [h15] at p77
            refine wp_eq (L' := [(2, 56), (0, ((e : Nat) : Int)), (0, ((t : Nat) : Int))]) (st' := [(0, 1)]) (g' := h) ?_
            refine wp_n 1 (pc' := 83) (L' := [(2, 56), (0, ((e : Nat) : Int)), (0, ((t : Nat) : Int))]) (st' := []) (g' := h) rfl ?_
            exact wp_ret rfl rfl rfl ⟨_, rfl, hI.where (fun c j q => hF c j (by omega)) (hI.wls.same fun c j a b => hF c j (by omega)) (hca.set he hs hq0 h56 (fun c j q => hF c j (by omega)) h57o h58o h59o ⟨by rw [h57, cntW_no fun k _ => cls_no hsb he p77]; rfl, Or.inl ⟨cntW_no fun k _ => cls_no hsb he p77, h58, fun u hu => h59 u (by omega)⟩⟩), fun c j q => hF c j (by omega), by rw [h56]; exact hbite, by rw [h56]; exact hbits⟩
          · rw [h15] at p77
            refine wp_eq (L' := [(2, 56), (0, ((e : Nat) : Int)), (0, ((t : Nat) : Int))]) (st' := [(0, 0)]) (g' := h) ?_
            refine wp_n 3 (pc' := 86) (L' := [(2, 56), (0, ((e : Nat) : Int)), (0, ((t : Nat) : Int))]) (st' := [(0, ((e : Nat) : Int)), (2, 56)]) (g' := h) rfl ?_
            refine wp_cv (as := [(2, 56), (0, ((e : Nat) : Int))]) (rest := []) rfl rfl rfl (Nat.le_of_ble_eq_true rfl) rfl (e_wweigh (P := P) (e := e) (by rw [h104]; exact hn) ((hF 1 0 (by omega)).trans hI.ck.2.2.1) (by rw [h104, h3, h11, h12, h14, h15]; exact hBk) (hI.wls.same fun c j a b => hF c j (by omega)) he) (by decide) (fun r5 h6 => ?_)
            obtain ⟨g86, rfl, hC86, hL86, hF86⟩ := h6
            rw [h104, h3, h11, h12, h14] at hC86
            refine wp_eq (L' := [(2, 56), (0, ((e : Nat) : Int)), (0, ((t : Nat) : Int))]) (st' := []) (g' := g86) ?_
            refine wp_n 3 (pc' := 94) (L' := [(2, 56), (0, ((e : Nat) : Int)), (0, ((t : Nat) : Int))]) (st' := [(0, 0), (2, 64)]) (g' := g86) rfl ?_
            refine wp_aald (k := 64) (r := 95) (0) rfl rfl (by omega) (by omega) (by decide) rfl ?_
            refine wp_n 1 (pc' := 96) (L' := [(2, 56), (0, ((e : Nat) : Int)), (0, ((t : Nat) : Int))]) (st' := [(0, 1), (2, 95)]) (g' := g86) rfl ?_
            refine wp_cv (as := [(2, 95), (0, 1)]) (rest := []) rfl rfl rfl (Nat.le_of_ble_eq_true rfl) rfl (e_set (k := 95) (⟨rfl, rfl⟩ : IsBig b 95) (hL86 95 (by omega) (by omega) (by omega)) (by omega)) (by decide) (fun r7 h8 => ?_)
            obtain ⟨g96, rfl, hR96, hF96⟩ := h8
            refine wp_eq (L' := [(2, 56), (0, ((e : Nat) : Int)), (0, ((t : Nat) : Int))]) (st' := []) (g' := g96) ?_
            refine wp_n 3 (pc' := 104) (L' := [(2, 56), (0, ((e : Nat) : Int)), (0, ((t : Nat) : Int))]) (st' := [(0, 0), (2, 67)]) (g' := g96) rfl ?_
            refine wp_cv (as := [(2, 67), (0, 0)]) (rest := []) rfl rfl rfl (Nat.le_of_ble_eq_true rfl) rfl (e_set (k := 67) (⟨rfl, rfl⟩ : IsBig b 67) ((hL86 67 (by omega) (by omega) (by omega)).fr hF96 (by omega)) (by omega)) (by decide) (fun r9 h10 => ?_)
            obtain ⟨g104, rfl, hR104, hF104⟩ := h10
            have hL104 : WLs g104 := (hL86.fr hF96 hR96.L (by omega)).fr hF104 hR104.L (by omega)
            have hk3 : ∀ c j, (c < 62 ∨ 102 < c) → g104 c j = h c j := fun c j q => by rw [hF104 c j (by omega) (by omega), hF96 c j (by omega) (by omega), hF86 c j (by omega) (by omega)]
            have hST : STC P (g 10 4).toNat e (g 3) (g 11) (g 12) (g 14) (g 15) g104 := ⟨fun u hu => (hk3 60 u (by omega)).trans (h60 u (by omega)), fun u v hu hv => ((hC86 u v hu hv).fr' hF96 (by omega)).fr' hF104 (by omega), (funext fun j => hk3 15 j (by omega)).trans h15⟩
            have hWB : WB (fun k => okw (g 11) (g 12) (g 14) (g 15) (g 10 4).toNat e (wy k)) (fun k => lkw P (g 3) (g 11) (g 12) (g 14) e (wy k) (g 10 4).toNat) e 0 g104 := ⟨(hk3 57 e (by omega)).trans h57, hR104, Or.inl ⟨rfl, fun u hu => (hk3 59 _ (by omega)).trans (h59 u (by omega))⟩⟩
            refine wp_eq (L' := [(2, 56), (0, ((e : Nat) : Int)), (0, ((t : Nat) : Int))]) (st' := []) (g' := g104) ?_
            refine wp_n 4 (pc' := 111) (L' := [(2, 56), (0, ((e : Nat) : Int)), (0, ((t : Nat) : Int))]) (st' := [(0, 0), (0, 0), (0, ((e : Nat) : Int)), (2, 56)]) (g' := g104) rfl ?_
            refine wp_cv (as := [(2, 56), (0, ((e : Nat) : Int)), (0, 0), (0, 0)]) (rest := []) rfl rfl rfl (Nat.le_of_ble_eq_true rfl) rfl (e_stand0 (B := 0) (us := 0) hBk he p77 (by omega) (fun u hu => absurd hu (Nat.not_lt_zero _)) hST hWB hL104 (fun u hu => absurd hu (Nat.not_lt_zero _)) (hR96.fr' hF104 (by omega)) ⟨by decide, fun d hd => ⟨fun k => absurd k (by rw [Nat.zero_div]; decide), fun ⟨u, hu, _⟩ => absurd hu (Nat.not_lt_zero _)⟩⟩) (by decide) (fun r11 h12 => ?_)
            obtain ⟨g111, rfl, hW111, hL111, hF111⟩ := h12
            have hs24 := hBk.2.2.2.2.2 e he
            obtain ⟨w1, w2, w3⟩ := hW111
            obtain ⟨k0, k01, k02⟩ := ex_way (ev := g 11) (tb := g 12) (fl := g 14) (n := (g 10 4).toNat) hsb he p77
            obtain ⟨k, w4, w6, w5, w7, w8, w9⟩ := w3.resolve_left fun q => cntW_0 q.1 k0 (by omega) k02
            have hsum := sumW_in (p := (fun k => okw (g 11) (g 12) (g 14) (g 15) (g 10 4).toNat e (wy k))) (v := (fun k => lkw P (g 3) (g 11) (g 12) (g 14) e (wy k) (g 10 4).toNat)) (fun k hk => lk_in hBk he hk) 125 (Nat.le_refl _)
            have hvk := lk_in hBk he w4
            have hk4 : ∀ c j, (c < 56 ∨ 102 < c) → g111 c j = g c j := fun c j q => by rw [hF111 c j (by omega) (by omega) (by omega) (by omega) (by omega), hk3 c j (by omega)]; exact hF c j (by omega)
            have hk56 : g111 56 2 = ((s + 2 ^ e : Nat) : Int) := by rw [hF111 56 2 (by omega) (by omega) (by omega) (by omega) (by omega), hk3 56 2 (by omega)]; exact h56
            have hk58 : ∀ j, g111 58 j = h 58 j := fun j => by rw [hF111 58 j (by omega) (by omega) (by omega) (by omega) (by omega), hk3 58 j (by omega)]
            have hk57 : ∀ j, j ≠ e → g111 57 j = g 57 j := fun j q => by rw [hF111 57 j (by omega) (by omega) (by omega) (by omega) (by omega), hk3 57 j (by omega)]; exact h57o j q
            have hk59 : ∀ j, (j < 3 * e ∨ 3 * e + 3 ≤ j) → g111 59 j = g 59 j := fun j q => by rw [hF111 59 j (by omega) (by omega) (by omega) (by omega) (by omega), hk3 59 j (by omega)]; exact h59o j q
            refine wp_eq (L' := [(2, 56), (0, ((e : Nat) : Int)), (0, ((t : Nat) : Int))]) (st' := []) (g' := g111) ?_
            refine wp_n 3 (pc' := 119) (L' := [(2, 56), (0, ((e : Nat) : Int)), (0, ((t : Nat) : Int))]) (st' := [(0, 0), (2, 60)]) (g' := g111) rfl ?_
            refine wp_iald (k := 60) (0) rfl rfl (by omega) (by omega) (by decide) ?_
            refine wp_eq (L' := [(2, 56), (0, ((e : Nat) : Int)), (0, ((t : Nat) : Int))]) (st' := [(0, (((spn (g 11) (g 12) (g 14) (e : Int) 0 (g 10 4).toNat) : Nat) : Int))]) (g' := g111) ?_ (by rfl) (by rw [hF111 60 0 (by omega) (by omega) (by omega) (by omega) (by omega), hST.1 0 (by omega)] <;> rfl) (by rfl)
            refine wp_n 3 (pc' := 125) (L' := [(2, 56), (0, ((e : Nat) : Int)), (0, ((t : Nat) : Int))]) (st' := [(0, 1), (2, 60), (0, (((spn (g 11) (g 12) (g 14) (e : Int) 0 (g 10 4).toNat) : Nat) : Int))]) (g' := g111) rfl ?_
            refine wp_iald (k := 60) (1) rfl rfl (by omega) (by omega) (by decide) ?_
            refine wp_eq (L' := [(2, 56), (0, ((e : Nat) : Int)), (0, ((t : Nat) : Int))]) (st' := [(0, (((spn (g 11) (g 12) (g 14) (e : Int) 1 (g 10 4).toNat) : Nat) : Int)), (0, (((spn (g 11) (g 12) (g 14) (e : Int) 0 (g 10 4).toNat) : Nat) : Int))]) (g' := g111) ?_ (by rfl) (by rw [hF111 60 1 (by omega) (by omega) (by omega) (by omega) (by omega), hST.1 1 (by omega)] <;> rfl) (by rfl)
            refine wp_n 4 (pc' := 132) (L' := [(2, 56), (0, ((e : Nat) : Int)), (0, ((t : Nat) : Int))]) (st' := [(0, 2), (2, 60), (0, ((((spn (g 11) (g 12) (g 14) (e : Int) 0 (g 10 4).toNat) : Nat) : Int) + (((spn (g 11) (g 12) (g 14) (e : Int) 1 (g 10 4).toNat) : Nat) : Int)))]) (g' := g111) rfl ?_
            refine wp_iald (k := 60) (2) rfl rfl (by omega) (by omega) (by decide) ?_
            refine wp_eq (L' := [(2, 56), (0, ((e : Nat) : Int)), (0, ((t : Nat) : Int))]) (st' := [(0, (((spn (g 11) (g 12) (g 14) (e : Int) 2 (g 10 4).toNat) : Nat) : Int)), (0, ((((spn (g 11) (g 12) (g 14) (e : Int) 0 (g 10 4).toNat) : Nat) : Int) + (((spn (g 11) (g 12) (g 14) (e : Int) 1 (g 10 4).toNat) : Nat) : Int)))]) (g' := g111) ?_ (by rfl) (by rw [hF111 60 2 (by omega) (by omega) (by omega) (by omega) (by omega), hST.1 2 (by omega)] <;> rfl) (by rfl)
            refine wp_n 1 (pc' := 134) (L' := [(2, 56), (0, ((e : Nat) : Int)), (0, ((t : Nat) : Int))]) (st' := [(0, (((((spn (g 11) (g 12) (g 14) (e : Int) 0 (g 10 4).toNat) : Nat) : Int) + (((spn (g 11) (g 12) (g 14) (e : Int) 1 (g 10 4).toNat) : Nat) : Int)) + (((spn (g 11) (g 12) (g 14) (e : Int) 2 (g 10 4).toNat) : Nat) : Int)))]) (g' := g111) rfl ?_
            refine wp_if_le rfl (fun c13 => ?_) (fun c13 => ?_)
            · exact wp_ret rfl rfl rfl ⟨_, rfl, hI.where hk4 hL111 (hca.set he hs hq0 hk56 hk4 hk57 (fun j q => (hk58 j).trans (h58o j q)) hk59 ⟨w1, Or.inr ⟨k, w4, w6, w7, w8, w9, Or.inl ⟨by omega, (hk58 e).trans h58⟩⟩⟩), hk4, by rw [hk56]; exact hbite, by rw [hk56]; exact hbits⟩
            · refine wp_n 10 (pc' := 157) (L' := [(2, 56), (0, ((e : Nat) : Int)), (0, ((t : Nat) : Int))]) (st' := [(2, 69), (0, 1000), (2, 67), (2, 65), (0, ((e : Nat) : Int)), (2, 58)]) (g' := g111) rfl ?_
              refine wp_cv (as := [(2, 65), (2, 67), (0, 1000), (2, 69)]) (rest := [(0, ((e : Nat) : Int)), (2, 58)]) rfl rfl rfl (Nat.le_of_ble_eq_true rfl) rfl (e_share (k := 65) (⟨rfl, rfl⟩ : IsBig b 65) (a := 67) (⟨rfl, rfl⟩ : IsBig b 67) (r := 69) (⟨rfl, rfl⟩ : IsBig b 69) w5 w2 (hL111 69 (by omega) (by omega) (by omega)) (by omega) (by omega) (by omega) (by omega) (by omega) (Int.lt_of_le_of_lt (Int.mul_le_mul_of_nonneg_right hvk.2 (by decide)) (by decide)) (Int.lt_of_le_of_lt (Int.mul_le_mul_of_nonneg_right hsum.2 (by decide)) (by decide))) (by decide) (fun r14 h15 => ?_)
              obtain ⟨g157, q157, rfl, hS157, hR157, hF157, hL157⟩ := h15
              refine wp_eq (L' := [(2, 56), (0, ((e : Nat) : Int)), (0, ((t : Nat) : Int))]) (st' := [(0, q157), (0, ((e : Nat) : Int)), (2, 58)]) (g' := g157) ?_
              refine wp_iast (k := 58) (e) rfl rfl (by omega) (by omega) (by decide) ?_
              exact wp_ret rfl rfl rfl ⟨_, rfl, hI.where (fun c j q => (up_ne (by omega)).trans ((hF157 c j (by omega) (by omega) (by omega) (by omega)).trans (hk4 c j q))) (WLs.up (fun a a1 a2 a3 => by
                  by_cases r1 : a = 65
                  · subst r1; exact hR157.L
                  · by_cases r2 : a = 69
                    · subst r2; exact hL157
                    · exact (hL111 a a1 a2 a3).frc hF157 (by omega) (by omega)) (by omega)) (hca.set he hs hq0 ((up_ne (by decide)).trans ((hF157 56 2 (by omega) (by omega) (by omega) (by omega)).trans hk56)) (fun c j q => (up_ne (by omega)).trans ((hF157 c j (by omega) (by omega) (by omega) (by omega)).trans (hk4 c j q))) (fun j q => (up_ne (by decide)).trans ((hF157 57 j (by omega) (by omega) (by omega) (by omega)).trans (hk57 j q))) (fun j q => (up_nj q).trans ((hF157 58 j (by omega) (by omega) (by omega) (by omega)).trans ((hk58 j).trans (h58o j q)))) (fun j q => (up_ne (by decide)).trans ((hF157 59 j (by omega) (by omega) (by omega) (by omega)).trans (hk59 j q))) ⟨(up_ne (by decide)).trans ((hF157 57 e (by omega) (by omega) (by omega) (by omega)).trans w1), Or.inr ⟨k, w4, w6, w7, w8, fun t ht => (up_ne (by decide)).trans ((hF157 59 _ (by omega) (by omega) (by omega) (by omega)).trans (w9 t ht)), Or.inr ⟨by omega, by rw [up_eq]; exact hS157⟩⟩⟩), fun c j q => (up_ne (by omega)).trans ((hF157 c j (by omega) (by omega) (by omega) (by omega)).trans (hk4 c j q)), by rw [up_ne (by decide), hF157 56 2 (by omega) (by omega) (by omega) (by omega), hk56]; exact hbite, by rw [up_ne (by decide), hF157 56 2 (by omega) (by omega) (by omega) (by omega), hk56]; exact hbits⟩
        · have hx11 : am_up h 59 (3 * e + t) (-1) 11 = g 11 := funext fun j => (up_ne (by decide)).trans (hF 11 j (by omega))
          have hx12 : am_up h 59 (3 * e + t) (-1) 12 = g 12 := funext fun j => (up_ne (by decide)).trans (hF 12 j (by omega))
          have hx14 : am_up h 59 (3 * e + t) (-1) 14 = g 14 := funext fun j => (up_ne (by decide)).trans (hF 14 j (by omega))
          have hx10 : am_up h 59 (3 * e + t) (-1) 10 4 = g 10 4 := (up_ne (by decide)).trans (hF 10 4 (by omega))
          refine wp_n 8 (pc' := 56) (L' := [(2, 56), (0, ((e : Nat) : Int)), (0, ((t : Nat) : Int))]) (st' := [(0, (-1)), (0, ((((e : Nat) : Int) * 3) + ((t : Nat) : Int))), (2, 59)]) (g' := h) rfl ?_
          refine wp_iast (k := 59) ((3 * e + t)) rfl rfl (by omega) (by omega) (by decide) ?_
          refine wp_n 6 (pc' := 65) (L' := [(2, 56), (0, ((e : Nat) : Int)), (0, ((t : Nat) : Int))]) (st' := [(0, ((t : Nat) : Int)), (0, ((e : Nat) : Int)), (2, 56), (0, ((t : Nat) : Int)), (2, 60)]) (g' := (am_up h 59 ((3 * e + t)) (-1))) rfl ?_
          refine wp_cv (as := [(2, 56), (0, ((e : Nat) : Int)), (0, ((t : Nat) : Int))]) (rest := [(0, ((t : Nat) : Int)), (2, 60)]) rfl rfl rfl (Nat.le_of_ble_eq_true rfl) rfl (e_spinsAt (P := P) (e := e) (t := t) (hI.rg.same fun c j a b => by rw [up_ne (by omega)]; exact hF c j (by omega)) h5 he (by omega)) (by decide) (fun r16 h17 => ?_)
          obtain rfl := h17
          refine wp_eq (L' := [(2, 56), (0, ((e : Nat) : Int)), (0, ((t : Nat) : Int))]) (st' := [(0, (((spn ((am_up h 59 ((3 * e + t)) (-1)) 11) ((am_up h 59 ((3 * e + t)) (-1)) 12) ((am_up h 59 ((3 * e + t)) (-1)) 14) (e : Int) (t : Int) ((am_up h 59 ((3 * e + t)) (-1)) 10 4).toNat) : Nat) : Int)), (0, ((t : Nat) : Int)), (2, 60)]) (g' := (am_up h 59 ((3 * e + t)) (-1))) ?_
          refine wp_eq (L' := [(2, 56), (0, ((e : Nat) : Int)), (0, ((t : Nat) : Int))]) (st' := [(0, (((spn (g 11) (g 12) (g 14) (e : Int) (t : Int) (g 10 4).toNat) : Nat) : Int)), (0, ((t : Nat) : Int)), (2, 60)]) (g' := (am_up h 59 ((3 * e + t)) (-1))) ?_ (by rfl) (by rw [hx11, hx12, hx14, hx10]) (by rfl)
          refine wp_iast (k := 60) (t) rfl rfl (by omega) (by omega) (by decide) ?_
          refine wp_n 2 (pc' := 41) (L' := [(2, 56), (0, ((e : Nat) : Int)), (0, (((t : Nat) : Int) + 1))]) (st' := []) (g' := (am_up (am_up h 59 ((3 * e + t)) (-1)) 60 t (((spn (g 11) (g 12) (g 14) (e : Int) (t : Int) (g 10 4).toNat) : Nat) : Int))) rfl ?_
          refine wp_eq (ih41 (t + 1) ((am_up (am_up h 59 ((3 * e + t)) (-1)) 60 t (((spn (g 11) (g 12) (g 14) (e : Int) (t : Int) (g 10 4).toNat) : Nat) : Int))) ?_ ?_ ?_ ?_ ?_ ?_ ?_ ?_ ?_ ?_ ?_) (by first | rfl | (simp; done) | (simp; omega)) (by rfl) (by rfl)
          · omega
          · omega
          · intro u hu
            rw [up_ne (by decide)]
            by_cases q : u = t
            · subst q; exact up_eq
            · rw [up_nj (by omega)]; exact h59 u (by omega)
          · intro u hu
            by_cases q : u = t
            · subst q; exact up_eq
            · rw [up_nj q, up_ne (by decide)]; exact h60 u (by omega)
          · rw [up_ne (by decide), up_ne (by decide)]; exact h57
          · rw [up_ne (by decide), up_ne (by decide)]; exact h58
          · rw [up_ne (by decide), up_ne (by decide)]; exact h56
          · intro c j q; rw [up_ne (by omega), up_ne (by omega)]; exact hF c j q
          · intro j q; rw [up_ne (by decide), up_ne (by decide)]; exact h57o j q
          · intro j q; rw [up_ne (by decide), up_ne (by decide)]; exact h58o j q
          · intro j q; rw [up_ne (by decide), up_nj (by omega)]; exact h59o j q
    refine wp_eq (L41 (_ + 1) (0) ((am_up (am_up (am_up g 56 2 (((s + 2 ^ e) : Nat) : Int)) 57 e 0) 58 e (-1))) (Nat.lt_succ_self _) ?_ ?_ ?_ ?_ ?_ ?_ ?_ ?_ ?_ ?_) (by first | rfl | (simp; done) | (simp; omega)) (by rfl) (by rfl)
    · exact Nat.zero_le _
    · exact fun u hu => absurd hu (Nat.not_lt_zero _)
    · exact fun u hu => absurd hu (Nat.not_lt_zero _)
    · rw [up_ne (by decide), up_eq]
    · exact up_eq
    · rw [up_ne (by decide), up_ne (by decide), up_eq]
    · intro c j q; rw [up_ne (by omega), up_ne (by omega), up_ne (by omega)]
    · intro j q; rw [up_ne (by decide), up_nj q, up_ne (by decide)]
    · intro j q; rw [up_nj q, up_ne (by decide), up_ne (by decide)]
    · intro j q; rw [up_ne (by decide), up_ne (by decide), up_ne (by decide)]
  · have hq1 : s / 2 ^ e % 2 = 1 := by omega
    exact wp_ret rfl rfl rfl ⟨_, rfl, hI, fun c j _ => rfl, by rw [hs, zb]; omega, fun d _ h0 => h0⟩
