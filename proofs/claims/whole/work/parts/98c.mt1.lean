/-! THE REFERENCE'S READER: bytes, tokens -/
def RdM (T : Nat → Int) (L : Nat) (g : am_G) : Prop := (∀ j, j < L → g 131 j = T j) ∧ g 127 5 = (L : Int) ∧ L ≤ 300 ∧ ∀ j, j < L → 0 ≤ T j ∧ T j ≤ 255
def bA (T : Nat → Int) (L a : Nat) : Int := if a < L then T a else -1
theorem bA_or {T : Nat → Int} {L a : Nat} (ha : a ≤ L) (hT : ∀ j, j < L → 0 ≤ T j ∧ T j ≤ 255) : (a < L ∧ bA T L a = T a ∧ 0 ≤ T a ∧ T a ≤ 255) ∨ (a = L ∧ bA T L a = -1) := by
  unfold bA
  by_cases h : a < L
  · rw [if_pos h]; exact Or.inl ⟨h, rfl, hT a h⟩
  · rw [if_neg h]; exact Or.inr ⟨by omega, rfl⟩
theorem bA_D {T : Nat → Int} {L q : Nat} (hq : q ≤ L) (h : ¬ (48 ≤ bA T L q ∧ bA T L q ≤ 57)) : q = dn T L q := by
  refine (dn_no ?_).symm
  by_cases e : q < L
  · refine Or.inr fun k => h ?_
    unfold bA
    rw [if_pos e]
    exact k
  · exact Or.inl (by omega)
theorem bA_Dy {T : Nat → Int} {L q : Nat} (h : 48 ≤ bA T L q ∧ bA T L q ≤ 57) : q < L ∧ isD (T q) := by
  unfold bA at h
  by_cases e : q < L
  · rw [if_pos e] at h; exact ⟨e, h⟩
  · rw [if_neg e] at h; omega
theorem bA_L {T : Nat → Int} {L q : Nat} (hq : q ≤ L) (h : ¬ (97 ≤ bA T L q ∧ bA T L q ≤ 122 ∨ 65 ≤ bA T L q ∧ bA T L q ≤ 90)) : q = ln T L q := by
  refine (ln_no ?_).symm
  by_cases e : q < L
  · refine Or.inr fun k => h ?_
    unfold bA
    rw [if_pos e]
    exact k
  · exact Or.inl (by omega)
theorem bA_Ly {T : Nat → Int} {L q : Nat} (h : 97 ≤ bA T L q ∧ bA T L q ≤ 122 ∨ 65 ≤ bA T L q ∧ bA T L q ≤ 90) : q < L ∧ isL (T q) := by
  unfold bA at h
  by_cases e : q < L
  · rw [if_pos e] at h; exact ⟨e, h⟩
  · rw [if_neg e] at h; omega
theorem bA_S {T : Nat → Int} {L q : Nat} (hq : q ≤ L) (h : ¬ (bA T L q = 32 ∨ bA T L q = 10)) : q = sk T L q := by
  refine (sk_no ?_).symm
  by_cases e : q < L
  · refine Or.inr fun k => h ?_
    unfold bA
    rw [if_pos e]
    exact k
  · exact Or.inl (by omega)
theorem bA_Sy {T : Nat → Int} {L q : Nat} (h : bA T L q = 32 ∨ bA T L q = 10) : q < L ∧ isS (T q) := by
  unfold bA at h
  by_cases e : q < L
  · rw [if_pos e] at h; exact ⟨e, h⟩
  · rw [if_neg e] at h; omega
def pkk (T : Nat → Int) (p : Nat) : Nat → Int
  | 0 => 0
  | n + 1 => pkk T p n * 256 + T (p + n)
theorem pkk_s (T : Nat → Int) (p n : Nat) : pkk T p (n + 1) = pkk T p n * 256 + T (p + n) := rfl
theorem pkk_in {T : Nat → Int} {p : Nat} : ∀ n, (∀ j, j < n → 0 ≤ T (p + j) ∧ T (p + j) ≤ 255) → 0 ≤ pkk T p n ∧ pkk T p n < 256 ^ n := by
  intro n
  induction n with
  | zero => intro _; exact ⟨Int.le_refl _, by show (0 : Int) < 256 ^ 0; decide⟩
  | succ n ih =>
    intro h
    have h1 := ih fun j hj => h j (by omega)
    have h2 := h n (by omega)
    rw [pkk_s, Int.pow_succ]
    omega
theorem pkk_inj {T S : Nat → Int} {p q : Nat} : ∀ n m, (∀ j, j < n → 1 ≤ T (p + j) ∧ T (p + j) ≤ 255) → (∀ j, j < m → 1 ≤ S (q + j) ∧ S (q + j) ≤ 255) → pkk T p n = pkk S q m → n = m ∧ ∀ j, j < n → T (p + j) = S (q + j) := by
  intro n
  induction n with
  | zero =>
    intro m _ hS h
    cases m with
    | zero => exact ⟨rfl, fun j hj => absurd hj (Nat.not_lt_zero _)⟩
    | succ m =>
      have h1 := hS m (by omega)
      have h2 := (pkk_in (T := S) (p := q) m fun j hj => by have := hS j (by omega); omega).1
      have h0 : pkk T p 0 = 0 := rfl
      rw [pkk_s, h0] at h
      omega
  | succ n ih =>
    intro m hT hS h
    cases m with
    | zero =>
      have h1 := hT n (by omega)
      have h2 := (pkk_in (T := T) (p := p) n fun j hj => by have := hT j (by omega); omega).1
      have h0 : pkk S q 0 = 0 := rfl
      rw [pkk_s, h0] at h
      omega
    | succ m =>
      have h1 := hT n (by omega)
      have h2 := hS m (by omega)
      rw [pkk_s, pkk_s] at h
      have h3 := ih m (fun j hj => hT j (by omega)) (fun j hj => hS j (by omega)) (by omega)
      refine ⟨by omega, fun j hj => ?_⟩
      by_cases e : j = n
      · have hnm := h3.1; subst hnm; subst e; omega
      · exact h3.2 j (by omega)
theorem pkk_eq {T S : Nat → Int} {p q : Nat} : ∀ n, (∀ j, j < n → T (p + j) = S (q + j)) → pkk T p n = pkk S q n := by
  intro n
  induction n with
  | zero => intro _; rfl
  | succ n ih => intro h; rw [pkk_s, pkk_s, ih fun j hj => h j (by omega), h n (by omega)]
def WD (T : Nat → Int) (p n : Nat) : Int := if n ≤ 7 then pkk T p n else 0
def sB (i j : Nat) : Int := (((am_sbyt.getD i []).getD j 0 : Nat) : Int)
def lW (i : Nat) : Int := pkk (sB i) 0 (am_slen.getD i 0)
theorem ln_pos {T : Nat → Int} {L p : Nat} (hp : p < L) (h : isL (T p)) : p < ln T L p := by
  rw [ln_go hp h]
  have := ln_in (T := T) (L - (p + 1)) (p + 1) rfl (by omega)
  omega
theorem tK_let {T : Nat → Int} {L p : Nat} (hT : ∀ j, j < L → 0 ≤ T j ∧ T j ≤ 255) (h : tK T L p = -2) : p < L ∧ isL (T p) := by
  unfold tK at h
  by_cases h1 : L ≤ p
  · rw [if_pos h1] at h; omega
  · rw [if_neg h1] at h
    by_cases h2 : isL (T p)
    · exact ⟨by omega, h2⟩
    · rw [if_neg h2] at h
      have := hT p (by omega)
      split at h
      · omega
      · split at h <;> omega
theorem wd_eq {T : Nat → Int} {L p i : Nat} (hT : ∀ j, j < L → 0 ≤ T j ∧ T j ≤ 255) (hk : tK T L p = -2) (hi : i < 17) : WD T p (tE T L p - p) = lW i ↔ tV T L p = (i : Int) := by
  obtain ⟨hp, hl⟩ := tK_let hT hk
  have hin := ln_in (T := T) (L - p) p rfl (by omega)
  have hlp := ln_pos hp hl
  have hE : tE T L p = ln T L p := by rw [tE, if_neg (by omega), if_pos hl]
  have hV : tV T L p = wdf T p (ln T L p) 17 := by rw [tV, if_pos hl]
  have hlet : ∀ j, j < ln T L p - p → 1 ≤ T (p + j) ∧ T (p + j) ≤ 255 := fun j hj => by
    have : isL (T (p + j)) := ln_at (L - p) p rfl (p + j) (by omega) (by omega)
    omega
  have hs := sb_all i hi
  have hsb : ∀ j, j < am_slen.getD i 0 → 1 ≤ sB i (0 + j) ∧ sB i (0 + j) ≤ 255 := fun j hj => by
    have := sb_byt2 i hi j hj
    rw [Nat.zero_add]
    unfold sB
    omega
  rw [hE, hV, wdf_eq hi]
  constructor
  · intro h
    unfold WD at h
    by_cases h7 : ln T L p - p ≤ 7
    · rw [if_pos h7] at h
      have h1 := pkk_inj _ _ hlet hsb h
      refine ⟨by omega, fun j hj => ?_⟩
      have h2 := h1.2 j (by omega)
      rw [Nat.zero_add] at h2
      exact h2
    · rw [if_neg h7] at h
      have h2 : lW i = 0 := h.symm
      have h3 := pkk_inj (T := T) (p := p) 0 (am_slen.getD i 0) (fun j hj => absurd hj (Nat.not_lt_zero _)) hsb h
      omega
  · intro h
    unfold WD
    rw [if_pos (by have := h.1; omega)]
    have h1 : ln T L p - p = am_slen.getD i 0 := by have := h.1; omega
    rw [h1]
    exact pkk_eq _ fun j hj => by rw [Nat.zero_add]; exact h.2 j hj
theorem wd_in {T : Nat → Int} {L p : Nat} (hT : ∀ j, j < L → 0 ≤ T j ∧ T j ≤ 255) (hk : tK T L p = -2) : 0 ≤ WD T p (tE T L p - p) ∧ WD T p (tE T L p - p) < 72057594037927936 := by
  obtain ⟨hp, hl⟩ := tK_let hT hk
  have hin := ln_in (T := T) (L - p) p rfl (by omega)
  have hE : tE T L p = ln T L p := by rw [tE, if_neg (by omega), if_pos hl]
  rw [hE]
  unfold WD
  split
  · rename_i h7
    have h1 := pkk_in (T := T) (p := p) (ln T L p - p) fun j hj => hT (p + j) (by omega)
    exact ⟨h1.1, Int.lt_of_lt_of_le h1.2 (pow_up (n := 7) (by decide) h7)⟩
  · decide
theorem lshl8 {v : Int} (h0 : 0 ≤ v) (h1 : v < 281474976710656) : (Int64.ofInt v <<< ((Int32.ofInt 8).toInt64 &&& 63)).toInt = v * 256 := by
  obtain ⟨n, rfl⟩ := Int.eq_ofNat_of_zero_le h0
  have e1 : (BitVec.ofInt 64 (n : Int)).toNat = n := by
    rw [BitVec.toNat_ofInt]
    omega
  have e2 : ((Int32.ofInt 8).toInt64 &&& 63) = 8 := by decide
  rw [e2]
  have e3 : (BitVec.ofInt 64 (n : Int) <<< 8).toNat = n * 256 := by
    rw [BitVec.toNat_shiftLeft, e1, Nat.shiftLeft_eq]
    omega
  show (BitVec.ofInt 64 (n : Int) <<< 8).toInt = _
  rw [BitVec.toInt_eq_toNat_of_lt (by rw [e3]; omega), e3]
  omega
theorem lor8 {v x : Int} (h0 : 0 ≤ v) (h1 : v < 281474976710656) (hx : 0 ≤ x ∧ x < 256) : (Int64.ofInt (v * 256) ||| Int64.ofInt x).toInt = v * 256 + x := by
  obtain ⟨n, rfl⟩ := Int.eq_ofNat_of_zero_le h0
  obtain ⟨m, rfl⟩ := Int.eq_ofNat_of_zero_le hx.1
  have e1 : (BitVec.ofInt 64 ((n : Int) * 256)).toNat = n * 256 := by
    rw [BitVec.toNat_ofInt]
    omega
  have e2 : (BitVec.ofInt 64 (m : Int)).toNat = m := by
    rw [BitVec.toNat_ofInt]
    omega
  have e3 : (BitVec.ofInt 64 ((n : Int) * 256) ||| BitVec.ofInt 64 (m : Int)).toNat = n * 256 + m := by
    rw [BitVec.toNat_or, e1, e2]
    have := Nat.two_pow_add_eq_or_of_lt (i := 8) (show m < 2 ^ 8 by omega) n
    rw [show n * 256 = 2 ^ 8 * n by omega, ← this]
  show (BitVec.ofInt 64 ((n : Int) * 256) ||| BitVec.ofInt 64 (m : Int)).toInt = _
  rw [BitVec.toInt_eq_toNat_of_lt (by rw [e3]; omega), e3]
  omega
def tkM (k : Int) : Int := if k = -1 then 0 else if k = -3 then 1 else if k = -2 then 2 else if k = -4 then 3 else k
theorem tkM_sg {k : Int} (h : 40 ≤ k) : tkM k = k := by unfold tkM; rw [if_neg (by omega), if_neg (by omega), if_neg (by omega), if_neg (by omega)]
def NmR (x v : Int) : Prop := (v ≤ 9999 ∧ x = v ∧ 0 ≤ x) ∨ (9999 < v ∧ 9999 < x ∧ x < 2000000)
/-- the reference stands at token p -/
def TkM (T : Nat → Int) (L : Nat) (h : am_G) (p : Nat) : Prop := h 127 10 = (p : Int) ∧ h 127 11 = tkM (tK T L p) ∧ h 127 9 = ((tE T L p : Nat) : Int) ∧ (tK T L p = -3 → NmR (h 127 12) (tV T L p)) ∧ (tK T L p = -2 → h 127 13 = WD T p (tE T L p - p))
def FrTm (g h : am_G) : Prop := ∀ c j, (c ≠ 127 ∨ j < 9 ∨ 13 < j) → h c j = g c j
theorem FrTm.rfl {g : am_G} : FrTm g g := fun _ _ _ => Eq.refl _
theorem FrTm.up {g h : am_G} {i : Nat} {x : Int} (h1 : FrTm g h) (hi : 9 ≤ i ∧ i ≤ 13) : FrTm g (am_up h 127 i x) := fun c j q => (up_no (by omega)).trans (h1 c j q)
theorem tkm_sg {T : Nat → Int} {L p : Nat} {h : am_G} {x : Int} (h1 : h 127 10 = (p : Int)) (h2 : h 127 11 = x) (h3 : h 127 9 = (p : Int) + 1) (hp : p ≤ L) (h0 : 0 ≤ bA T L p) (hd : ¬ (48 ≤ bA T L p ∧ bA T L p ≤ 57)) (hl : ¬ (97 ≤ bA T L p ∧ bA T L p ≤ 122 ∨ 65 ≤ bA T L p ∧ bA T L p ≤ 90)) (hx : (isG (bA T L p) ∧ x = bA T L p) ∨ (¬ isG (bA T L p) ∧ x = 3)) : TkM T L h p := by
  have hpL : p < L := by
    unfold bA at h0
    by_cases e : p < L
    · exact e
    · rw [if_neg e] at h0; omega
  have e : bA T L p = T p := by unfold bA; rw [if_pos hpL]
  rw [e] at hd hl hx h0
  have hE : tE T L p = p + 1 := by rw [tE, if_neg (by omega), if_neg hl, if_neg hd]
  have hK : tK T L p = if isG (T p) then T p else -4 := by rw [tK, if_neg (by omega), if_neg hl, if_neg hd]
  rcases hx with ⟨hg, rfl⟩ | ⟨hg, rfl⟩
  · rw [if_pos hg] at hK
    refine ⟨h1, by rw [h2, hK, tkM_sg (by omega)], by rw [h3, hE]; rfl, fun q => ?_, fun q => ?_⟩ <;> omega
  · rw [if_neg hg] at hK
    refine ⟨h1, by rw [h2, hK]; rfl, by rw [h3, hE]; rfl, fun q => ?_, fun q => ?_⟩ <;> omega
theorem RdM.tm {T : Nat → Int} {L : Nat} {g h : am_G} (hR : RdM T L g) (hF : FrTm g h) : RdM T L h := ⟨fun j hj => (hF 131 j (by omega)).trans (hR.1 j hj), (hF 127 5 (by omega)).trans hR.2.1, hR.2.2⟩
set_option maxHeartbeats 400000 in
set_option maxRecDepth 20000 in
theorem m_byteAt {sn : Nat} {sx : Nat → Int} {b : Nat} {g : am_G} {T : Nat → Int} {L a : Nat} (hR : RdM T L g) (ha : a ≤ L) : Ev sn sx 1 164 [(2, 127), (0, ((a : Nat) : Int))] (SH b) g (fun r => r = (some (0, bA T L a), SH b, g)) := by
  have hL3 := hR.2.2.1
  refine ev_of (K := 0) T164 (by decide) rfl rfl (Nat.le_of_ble_eq_true rfl) ?_
  refine wp_eq (L' := [(2, 127), (0, ((a : Nat) : Int))]) (st' := []) (g' := g) ?_
  refine wp_n 3 (pc' := 5) (L' := [(2, 127), (0, ((a : Nat) : Int))]) (st' := [(0, (g 127 5)), (0, ((a : Nat) : Int))]) (g' := g) rfl ?_
  refine wp_eq (L' := [(2, 127), (0, ((a : Nat) : Int))]) (st' := [(0, ((L : Nat) : Int)), (0, ((a : Nat) : Int))]) (g' := g) ?_ (by rfl) (by rw [hR.2.1]) (by rfl)
  refine wp_ic_ge rfl (fun c1 => ?_) (fun c1 => ?_)
  · refine wp_n 1 (pc' := 18) (L' := [(2, 127), (0, ((a : Nat) : Int))]) (st' := [(0, (-1))]) (g' := g) rfl ?_
    exact wp_ret rfl rfl rfl (by unfold bA; rw [if_neg (by omega)])
  · refine wp_n 3 (pc' := 13) (L' := [(2, 127), (0, ((a : Nat) : Int))]) (st' := [(0, ((a : Nat) : Int)), (2, 131)]) (g' := g) rfl ?_
    refine wp_iald (k := 131) (a) rfl rfl (by omega) (by omega) (by decide) ?_
    refine wp_n 1 (pc' := 18) (L' := [(2, 127), (0, ((a : Nat) : Int))]) (st' := [(0, (g 131 a))]) (g' := g) rfl ?_
    exact wp_ret rfl rfl rfl (by unfold bA; rw [if_pos (by omega), hR.1 a (by omega)])
set_option maxHeartbeats 400000 in
set_option maxRecDepth 20000 in
theorem m_w3 {sn : Nat} {sx : Nat → Int} {b : Nat} {g : am_G} {x y z : Int} (hx : 0 ≤ x ∧ x ≤ 255) (hy : 0 ≤ y ∧ y ≤ 255) (hz : 0 ≤ z ∧ z ≤ 255) : Ev sn sx 1 168 [(0, x), (0, y), (0, z)] (SH b) g (fun r => r = (some (1, (x * 256 + y) * 256 + z), SH b, g)) := by
  refine ev_of (K := 0) T168 (by decide) rfl rfl (Nat.le_of_ble_eq_true rfl) ?_
  refine wp_eq (L' := [(0, x), (0, y), (0, z)]) (st' := []) (g' := g) ?_
  refine wp_n 1 (pc' := 1) (L' := [(0, x), (0, y), (0, z)]) (st' := [(0, x)]) (g' := g) rfl ?_
  refine wp_i2l rfl (by omega) ?_
  refine wp_n 2 (pc' := 5) (L' := [(0, x), (0, y), (0, z)]) (st' := [(1, (Int64.ofInt x <<< ((Int32.ofInt 8).toInt64 &&& 63)).toInt)]) (g' := g) rfl ?_
  refine wp_eq (L' := [(0, x), (0, y), (0, z)]) (st' := [(1, (x * 256))]) (g' := g) ?_ (by rfl) (by rw [lshl8 (by omega) (by omega)]) (by rfl)
  refine wp_n 1 (pc' := 6) (L' := [(0, x), (0, y), (0, z)]) (st' := [(0, y), (1, (x * 256))]) (g' := g) rfl ?_
  refine wp_i2l rfl (by omega) ?_
  refine wp_n 1 (pc' := 8) (L' := [(0, x), (0, y), (0, z)]) (st' := [(1, (Int64.ofInt (x * 256) ||| Int64.ofInt y).toInt)]) (g' := g) rfl ?_
  refine wp_eq (L' := [(0, x), (0, y), (0, z)]) (st' := [(1, (x * 256 + y))]) (g' := g) ?_ (by rfl) (by rw [lor8 (by omega) (by omega) (by omega)]) (by rfl)
  refine wp_n 2 (pc' := 11) (L' := [(0, x), (0, y), (0, z)]) (st' := [(1, (Int64.ofInt (x * 256 + y) <<< ((Int32.ofInt 8).toInt64 &&& 63)).toInt)]) (g' := g) rfl ?_
  refine wp_eq (L' := [(0, x), (0, y), (0, z)]) (st' := [(1, ((x * 256 + y) * 256))]) (g' := g) ?_ (by rfl) (by rw [lshl8 (by omega) (by omega)]) (by rfl)
  refine wp_n 1 (pc' := 12) (L' := [(0, x), (0, y), (0, z)]) (st' := [(0, z), (1, ((x * 256 + y) * 256))]) (g' := g) rfl ?_
  refine wp_i2l rfl (by omega) ?_
  refine wp_n 1 (pc' := 14) (L' := [(0, x), (0, y), (0, z)]) (st' := [(1, (Int64.ofInt ((x * 256 + y) * 256) ||| Int64.ofInt z).toInt)]) (g' := g) rfl ?_
  refine wp_eq (L' := [(0, x), (0, y), (0, z)]) (st' := [(1, ((x * 256 + y) * 256 + z))]) (g' := g) ?_ (by rfl) (by rw [lor8 (by omega) (by omega) (by omega)]) (by rfl)
  exact wp_ret rfl rfl rfl rfl
set_option maxHeartbeats 400000 in
set_option maxRecDepth 20000 in
theorem m_w4 {sn : Nat} {sx : Nat → Int} {b : Nat} {g : am_G} {x y z u : Int} (hx : 0 ≤ x ∧ x ≤ 255) (hy : 0 ≤ y ∧ y ≤ 255) (hz : 0 ≤ z ∧ z ≤ 255) (hu : 0 ≤ u ∧ u ≤ 255) : Ev sn sx 2 170 [(0, x), (0, y), (0, z), (0, u)] (SH b) g (fun r => r = (some (1, ((x * 256 + y) * 256 + z) * 256 + u), SH b, g)) := by
  refine ev_of (K := 1) T170 (by decide) rfl rfl (Nat.le_of_ble_eq_true rfl) ?_
  refine wp_eq (L' := [(0, x), (0, y), (0, z), (0, u)]) (st' := []) (g' := g) ?_
  refine wp_n 3 (pc' := 3) (L' := [(0, x), (0, y), (0, z), (0, u)]) (st' := [(0, z), (0, y), (0, x)]) (g' := g) rfl ?_
  refine wp_cs (as := [(0, x), (0, y), (0, z)]) (rest := []) rfl (by decide) rfl (Nat.le_of_ble_eq_true rfl) (m_w3 (by omega) (by omega) (by omega)) (by decide) (fun r1 h2 => ?_)
  obtain rfl := h2
  refine wp_eq (L' := [(0, x), (0, y), (0, z), (0, u)]) (st' := [(1, ((x * 256 + y) * 256 + z))]) (g' := g) ?_
  refine wp_n 2 (pc' := 9) (L' := [(0, x), (0, y), (0, z), (0, u)]) (st' := [(1, (Int64.ofInt ((x * 256 + y) * 256 + z) <<< ((Int32.ofInt 8).toInt64 &&& 63)).toInt)]) (g' := g) rfl ?_
  refine wp_eq (L' := [(0, x), (0, y), (0, z), (0, u)]) (st' := [(1, (((x * 256 + y) * 256 + z) * 256))]) (g' := g) ?_ (by rfl) (by rw [lshl8 (by omega) (by omega)]) (by rfl)
  refine wp_n 1 (pc' := 10) (L' := [(0, x), (0, y), (0, z), (0, u)]) (st' := [(0, u), (1, (((x * 256 + y) * 256 + z) * 256))]) (g' := g) rfl ?_
  refine wp_i2l rfl (by omega) ?_
  refine wp_n 1 (pc' := 12) (L' := [(0, x), (0, y), (0, z), (0, u)]) (st' := [(1, (Int64.ofInt (((x * 256 + y) * 256 + z) * 256) ||| Int64.ofInt u).toInt)]) (g' := g) rfl ?_
  refine wp_eq (L' := [(0, x), (0, y), (0, z), (0, u)]) (st' := [(1, (((x * 256 + y) * 256 + z) * 256 + u))]) (g' := g) ?_ (by rfl) (by rw [lor8 (by omega) (by omega) (by omega)]) (by rfl)
  exact wp_ret rfl rfl rfl rfl
set_option maxHeartbeats 400000 in
set_option maxRecDepth 20000 in
theorem m_w5 {sn : Nat} {sx : Nat → Int} {b : Nat} {g : am_G} {x y z u v : Int} (hx : 0 ≤ x ∧ x ≤ 255) (hy : 0 ≤ y ∧ y ≤ 255) (hz : 0 ≤ z ∧ z ≤ 255) (hu : 0 ≤ u ∧ u ≤ 255) (hv : 0 ≤ v ∧ v ≤ 255) : Ev sn sx 2 169 [(0, x), (0, y), (0, z), (0, u), (0, v)] (SH b) g (fun r => r = (some (1, (((x * 256 + y) * 256 + z) * 256 + u) * 256 + v), SH b, g)) := by
  refine ev_of (K := 1) T169 (by decide) rfl rfl (Nat.le_of_ble_eq_true rfl) ?_
  refine wp_eq (L' := [(0, x), (0, y), (0, z), (0, u), (0, v)]) (st' := []) (g' := g) ?_
  refine wp_n 3 (pc' := 3) (L' := [(0, x), (0, y), (0, z), (0, u), (0, v)]) (st' := [(0, z), (0, y), (0, x)]) (g' := g) rfl ?_
  refine wp_cs (as := [(0, x), (0, y), (0, z)]) (rest := []) rfl (by decide) rfl (Nat.le_of_ble_eq_true rfl) (m_w3 (by omega) (by omega) (by omega)) (by decide) (fun r1 h2 => ?_)
  obtain rfl := h2
  refine wp_eq (L' := [(0, x), (0, y), (0, z), (0, u), (0, v)]) (st' := [(1, ((x * 256 + y) * 256 + z))]) (g' := g) ?_
  refine wp_n 2 (pc' := 9) (L' := [(0, x), (0, y), (0, z), (0, u), (0, v)]) (st' := [(1, (Int64.ofInt ((x * 256 + y) * 256 + z) <<< ((Int32.ofInt 8).toInt64 &&& 63)).toInt)]) (g' := g) rfl ?_
  refine wp_eq (L' := [(0, x), (0, y), (0, z), (0, u), (0, v)]) (st' := [(1, (((x * 256 + y) * 256 + z) * 256))]) (g' := g) ?_ (by rfl) (by rw [lshl8 (by omega) (by omega)]) (by rfl)
  refine wp_n 1 (pc' := 10) (L' := [(0, x), (0, y), (0, z), (0, u), (0, v)]) (st' := [(0, u), (1, (((x * 256 + y) * 256 + z) * 256))]) (g' := g) rfl ?_
  refine wp_i2l rfl (by omega) ?_
  refine wp_n 1 (pc' := 12) (L' := [(0, x), (0, y), (0, z), (0, u), (0, v)]) (st' := [(1, (Int64.ofInt (((x * 256 + y) * 256 + z) * 256) ||| Int64.ofInt u).toInt)]) (g' := g) rfl ?_
  refine wp_eq (L' := [(0, x), (0, y), (0, z), (0, u), (0, v)]) (st' := [(1, (((x * 256 + y) * 256 + z) * 256 + u))]) (g' := g) ?_ (by rfl) (by rw [lor8 (by omega) (by omega) (by omega)]) (by rfl)
  refine wp_n 2 (pc' := 15) (L' := [(0, x), (0, y), (0, z), (0, u), (0, v)]) (st' := [(1, (Int64.ofInt (((x * 256 + y) * 256 + z) * 256 + u) <<< ((Int32.ofInt 8).toInt64 &&& 63)).toInt)]) (g' := g) rfl ?_
  refine wp_eq (L' := [(0, x), (0, y), (0, z), (0, u), (0, v)]) (st' := [(1, ((((x * 256 + y) * 256 + z) * 256 + u) * 256))]) (g' := g) ?_ (by rfl) (by rw [lshl8 (by omega) (by omega)]) (by rfl)
  refine wp_n 1 (pc' := 17) (L' := [(0, x), (0, y), (0, z), (0, u), (0, v)]) (st' := [(0, v), (1, ((((x * 256 + y) * 256 + z) * 256 + u) * 256))]) (g' := g) rfl ?_
  refine wp_i2l rfl (by omega) ?_
  refine wp_n 1 (pc' := 19) (L' := [(0, x), (0, y), (0, z), (0, u), (0, v)]) (st' := [(1, (Int64.ofInt ((((x * 256 + y) * 256 + z) * 256 + u) * 256) ||| Int64.ofInt v).toInt)]) (g' := g) rfl ?_
  refine wp_eq (L' := [(0, x), (0, y), (0, z), (0, u), (0, v)]) (st' := [(1, ((((x * 256 + y) * 256 + z) * 256 + u) * 256 + v))]) (g' := g) ?_ (by rfl) (by rw [lor8 (by omega) (by omega) (by omega)]) (by rfl)
  exact wp_ret rfl rfl rfl rfl
set_option maxHeartbeats 400000 in
set_option maxRecDepth 20000 in
theorem m_nextToken {sn : Nat} {sx : Nat → Int} {b : Nat} {g : am_G} {T : Nat → Int} {L a : Nat} (hR : RdM T L g) (h9 : g 127 9 = (a : Int)) (ha : a ≤ L) : Ev sn sx 3 167 [(2, 127)] (SH b) g (fun r => ∃ g', r = (none, SH b, g') ∧ TkM T L g' (sk T L a) ∧ FrTm g g') := by
  have hTb := hR.2.2.2
  have hL3 := hR.2.2.1
  refine ev_of (K := 2) T167 (by decide) rfl rfl (Nat.le_of_ble_eq_true rfl) ?_
  refine wp_eq (L' := [(2, 127), (9, 0), (9, 0)]) (st' := []) (g' := g) ?_
  have L0 : ∀ (lf : Nat) (p : Nat) (h : am_G), L - p < lf → (p ≤ L) → (h 127 9 = (p : Int)) → (sk T L p = sk T L a) → (FrTm g h) → Wp sn sx 2 T167 0 [(2, 127), (9, 0), (9, 0)] [] (SH b) h (fun r => ∃ g', r = (none, SH b, g') ∧ TkM T L g' (sk T L a) ∧ FrTm g g') := by
    intro lf
    induction lf with
    | zero => intro p h hlf; exact absurd hlf (Nat.not_lt_zero _)
    | succ lf ih0 =>
      intro p h hlf hp h9p hs hFh
      have hRx := hR.tm hFh
      have hba := bA_or (a := p) hp hTb
      refine wp_n 3 (pc' := 5) (L' := [(2, 127), (9, 0), (9, 0)]) (st' := [(0, (h 127 9)), (2, 127)]) (g' := h) rfl ?_
      refine wp_eq (L' := [(2, 127), (9, 0), (9, 0)]) (st' := [(0, ((p : Nat) : Int)), (2, 127)]) (g' := h) ?_ (by rfl) (by rw [h9p]) (by rfl)
      refine wp_cv (as := [(2, 127), (0, ((p : Nat) : Int))]) (rest := []) rfl rfl rfl (Nat.le_of_ble_eq_true rfl) rfl (m_byteAt (T := T) (L := L) (a := p) hRx (by omega)) (by decide) (fun r1 h2 => ?_)
      obtain rfl := h2
      refine wp_eq (L' := [(2, 127), (9, 0), (9, 0)]) (st' := [(0, (bA T L p))]) (g' := h) ?_
      refine wp_n 1 (pc' := 10) (L' := [(2, 127), (9, 0), (9, 0)]) (st' := [(0, 32), (0, (bA T L p))]) (g' := h) rfl ?_
      refine wp_ic_eq rfl (fun c3 => ?_) (fun c3 => ?_)
      · refine wp_n 3 (pc' := 31) (L' := [(2, 127), (9, 0), (9, 0)]) (st' := [(0, (h 127 9)), (2, 127)]) (g' := h) rfl ?_
        refine wp_eq (L' := [(2, 127), (9, 0), (9, 0)]) (st' := [(0, ((p : Nat) : Int)), (2, 127)]) (g' := h) ?_ (by rfl) (by rw [h9p]) (by rfl)
        refine wp_n 4 (pc' := 0) (L' := [(2, 127), (9, 0), (9, 0)]) (st' := []) (g' := (am_up h 127 9 (((p : Nat) : Int) + 1))) rfl ?_
        refine wp_eq (ih0 (p + 1) ((am_up h 127 9 (((p : Nat) : Int) + 1))) ?_ ?_ ?_ ?_ ?_) (by first | rfl | (simp; done) | (simp; omega)) (by rfl) (by rfl)
        · omega
        · omega
        · exact up_eq
        · have hy := bA_Sy (T := T) (L := L) (q := p) (by omega)
          rw [← sk_go hy.1 hy.2]; exact hs
        · exact hFh.up (by decide)
      · refine wp_n 3 (pc' := 18) (L' := [(2, 127), (9, 0), (9, 0)]) (st' := [(0, (h 127 9)), (2, 127)]) (g' := h) rfl ?_
        refine wp_eq (L' := [(2, 127), (9, 0), (9, 0)]) (st' := [(0, ((p : Nat) : Int)), (2, 127)]) (g' := h) ?_ (by rfl) (by rw [h9p]) (by rfl)
        refine wp_cv (as := [(2, 127), (0, ((p : Nat) : Int))]) (rest := []) rfl rfl rfl (Nat.le_of_ble_eq_true rfl) rfl (m_byteAt (T := T) (L := L) (a := p) hRx (by omega)) (by decide) (fun r4 h5 => ?_)
        obtain rfl := h5
        refine wp_eq (L' := [(2, 127), (9, 0), (9, 0)]) (st' := [(0, (bA T L p))]) (g' := h) ?_
        refine wp_n 1 (pc' := 23) (L' := [(2, 127), (9, 0), (9, 0)]) (st' := [(0, 10), (0, (bA T L p))]) (g' := h) rfl ?_
        refine wp_ic_ne rfl (fun c6 => ?_) (fun c6 => ?_)
        · have hsp : p = sk T L a := by rw [← hs]; exact bA_S hp (by omega)
          refine wp_n 3 (pc' := 44) (L' := [(2, 127), (9, 0), (9, 0)]) (st' := [(0, (h 127 9)), (2, 127)]) (g' := h) rfl ?_
          refine wp_eq (L' := [(2, 127), (9, 0), (9, 0)]) (st' := [(0, ((p : Nat) : Int)), (2, 127)]) (g' := h) ?_ (by rfl) (by rw [h9p]) (by rfl)
          refine wp_n 4 (pc' := 52) (L' := [(2, 127), (9, 0), (9, 0)]) (st' := [(0, (h 127 9)), (2, 127)]) (g' := (am_up h 127 10 ((p : Nat) : Int))) rfl ?_
          refine wp_eq (L' := [(2, 127), (9, 0), (9, 0)]) (st' := [(0, ((p : Nat) : Int)), (2, 127)]) (g' := (am_up h 127 10 ((p : Nat) : Int))) ?_ (by rfl) (by first | rw [h9p] | rw [up_nj (by decide), h9p]) (by rfl)
          refine wp_cv (as := [(2, 127), (0, ((p : Nat) : Int))]) (rest := []) rfl rfl rfl (Nat.le_of_ble_eq_true rfl) rfl (m_byteAt (T := T) (L := L) (a := p) (hR.tm (hFh.up (i := 10) (x := ((p : Nat) : Int)) (by decide))) (by omega)) (by decide) (fun r7 h8 => ?_)
          obtain rfl := h8
          refine wp_eq (L' := [(2, 127), (9, 0), (9, 0)]) (st' := [(0, (bA T L p))]) (g' := (am_up h 127 10 ((p : Nat) : Int))) ?_
          refine wp_n 2 (pc' := 57) (L' := [(2, 127), (0, (bA T L p)), (9, 0)]) (st' := [(0, (bA T L p))]) (g' := (am_up h 127 10 ((p : Nat) : Int))) rfl ?_
          refine wp_if_ge rfl (fun c9 => ?_) (fun c9 => ?_)
          · refine wp_n 1 (pc' := 69) (L' := [(2, 127), (0, (bA T L p)), (9, 0)]) (st' := [(0, (bA T L p))]) (g' := (am_up h 127 10 ((p : Nat) : Int))) rfl ?_
            refine wp_cs (as := [(0, (bA T L p))]) (rest := []) rfl (by decide) rfl (Nat.le_of_ble_eq_true rfl) (e_MisDigit (by omega)) (by decide) (fun r10 h11 => ?_)
            rcases h11 with ⟨rfl, p69⟩ | ⟨rfl, p69⟩
            · have hy69 := bA_Dy p69
              refine wp_eq (L' := [(2, 127), (0, (bA T L p)), (9, 0)]) (st' := [(0, 1)]) (g' := (am_up h 127 10 ((p : Nat) : Int))) ?_
              refine wp_n 7 (pc' := 85) (L' := [(2, 127), (0, (bA T L p)), (9, 0)]) (st' := []) (g' := (am_up (am_up (am_up h 127 10 ((p : Nat) : Int)) 127 11 1) 127 12 0)) rfl ?_
              have L85 : ∀ (lf : Nat) (q : Nat) (kd : am_G), L - q < lf → (q ≤ L) → (p ≤ q) → (kd 127 9 = (q : Int)) → (kd 127 10 = (p : Int)) → (kd 127 11 = 1) → (dn T L q = dn T L p) → (FrTm g kd) → ((kd 127 12 ≤ 9999 ∧ nmv T p (q - p) = kd 127 12 ∧ 0 ≤ kd 127 12) ∨ (10000 ≤ kd 127 12 ∧ kd 127 12 < 1000010 ∧ nmv T p (q - p) = 10000)) → Wp sn sx 2 T167 85 [(2, 127), (0, (bA T L p)), (9, 0)] [] (SH b) kd (fun r => ∃ g', r = (none, SH b, g') ∧ TkM T L g' (sk T L a) ∧ FrTm g g') := by
                intro lf
                induction lf with
                | zero => intro q kd hlf; exact absurd hlf (Nat.not_lt_zero _)
                | succ lf ih85 =>
                  intro q kd hlf hq hpq h9k h10 h11 hlq hFk hN
                  have hRk := hR.tm hFk
                  have hbq := bA_or (a := q) hq hTb
                  refine wp_n 3 (pc' := 90) (L' := [(2, 127), (0, (bA T L p)), (9, 0)]) (st' := [(0, (kd 127 9)), (2, 127)]) (g' := kd) rfl ?_
                  refine wp_eq (L' := [(2, 127), (0, (bA T L p)), (9, 0)]) (st' := [(0, ((q : Nat) : Int)), (2, 127)]) (g' := kd) ?_ (by rfl) (by rw [h9k]) (by rfl)
                  refine wp_cv (as := [(2, 127), (0, ((q : Nat) : Int))]) (rest := []) rfl rfl rfl (Nat.le_of_ble_eq_true rfl) rfl (m_byteAt (T := T) (L := L) (a := q) hRk (by omega)) (by decide) (fun r12 h13 => ?_)
                  obtain rfl := h13
                  refine wp_eq (L' := [(2, 127), (0, (bA T L p)), (9, 0)]) (st' := [(0, (bA T L q))]) (g' := kd) ?_
                  refine wp_cs (as := [(0, (bA T L q))]) (rest := []) rfl (by decide) rfl (Nat.le_of_ble_eq_true rfl) (e_MisDigit (by omega)) (by decide) (fun r14 h15 => ?_)
                  rcases h15 with ⟨rfl, p93⟩ | ⟨rfl, p93⟩
                  · have hy93 := bA_Dy p93
                    refine wp_eq (L' := [(2, 127), (0, (bA T L p)), (9, 0)]) (st' := [(0, 1)]) (g' := kd) ?_
                    refine wp_n 4 (pc' := 105) (L' := [(2, 127), (0, (bA T L p)), (9, 0)]) (st' := [(0, 100000), (0, (kd 127 12))]) (g' := kd) rfl ?_
                    refine wp_ic_ge rfl (fun c16 => ?_) (fun c16 => ?_)
                    · refine wp_n 3 (pc' := 136) (L' := [(2, 127), (0, (bA T L p)), (9, 0)]) (st' := [(0, (kd 127 9)), (2, 127)]) (g' := kd) rfl ?_
                      refine wp_eq (L' := [(2, 127), (0, (bA T L p)), (9, 0)]) (st' := [(0, ((q : Nat) : Int)), (2, 127)]) (g' := kd) ?_ (by rfl) (by first | rw [up_nj (by decide), h9k] | rw [h9k]) (by rfl)
                      refine wp_n 4 (pc' := 85) (L' := [(2, 127), (0, (bA T L p)), (9, 0)]) (st' := []) (g' := (am_up kd 127 9 (((q : Nat) : Int) + 1))) rfl ?_
                      refine wp_eq (ih85 (q + 1) ((am_up kd 127 9 (((q : Nat) : Int) + 1))) ?_ ?_ ?_ ?_ ?_ ?_ ?_ ?_ ?_) (by first | rfl | (simp; done) | (simp; omega)) (by rfl) (by rfl)
                      · omega
                      · omega
                      · omega
                      · exact up_eq
                      · first | (rw [up_nj (by decide), up_nj (by decide)]; exact h10) | (rw [up_nj (by decide)]; exact h10)
                      · first | (rw [up_nj (by decide), up_nj (by decide)]; exact h11) | (rw [up_nj (by decide)]; exact h11)
                      · rw [← dn_go hy93.1 hy93.2]; exact hlq
                      · first | exact (hFk.up (by decide)).up (by decide) | exact hFk.up (by decide)
                      · rw [show q + 1 - p = (q - p) + 1 by omega, nmv_s, show p + (q - p) = q by omega]
                        first
                        | (rw [up_nj (by decide), up_eq]; split <;> omega)
                        | (rw [up_nj (by decide)]; split <;> omega)
                    · refine wp_n 8 (pc' := 121) (L' := [(2, 127), (0, (bA T L p)), (9, 0)]) (st' := [(0, (kd 127 9)), (2, 127), (0, (10 * (kd 127 12))), (2, 127)]) (g' := kd) rfl ?_
                      refine wp_eq (L' := [(2, 127), (0, (bA T L p)), (9, 0)]) (st' := [(0, ((q : Nat) : Int)), (2, 127), (0, (10 * (kd 127 12))), (2, 127)]) (g' := kd) ?_ (by rfl) (by rw [h9k]) (by rfl)
                      refine wp_cv (as := [(2, 127), (0, ((q : Nat) : Int))]) (rest := [(0, (10 * (kd 127 12))), (2, 127)]) rfl rfl rfl (Nat.le_of_ble_eq_true rfl) rfl (m_byteAt (T := T) (L := L) (a := q) hRk (by omega)) (by decide) (fun r17 h18 => ?_)
                      obtain rfl := h18
                      refine wp_eq (L' := [(2, 127), (0, (bA T L p)), (9, 0)]) (st' := [(0, (bA T L q)), (0, (10 * (kd 127 12))), (2, 127)]) (g' := kd) ?_
                      refine wp_n 7 (pc' := 136) (L' := [(2, 127), (0, (bA T L p)), (9, 0)]) (st' := [(0, (kd 127 9)), (2, 127)]) (g' := (am_up kd 127 12 (((10 * (kd 127 12)) + (bA T L q)) - 48))) rfl ?_
                      refine wp_eq (L' := [(2, 127), (0, (bA T L p)), (9, 0)]) (st' := [(0, ((q : Nat) : Int)), (2, 127)]) (g' := (am_up kd 127 12 (((10 * (kd 127 12)) + (bA T L q)) - 48))) ?_ (by rfl) (by first | rw [up_nj (by decide), h9k] | rw [h9k]) (by rfl)
                      refine wp_n 4 (pc' := 85) (L' := [(2, 127), (0, (bA T L p)), (9, 0)]) (st' := []) (g' := (am_up (am_up kd 127 12 (((10 * (kd 127 12)) + (bA T L q)) - 48)) 127 9 (((q : Nat) : Int) + 1))) rfl ?_
                      refine wp_eq (ih85 (q + 1) ((am_up (am_up kd 127 12 (((10 * (kd 127 12)) + (bA T L q)) - 48)) 127 9 (((q : Nat) : Int) + 1))) ?_ ?_ ?_ ?_ ?_ ?_ ?_ ?_ ?_) (by first | rfl | (simp; done) | (simp; omega)) (by rfl) (by rfl)
                      · omega
                      · omega
                      · omega
                      · exact up_eq
                      · first | (rw [up_nj (by decide), up_nj (by decide)]; exact h10) | (rw [up_nj (by decide)]; exact h10)
                      · first | (rw [up_nj (by decide), up_nj (by decide)]; exact h11) | (rw [up_nj (by decide)]; exact h11)
                      · rw [← dn_go hy93.1 hy93.2]; exact hlq
                      · first | exact (hFk.up (by decide)).up (by decide) | exact hFk.up (by decide)
                      · rw [show q + 1 - p = (q - p) + 1 by omega, nmv_s, show p + (q - p) = q by omega]
                        first
                        | (rw [up_nj (by decide), up_eq]; split <;> omega)
                        | (rw [up_nj (by decide)]; split <;> omega)
                  · have hqe : q = dn T L p := by rw [← hlq]; exact bA_D hq p93
                    refine wp_eq (L' := [(2, 127), (0, (bA T L p)), (9, 0)]) (st' := [(0, 0)]) (g' := kd) ?_
                    refine wp_n 1 (pc' := 322) (L' := [(2, 127), (0, (bA T L p)), (9, 0)]) (st' := []) (g' := kd) rfl ?_
                    exact wp_ret rfl rfl rfl ⟨_, rfl, by rw [← hsp]; exact ⟨h10, by rw [h11, tK, if_neg (by omega), if_neg (by omega), if_pos hy69.2]; rfl, by rw [h9k, tE, if_neg (by omega), if_neg (by omega), if_pos hy69.2, hqe], fun _ => by rw [tV, if_neg (by omega), ← hqe]; unfold NmR; omega, fun q => by rw [tK, if_neg (by omega), if_neg (by omega), if_pos hy69.2] at q; omega⟩, hFk⟩
              refine wp_eq (L85 (_ + 1) (p) ((am_up (am_up (am_up h 127 10 ((p : Nat) : Int)) 127 11 1) 127 12 0)) (Nat.lt_succ_self _) ?_ ?_ ?_ ?_ ?_ ?_ ?_ ?_) (by first | rfl | (simp; done) | (simp; omega)) (by rfl) (by rfl)
              · exact hp
              · exact Nat.le_refl _
              · rw [up_nj (by decide), up_nj (by decide), up_nj (by decide)]; exact h9p
              · rw [up_nj (by decide), up_nj (by decide), up_eq]
              · rw [up_nj (by decide), up_eq]
              · rfl
              · exact ((hFh.up (by decide)).up (by decide)).up (by decide)
              · rw [Nat.sub_self, up_eq]; exact Or.inl ⟨by decide, rfl, by decide⟩
            · refine wp_eq (L' := [(2, 127), (0, (bA T L p)), (9, 0)]) (st' := [(0, 0)]) (g' := (am_up h 127 10 ((p : Nat) : Int))) ?_
              refine wp_n 2 (pc' := 145) (L' := [(2, 127), (0, (bA T L p)), (9, 0)]) (st' := [(0, (bA T L p))]) (g' := (am_up h 127 10 ((p : Nat) : Int))) rfl ?_
              refine wp_cs (as := [(0, (bA T L p))]) (rest := []) rfl (by decide) rfl (Nat.le_of_ble_eq_true rfl) (e_MisLetter (by omega)) (by decide) (fun r19 h20 => ?_)
              rcases h20 with ⟨rfl, p145⟩ | ⟨rfl, p145⟩
              · have hy145 := bA_Ly p145
                refine wp_eq (L' := [(2, 127), (0, (bA T L p)), (9, 0)]) (st' := [(0, 1)]) (g' := (am_up h 127 10 ((p : Nat) : Int))) ?_
                refine wp_n 7 (pc' := 161) (L' := [(2, 127), (0, (bA T L p)), (9, 0)]) (st' := []) (g' := (am_up (am_up (am_up h 127 10 ((p : Nat) : Int)) 127 11 2) 127 13 0)) rfl ?_
                have L161 : ∀ (lf : Nat) (q : Nat) (kl : am_G), L - q < lf → (q ≤ L) → (p ≤ q) → (kl 127 9 = (q : Int)) → (kl 127 10 = (p : Int)) → (kl 127 11 = 2) → (ln T L q = ln T L p) → (FrTm g kl) → (kl 127 13 = pkk T p (min (q - p) 7)) → (∀ j, p ≤ j → j < q → isL (T j)) → Wp sn sx 2 T167 161 [(2, 127), (0, (bA T L p)), (9, 0)] [] (SH b) kl (fun r => ∃ g', r = (none, SH b, g') ∧ TkM T L g' (sk T L a) ∧ FrTm g g') := by
                  intro lf
                  induction lf with
                  | zero => intro q kl hlf; exact absurd hlf (Nat.not_lt_zero _)
                  | succ lf ih161 =>
                    intro q kl hlf hq hpq h9k h10 h11 hlq hFk hWd hD
                    have hRk := hR.tm hFk
                    have hbq := bA_or (a := q) hq hTb
                    refine wp_n 3 (pc' := 166) (L' := [(2, 127), (0, (bA T L p)), (9, 0)]) (st' := [(0, (kl 127 9)), (2, 127)]) (g' := kl) rfl ?_
                    refine wp_eq (L' := [(2, 127), (0, (bA T L p)), (9, 0)]) (st' := [(0, ((q : Nat) : Int)), (2, 127)]) (g' := kl) ?_ (by rfl) (by rw [h9k]) (by rfl)
                    refine wp_cv (as := [(2, 127), (0, ((q : Nat) : Int))]) (rest := []) rfl rfl rfl (Nat.le_of_ble_eq_true rfl) rfl (m_byteAt (T := T) (L := L) (a := q) hRk (by omega)) (by decide) (fun r21 h22 => ?_)
                    obtain rfl := h22
                    refine wp_eq (L' := [(2, 127), (0, (bA T L p)), (9, 0)]) (st' := [(0, (bA T L q))]) (g' := kl) ?_
                    refine wp_cs (as := [(0, (bA T L q))]) (rest := []) rfl (by decide) rfl (Nat.le_of_ble_eq_true rfl) (e_MisLetter (by omega)) (by decide) (fun r23 h24 => ?_)
                    rcases h24 with ⟨rfl, p169⟩ | ⟨rfl, p169⟩
                    · have hy169 := bA_Ly p169
                      refine wp_eq (L' := [(2, 127), (0, (bA T L p)), (9, 0)]) (st' := [(0, 1)]) (g' := kl) ?_
                      refine wp_n 3 (pc' := 179) (L' := [(2, 127), (0, (bA T L p)), (9, 0)]) (st' := [(0, (kl 127 9))]) (g' := kl) rfl ?_
                      refine wp_eq (L' := [(2, 127), (0, (bA T L p)), (9, 0)]) (st' := [(0, ((q : Nat) : Int))]) (g' := kl) ?_ (by rfl) (by rw [h9k]) (by rfl)
                      refine wp_n 2 (pc' := 183) (L' := [(2, 127), (0, (bA T L p)), (9, 0)]) (st' := [(0, (kl 127 10)), (0, ((q : Nat) : Int))]) (g' := kl) rfl ?_
                      refine wp_eq (L' := [(2, 127), (0, (bA T L p)), (9, 0)]) (st' := [(0, ((p : Nat) : Int)), (0, ((q : Nat) : Int))]) (g' := kl) ?_ (by rfl) (by rw [h10]) (by rfl)
                      refine wp_n 2 (pc' := 186) (L' := [(2, 127), (0, (bA T L p)), (9, 0)]) (st' := [(0, 7), (0, (((q : Nat) : Int) - ((p : Nat) : Int)))]) (g' := kl) rfl ?_
                      refine wp_ic_ge rfl (fun c25 => ?_) (fun c25 => ?_)
                      · refine wp_n 3 (pc' := 215) (L' := [(2, 127), (0, (bA T L p)), (9, 0)]) (st' := [(0, (kl 127 9)), (2, 127)]) (g' := kl) rfl ?_
                        refine wp_eq (L' := [(2, 127), (0, (bA T L p)), (9, 0)]) (st' := [(0, ((q : Nat) : Int)), (2, 127)]) (g' := kl) ?_ (by rfl) (by first | rw [up_nj (by decide), h9k] | rw [h9k]) (by rfl)
                        refine wp_n 4 (pc' := 161) (L' := [(2, 127), (0, (bA T L p)), (9, 0)]) (st' := []) (g' := (am_up kl 127 9 (((q : Nat) : Int) + 1))) rfl ?_
                        refine wp_eq (ih161 (q + 1) ((am_up kl 127 9 (((q : Nat) : Int) + 1))) ?_ ?_ ?_ ?_ ?_ ?_ ?_ ?_ ?_ ?_) (by first | rfl | (simp; done) | (simp; omega)) (by rfl) (by rfl)
                        · omega
                        · omega
                        · omega
                        · exact up_eq
                        · first | (rw [up_nj (by decide), up_nj (by decide)]; exact h10) | (rw [up_nj (by decide)]; exact h10)
                        · first | (rw [up_nj (by decide), up_nj (by decide)]; exact h11) | (rw [up_nj (by decide)]; exact h11)
                        · rw [← ln_go hy169.1 hy169.2]; exact hlq
                        · first | exact (hFk.up (by decide)).up (by decide) | exact hFk.up (by decide)
                        · first
                          | (rw [up_nj (by decide), up_eq, show min (q + 1 - p) 7 = (q - p) + 1 by omega, pkk_s, show p + (q - p) = q by omega]; omega)
                          | (rw [up_nj (by decide), hWd, show min (q + 1 - p) 7 = 7 by omega, show min (q - p) 7 = 7 by omega])
                        · intro j h1 h2
                          by_cases r : j = q
                          · subst r; exact hy169.2
                          · exact hD j h1 (by omega)
                      · have hpk := pkk_in (T := T) (p := p) (q - p) fun j hj => hTb (p + j) (by omega)
                        have hpk6 : pkk T p (q - p) < 281474976710656 := Int.lt_of_lt_of_le hpk.2 (pow_up (n := 6) (by decide) (by omega))
                        refine wp_n 3 (pc' := 194) (L' := [(2, 127), (0, (bA T L p)), (9, 0)]) (st' := [(1, (kl 127 13)), (2, 127)]) (g' := kl) rfl ?_
                        refine wp_eq (L' := [(2, 127), (0, (bA T L p)), (9, 0)]) (st' := [(1, (pkk T p (q - p))), (2, 127)]) (g' := kl) ?_ (by rfl) (by rw [hWd, Nat.min_eq_left (by omega)]) (by rfl)
                        refine wp_n 2 (pc' := 197) (L' := [(2, 127), (0, (bA T L p)), (9, 0)]) (st' := [(1, (Int64.ofInt (pkk T p (q - p)) <<< ((Int32.ofInt 8).toInt64 &&& 63)).toInt), (2, 127)]) (g' := kl) rfl ?_
                        refine wp_eq (L' := [(2, 127), (0, (bA T L p)), (9, 0)]) (st' := [(1, (pkk T p (q - p) * 256)), (2, 127)]) (g' := kl) ?_ (by rfl) (by rw [lshl8 (by omega) (by omega)]) (by rfl)
                        refine wp_n 3 (pc' := 202) (L' := [(2, 127), (0, (bA T L p)), (9, 0)]) (st' := [(0, (kl 127 9)), (2, 127), (1, (pkk T p (q - p) * 256)), (2, 127)]) (g' := kl) rfl ?_
                        refine wp_eq (L' := [(2, 127), (0, (bA T L p)), (9, 0)]) (st' := [(0, ((q : Nat) : Int)), (2, 127), (1, (pkk T p (q - p) * 256)), (2, 127)]) (g' := kl) ?_ (by rfl) (by rw [h9k]) (by rfl)
                        refine wp_cv (as := [(2, 127), (0, ((q : Nat) : Int))]) (rest := [(1, (pkk T p (q - p) * 256)), (2, 127)]) rfl rfl rfl (Nat.le_of_ble_eq_true rfl) rfl (m_byteAt (T := T) (L := L) (a := q) hRk (by omega)) (by decide) (fun r26 h27 => ?_)
                        obtain rfl := h27
                        refine wp_eq (L' := [(2, 127), (0, (bA T L p)), (9, 0)]) (st' := [(0, (bA T L q)), (1, (pkk T p (q - p) * 256)), (2, 127)]) (g' := kl) ?_
                        refine wp_i2l rfl (by omega) ?_
                        refine wp_n 1 (pc' := 207) (L' := [(2, 127), (0, (bA T L p)), (9, 0)]) (st' := [(1, (Int64.ofInt (pkk T p (q - p) * 256) ||| Int64.ofInt (bA T L q)).toInt), (2, 127)]) (g' := kl) rfl ?_
                        refine wp_eq (L' := [(2, 127), (0, (bA T L p)), (9, 0)]) (st' := [(1, (pkk T p (q - p) * 256 + bA T L q)), (2, 127)]) (g' := kl) ?_ (by rfl) (by rw [lor8 (by omega) (by omega) (by omega)]) (by rfl)
                        refine wp_n 4 (pc' := 215) (L' := [(2, 127), (0, (bA T L p)), (9, 0)]) (st' := [(0, (kl 127 9)), (2, 127)]) (g' := (am_up kl 127 13 (pkk T p (q - p) * 256 + bA T L q))) rfl ?_
                        refine wp_eq (L' := [(2, 127), (0, (bA T L p)), (9, 0)]) (st' := [(0, ((q : Nat) : Int)), (2, 127)]) (g' := (am_up kl 127 13 (pkk T p (q - p) * 256 + bA T L q))) ?_ (by rfl) (by first | rw [up_nj (by decide), h9k] | rw [h9k]) (by rfl)
                        refine wp_n 4 (pc' := 161) (L' := [(2, 127), (0, (bA T L p)), (9, 0)]) (st' := []) (g' := (am_up (am_up kl 127 13 (pkk T p (q - p) * 256 + bA T L q)) 127 9 (((q : Nat) : Int) + 1))) rfl ?_
                        refine wp_eq (ih161 (q + 1) ((am_up (am_up kl 127 13 (pkk T p (q - p) * 256 + bA T L q)) 127 9 (((q : Nat) : Int) + 1))) ?_ ?_ ?_ ?_ ?_ ?_ ?_ ?_ ?_ ?_) (by first | rfl | (simp; done) | (simp; omega)) (by rfl) (by rfl)
                        · omega
                        · omega
                        · omega
                        · exact up_eq
                        · first | (rw [up_nj (by decide), up_nj (by decide)]; exact h10) | (rw [up_nj (by decide)]; exact h10)
                        · first | (rw [up_nj (by decide), up_nj (by decide)]; exact h11) | (rw [up_nj (by decide)]; exact h11)
                        · rw [← ln_go hy169.1 hy169.2]; exact hlq
                        · first | exact (hFk.up (by decide)).up (by decide) | exact hFk.up (by decide)
                        · first
                          | (rw [up_nj (by decide), up_eq, show min (q + 1 - p) 7 = (q - p) + 1 by omega, pkk_s, show p + (q - p) = q by omega]; omega)
                          | (rw [up_nj (by decide), hWd, show min (q + 1 - p) 7 = 7 by omega, show min (q - p) 7 = 7 by omega])
                        · intro j h1 h2
                          by_cases r : j = q
                          · subst r; exact hy169.2
                          · exact hD j h1 (by omega)
                    · have hqe : q = ln T L p := by rw [← hlq]; exact bA_L hq p169
                      refine wp_eq (L' := [(2, 127), (0, (bA T L p)), (9, 0)]) (st' := [(0, 0)]) (g' := kl) ?_
                      refine wp_n 3 (pc' := 227) (L' := [(2, 127), (0, (bA T L p)), (9, 0)]) (st' := [(0, (kl 127 9))]) (g' := kl) rfl ?_
                      refine wp_eq (L' := [(2, 127), (0, (bA T L p)), (9, 0)]) (st' := [(0, ((q : Nat) : Int))]) (g' := kl) ?_ (by rfl) (by rw [h9k]) (by rfl)
                      refine wp_n 2 (pc' := 231) (L' := [(2, 127), (0, (bA T L p)), (9, 0)]) (st' := [(0, (kl 127 10)), (0, ((q : Nat) : Int))]) (g' := kl) rfl ?_
                      refine wp_eq (L' := [(2, 127), (0, (bA T L p)), (9, 0)]) (st' := [(0, ((p : Nat) : Int)), (0, ((q : Nat) : Int))]) (g' := kl) ?_ (by rfl) (by rw [h10]) (by rfl)
                      refine wp_n 2 (pc' := 234) (L' := [(2, 127), (0, (bA T L p)), (9, 0)]) (st' := [(0, 7), (0, (((q : Nat) : Int) - ((p : Nat) : Int)))]) (g' := kl) rfl ?_
                      refine wp_ic_le rfl (fun c28 => ?_) (fun c28 => ?_)
                      · exact wp_ret rfl rfl rfl ⟨_, rfl, by rw [← hsp]; exact ⟨h10, by rw [h11, tK, if_neg (by omega), if_pos hy145.2]; rfl, by rw [h9k, tE, if_neg (by omega), if_pos hy145.2, hqe], fun q => by rw [tK, if_neg (by omega), if_pos hy145.2] at q; omega, fun _ => by rw [hWd, tE, if_neg (by omega), if_pos hy145.2, ← hqe, WD, if_pos (by omega), Nat.min_eq_left (by omega)]⟩, hFk⟩
                      · refine wp_n 4 (pc' := 322) (L' := [(2, 127), (0, (bA T L p)), (9, 0)]) (st' := []) (g' := (am_up kl 127 13 0)) rfl ?_
                        exact wp_ret rfl rfl rfl ⟨_, rfl, by rw [← hsp]; exact ⟨(up_nj (by decide)).trans h10, by rw [up_nj (by decide), h11, tK, if_neg (by omega), if_pos hy145.2]; rfl, by rw [up_nj (by decide), h9k, tE, if_neg (by omega), if_pos hy145.2, hqe], fun q => by rw [tK, if_neg (by omega), if_pos hy145.2] at q; omega, fun _ => by rw [up_eq, tE, if_neg (by omega), if_pos hy145.2, ← hqe, WD, if_neg (by omega)]⟩, hFk.up (by decide)⟩
                refine wp_eq (L161 (_ + 1) (p) ((am_up (am_up (am_up h 127 10 ((p : Nat) : Int)) 127 11 2) 127 13 0)) (Nat.lt_succ_self _) ?_ ?_ ?_ ?_ ?_ ?_ ?_ ?_ ?_) (by first | rfl | (simp; done) | (simp; omega)) (by rfl) (by rfl)
                · exact hp
                · exact Nat.le_refl _
                · rw [up_nj (by decide), up_nj (by decide), up_nj (by decide)]; exact h9p
                · rw [up_nj (by decide), up_nj (by decide), up_eq]
                · rw [up_nj (by decide), up_eq]
                · rfl
                · exact ((hFh.up (by decide)).up (by decide)).up (by decide)
                · rw [Nat.sub_self, up_eq]; rfl
                · intro j h1 h2; omega
              · have h0 : 0 ≤ bA T L p := by omega
                refine wp_eq (L' := [(2, 127), (0, (bA T L p)), (9, 0)]) (st' := [(0, 0)]) (g' := (am_up h 127 10 ((p : Nat) : Int))) ?_
                refine wp_n 4 (pc' := 250) (L' := [(2, 127), (0, (bA T L p)), (9, 0)]) (st' := [(0, (h 127 9)), (2, 127)]) (g' := (am_up h 127 10 ((p : Nat) : Int))) rfl ?_
                refine wp_eq (L' := [(2, 127), (0, (bA T L p)), (9, 0)]) (st' := [(0, ((p : Nat) : Int)), (2, 127)]) (g' := (am_up h 127 10 ((p : Nat) : Int))) ?_ (by rfl) (by first | rw [h9p] | rw [up_nj (by decide), h9p]) (by rfl)
                refine wp_n 5 (pc' := 258) (L' := [(2, 127), (0, (bA T L p)), (9, 0)]) (st' := [(0, 44), (0, (bA T L p))]) (g' := (am_up (am_up h 127 10 ((p : Nat) : Int)) 127 9 (((p : Nat) : Int) + 1))) rfl ?_
                refine wp_ic_eq rfl (fun c29 => ?_) (fun c29 => ?_)
                · refine wp_n 9 (pc' := 322) (L' := [(2, 127), (0, (bA T L p)), (0, 1)]) (st' := []) (g' := (am_up (am_up (am_up h 127 10 ((p : Nat) : Int)) 127 9 (((p : Nat) : Int) + 1)) 127 11 (bA T L p))) rfl ?_
                  exact wp_ret rfl rfl rfl ⟨_, rfl, by rw [← hsp]; exact tkm_sg (x := (bA T L p)) ((up_nj (by decide)).trans ((up_nj (by decide)).trans up_eq)) up_eq ((up_nj (by decide)).trans up_eq) hp h0 p69 p145 (Or.inl ⟨by omega, rfl⟩), ((hFh.up (by decide)).up (by decide)).up (by decide)⟩
                · refine wp_n 2 (pc' := 264) (L' := [(2, 127), (0, (bA T L p)), (9, 0)]) (st' := [(0, 43), (0, (bA T L p))]) (g' := (am_up (am_up h 127 10 ((p : Nat) : Int)) 127 9 (((p : Nat) : Int) + 1))) rfl ?_
                  refine wp_ic_eq rfl (fun c30 => ?_) (fun c30 => ?_)
                  · refine wp_n 9 (pc' := 322) (L' := [(2, 127), (0, (bA T L p)), (0, 1)]) (st' := []) (g' := (am_up (am_up (am_up h 127 10 ((p : Nat) : Int)) 127 9 (((p : Nat) : Int) + 1)) 127 11 (bA T L p))) rfl ?_
                    exact wp_ret rfl rfl rfl ⟨_, rfl, by rw [← hsp]; exact tkm_sg (x := (bA T L p)) ((up_nj (by decide)).trans ((up_nj (by decide)).trans up_eq)) up_eq ((up_nj (by decide)).trans up_eq) hp h0 p69 p145 (Or.inl ⟨by omega, rfl⟩), ((hFh.up (by decide)).up (by decide)).up (by decide)⟩
                  · refine wp_n 2 (pc' := 270) (L' := [(2, 127), (0, (bA T L p)), (9, 0)]) (st' := [(0, 45), (0, (bA T L p))]) (g' := (am_up (am_up h 127 10 ((p : Nat) : Int)) 127 9 (((p : Nat) : Int) + 1))) rfl ?_
                    refine wp_ic_eq rfl (fun c31 => ?_) (fun c31 => ?_)
                    · refine wp_n 9 (pc' := 322) (L' := [(2, 127), (0, (bA T L p)), (0, 1)]) (st' := []) (g' := (am_up (am_up (am_up h 127 10 ((p : Nat) : Int)) 127 9 (((p : Nat) : Int) + 1)) 127 11 (bA T L p))) rfl ?_
                      exact wp_ret rfl rfl rfl ⟨_, rfl, by rw [← hsp]; exact tkm_sg (x := (bA T L p)) ((up_nj (by decide)).trans ((up_nj (by decide)).trans up_eq)) up_eq ((up_nj (by decide)).trans up_eq) hp h0 p69 p145 (Or.inl ⟨by omega, rfl⟩), ((hFh.up (by decide)).up (by decide)).up (by decide)⟩
                    · refine wp_n 2 (pc' := 276) (L' := [(2, 127), (0, (bA T L p)), (9, 0)]) (st' := [(0, 42), (0, (bA T L p))]) (g' := (am_up (am_up h 127 10 ((p : Nat) : Int)) 127 9 (((p : Nat) : Int) + 1))) rfl ?_
                      refine wp_ic_eq rfl (fun c32 => ?_) (fun c32 => ?_)
                      · refine wp_n 9 (pc' := 322) (L' := [(2, 127), (0, (bA T L p)), (0, 1)]) (st' := []) (g' := (am_up (am_up (am_up h 127 10 ((p : Nat) : Int)) 127 9 (((p : Nat) : Int) + 1)) 127 11 (bA T L p))) rfl ?_
                        exact wp_ret rfl rfl rfl ⟨_, rfl, by rw [← hsp]; exact tkm_sg (x := (bA T L p)) ((up_nj (by decide)).trans ((up_nj (by decide)).trans up_eq)) up_eq ((up_nj (by decide)).trans up_eq) hp h0 p69 p145 (Or.inl ⟨by omega, rfl⟩), ((hFh.up (by decide)).up (by decide)).up (by decide)⟩
                      · refine wp_n 2 (pc' := 282) (L' := [(2, 127), (0, (bA T L p)), (9, 0)]) (st' := [(0, 47), (0, (bA T L p))]) (g' := (am_up (am_up h 127 10 ((p : Nat) : Int)) 127 9 (((p : Nat) : Int) + 1))) rfl ?_
                        refine wp_ic_eq rfl (fun c33 => ?_) (fun c33 => ?_)
                        · refine wp_n 9 (pc' := 322) (L' := [(2, 127), (0, (bA T L p)), (0, 1)]) (st' := []) (g' := (am_up (am_up (am_up h 127 10 ((p : Nat) : Int)) 127 9 (((p : Nat) : Int) + 1)) 127 11 (bA T L p))) rfl ?_
                          exact wp_ret rfl rfl rfl ⟨_, rfl, by rw [← hsp]; exact tkm_sg (x := (bA T L p)) ((up_nj (by decide)).trans ((up_nj (by decide)).trans up_eq)) up_eq ((up_nj (by decide)).trans up_eq) hp h0 p69 p145 (Or.inl ⟨by omega, rfl⟩), ((hFh.up (by decide)).up (by decide)).up (by decide)⟩
                        · refine wp_n 2 (pc' := 288) (L' := [(2, 127), (0, (bA T L p)), (9, 0)]) (st' := [(0, 40), (0, (bA T L p))]) (g' := (am_up (am_up h 127 10 ((p : Nat) : Int)) 127 9 (((p : Nat) : Int) + 1))) rfl ?_
                          refine wp_ic_eq rfl (fun c34 => ?_) (fun c34 => ?_)
                          · refine wp_n 9 (pc' := 322) (L' := [(2, 127), (0, (bA T L p)), (0, 1)]) (st' := []) (g' := (am_up (am_up (am_up h 127 10 ((p : Nat) : Int)) 127 9 (((p : Nat) : Int) + 1)) 127 11 (bA T L p))) rfl ?_
                            exact wp_ret rfl rfl rfl ⟨_, rfl, by rw [← hsp]; exact tkm_sg (x := (bA T L p)) ((up_nj (by decide)).trans ((up_nj (by decide)).trans up_eq)) up_eq ((up_nj (by decide)).trans up_eq) hp h0 p69 p145 (Or.inl ⟨by omega, rfl⟩), ((hFh.up (by decide)).up (by decide)).up (by decide)⟩
                          · refine wp_n 2 (pc' := 294) (L' := [(2, 127), (0, (bA T L p)), (9, 0)]) (st' := [(0, 41), (0, (bA T L p))]) (g' := (am_up (am_up h 127 10 ((p : Nat) : Int)) 127 9 (((p : Nat) : Int) + 1))) rfl ?_
                            refine wp_ic_eq rfl (fun c35 => ?_) (fun c35 => ?_)
                            · refine wp_n 9 (pc' := 322) (L' := [(2, 127), (0, (bA T L p)), (0, 1)]) (st' := []) (g' := (am_up (am_up (am_up h 127 10 ((p : Nat) : Int)) 127 9 (((p : Nat) : Int) + 1)) 127 11 (bA T L p))) rfl ?_
                              exact wp_ret rfl rfl rfl ⟨_, rfl, by rw [← hsp]; exact tkm_sg (x := (bA T L p)) ((up_nj (by decide)).trans ((up_nj (by decide)).trans up_eq)) up_eq ((up_nj (by decide)).trans up_eq) hp h0 p69 p145 (Or.inl ⟨by omega, rfl⟩), ((hFh.up (by decide)).up (by decide)).up (by decide)⟩
                            · refine wp_n 2 (pc' := 300) (L' := [(2, 127), (0, (bA T L p)), (9, 0)]) (st' := [(0, 59), (0, (bA T L p))]) (g' := (am_up (am_up h 127 10 ((p : Nat) : Int)) 127 9 (((p : Nat) : Int) + 1))) rfl ?_
                              refine wp_ic_ne rfl (fun c36 => ?_) (fun c36 => ?_)
                              · refine wp_n 7 (pc' := 322) (L' := [(2, 127), (0, (bA T L p)), (0, 0)]) (st' := []) (g' := (am_up (am_up (am_up h 127 10 ((p : Nat) : Int)) 127 9 (((p : Nat) : Int) + 1)) 127 11 3)) rfl ?_
                                exact wp_ret rfl rfl rfl ⟨_, rfl, by rw [← hsp]; exact tkm_sg (x := 3) ((up_nj (by decide)).trans ((up_nj (by decide)).trans up_eq)) up_eq ((up_nj (by decide)).trans up_eq) hp h0 p69 p145 (Or.inr ⟨by omega, rfl⟩), ((hFh.up (by decide)).up (by decide)).up (by decide)⟩
                              · refine wp_n 9 (pc' := 322) (L' := [(2, 127), (0, (bA T L p)), (0, 1)]) (st' := []) (g' := (am_up (am_up (am_up h 127 10 ((p : Nat) : Int)) 127 9 (((p : Nat) : Int) + 1)) 127 11 (bA T L p))) rfl ?_
                                exact wp_ret rfl rfl rfl ⟨_, rfl, by rw [← hsp]; exact tkm_sg (x := (bA T L p)) ((up_nj (by decide)).trans ((up_nj (by decide)).trans up_eq)) up_eq ((up_nj (by decide)).trans up_eq) hp h0 p69 p145 (Or.inl ⟨by omega, rfl⟩), ((hFh.up (by decide)).up (by decide)).up (by decide)⟩
          · refine wp_n 4 (pc' := 322) (L' := [(2, 127), (0, (bA T L p)), (9, 0)]) (st' := []) (g' := (am_up (am_up h 127 10 ((p : Nat) : Int)) 127 11 0)) rfl ?_
            exact wp_ret rfl rfl rfl ⟨_, rfl, by rw [← hsp]; exact ⟨by rw [up_nj (by decide), up_eq], by rw [up_eq, tK, if_pos (by omega)]; rfl, by rw [up_nj (by decide), up_nj (by decide), h9p, tE, if_pos (by omega)], fun q => by rw [tK, if_pos (by omega)] at q; omega, fun q => by rw [tK, if_pos (by omega)] at q; omega⟩, (hFh.up (by decide)).up (by decide)⟩
        · refine wp_n 3 (pc' := 31) (L' := [(2, 127), (9, 0), (9, 0)]) (st' := [(0, (h 127 9)), (2, 127)]) (g' := h) rfl ?_
          refine wp_eq (L' := [(2, 127), (9, 0), (9, 0)]) (st' := [(0, ((p : Nat) : Int)), (2, 127)]) (g' := h) ?_ (by rfl) (by rw [h9p]) (by rfl)
          refine wp_n 4 (pc' := 0) (L' := [(2, 127), (9, 0), (9, 0)]) (st' := []) (g' := (am_up h 127 9 (((p : Nat) : Int) + 1))) rfl ?_
          refine wp_eq (ih0 (p + 1) ((am_up h 127 9 (((p : Nat) : Int) + 1))) ?_ ?_ ?_ ?_ ?_) (by first | rfl | (simp; done) | (simp; omega)) (by rfl) (by rfl)
          · omega
          · omega
          · exact up_eq
          · have hy := bA_Sy (T := T) (L := L) (q := p) (by omega)
            rw [← sk_go hy.1 hy.2]; exact hs
          · exact hFh.up (by decide)
  refine wp_eq (L0 (_ + 1) (a) (g) (Nat.lt_succ_self _) ?_ ?_ ?_ ?_) (by first | rfl | (simp; done) | (simp; omega)) (by rfl) (by rfl)
  · exact ha
  · exact h9
  · rfl
  · exact FrTm.rfl
