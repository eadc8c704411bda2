/-! TOKENS of a tape -/
abbrev isL (x : Int) : Prop := 97 ≤ x ∧ x ≤ 122 ∨ 65 ≤ x ∧ x ≤ 90
abbrev isD (x : Int) : Prop := 48 ≤ x ∧ x ≤ 57
abbrev isS (x : Int) : Prop := x = 32 ∨ x = 10
abbrev isG (x : Int) : Prop := 40 ≤ x ∧ x ≤ 47 ∧ x ≠ 46 ∨ x = 59
def skf (T : Nat → Int) : Nat → Nat → Nat
  | 0, p => p
  | f + 1, p => if isS (T p) then skf T f (p + 1) else p
def lnf (T : Nat → Int) : Nat → Nat → Nat
  | 0, p => p
  | f + 1, p => if isL (T p) then lnf T f (p + 1) else p
def dnf (T : Nat → Int) : Nat → Nat → Nat
  | 0, p => p
  | f + 1, p => if isD (T p) then dnf T f (p + 1) else p
def sk (T : Nat → Int) (L p : Nat) : Nat := skf T (L - p) p
def ln (T : Nat → Int) (L p : Nat) : Nat := lnf T (L - p) p
def dn (T : Nat → Int) (L p : Nat) : Nat := dnf T (L - p) p
theorem sk_go {T : Nat → Int} {L p : Nat} (h : p < L) (hs : isS (T p)) : sk T L p = sk T L (p + 1) := by
  unfold sk
  rw [show L - p = (L - (p + 1)) + 1 by omega, skf, if_pos hs]
theorem sk_no {T : Nat → Int} {L p : Nat} (hs : L ≤ p ∨ ¬ isS (T p)) : sk T L p = p := by
  unfold sk
  by_cases h : p < L
  · rw [show L - p = (L - (p + 1)) + 1 by omega, skf, if_neg (hs.resolve_left (by omega))]
  · rw [show L - p = 0 by omega, skf]
theorem sk_in {T : Nat → Int} {L : Nat} : ∀ (d p : Nat), L - p = d → p ≤ L → p ≤ sk T L p ∧ sk T L p ≤ L := by
  intro d
  induction d with
  | zero => intro p hd hp; rw [sk_no (Or.inl (by omega))]; omega
  | succ d ih =>
    intro p hd hp
    by_cases hs : isS (T p)
    · rw [sk_go (by omega) hs]
      have := ih (p + 1) (by omega) (by omega)
      omega
    · rw [sk_no (Or.inr hs)]; omega
theorem sk_at {T : Nat → Int} {L : Nat} : ∀ (d p : Nat), L - p = d → ∀ j, p ≤ j → j < sk T L p → isS (T j) := by
  intro d
  induction d with
  | zero => intro p hd j h1 h2; rw [sk_no (Or.inl (by omega))] at h2; omega
  | succ d ih =>
    intro p hd j h1 h2
    by_cases hs : isS (T p)
    · by_cases e : j = p
      · subst e; exact hs
      · rw [sk_go (by omega) hs] at h2
        exact ih (p + 1) (by omega) j (by omega) h2
    · rw [sk_no (Or.inr hs)] at h2; omega
theorem sk_end {T : Nat → Int} {L : Nat} : ∀ (d p : Nat), L - p = d → p ≤ L → sk T L p = L ∨ ¬ isS (T (sk T L p)) := by
  intro d
  induction d with
  | zero => intro p hd hp; rw [sk_no (Or.inl (by omega))]; exact Or.inl (by omega)
  | succ d ih =>
    intro p hd hp
    by_cases hs : isS (T p)
    · rw [sk_go (by omega) hs]
      exact ih (p + 1) (by omega) (by omega)
    · rw [sk_no (Or.inr hs)]; exact Or.inr hs
theorem ln_go {T : Nat → Int} {L p : Nat} (h : p < L) (hs : isL (T p)) : ln T L p = ln T L (p + 1) := by
  unfold ln
  rw [show L - p = (L - (p + 1)) + 1 by omega, lnf, if_pos hs]
theorem ln_no {T : Nat → Int} {L p : Nat} (hs : L ≤ p ∨ ¬ isL (T p)) : ln T L p = p := by
  unfold ln
  by_cases h : p < L
  · rw [show L - p = (L - (p + 1)) + 1 by omega, lnf, if_neg (hs.resolve_left (by omega))]
  · rw [show L - p = 0 by omega, lnf]
theorem ln_in {T : Nat → Int} {L : Nat} : ∀ (d p : Nat), L - p = d → p ≤ L → p ≤ ln T L p ∧ ln T L p ≤ L := by
  intro d
  induction d with
  | zero => intro p hd hp; rw [ln_no (Or.inl (by omega))]; omega
  | succ d ih =>
    intro p hd hp
    by_cases hs : isL (T p)
    · rw [ln_go (by omega) hs]
      have := ih (p + 1) (by omega) (by omega)
      omega
    · rw [ln_no (Or.inr hs)]; omega
theorem ln_at {T : Nat → Int} {L : Nat} : ∀ (d p : Nat), L - p = d → ∀ j, p ≤ j → j < ln T L p → isL (T j) := by
  intro d
  induction d with
  | zero => intro p hd j h1 h2; rw [ln_no (Or.inl (by omega))] at h2; omega
  | succ d ih =>
    intro p hd j h1 h2
    by_cases hs : isL (T p)
    · by_cases e : j = p
      · subst e; exact hs
      · rw [ln_go (by omega) hs] at h2
        exact ih (p + 1) (by omega) j (by omega) h2
    · rw [ln_no (Or.inr hs)] at h2; omega
theorem ln_end {T : Nat → Int} {L : Nat} : ∀ (d p : Nat), L - p = d → p ≤ L → ln T L p = L ∨ ¬ isL (T (ln T L p)) := by
  intro d
  induction d with
  | zero => intro p hd hp; rw [ln_no (Or.inl (by omega))]; exact Or.inl (by omega)
  | succ d ih =>
    intro p hd hp
    by_cases hs : isL (T p)
    · rw [ln_go (by omega) hs]
      exact ih (p + 1) (by omega) (by omega)
    · rw [ln_no (Or.inr hs)]; exact Or.inr hs
theorem dn_go {T : Nat → Int} {L p : Nat} (h : p < L) (hs : isD (T p)) : dn T L p = dn T L (p + 1) := by
  unfold dn
  rw [show L - p = (L - (p + 1)) + 1 by omega, dnf, if_pos hs]
theorem dn_no {T : Nat → Int} {L p : Nat} (hs : L ≤ p ∨ ¬ isD (T p)) : dn T L p = p := by
  unfold dn
  by_cases h : p < L
  · rw [show L - p = (L - (p + 1)) + 1 by omega, dnf, if_neg (hs.resolve_left (by omega))]
  · rw [show L - p = 0 by omega, dnf]
theorem dn_in {T : Nat → Int} {L : Nat} : ∀ (d p : Nat), L - p = d → p ≤ L → p ≤ dn T L p ∧ dn T L p ≤ L := by
  intro d
  induction d with
  | zero => intro p hd hp; rw [dn_no (Or.inl (by omega))]; omega
  | succ d ih =>
    intro p hd hp
    by_cases hs : isD (T p)
    · rw [dn_go (by omega) hs]
      have := ih (p + 1) (by omega) (by omega)
      omega
    · rw [dn_no (Or.inr hs)]; omega
theorem dn_at {T : Nat → Int} {L : Nat} : ∀ (d p : Nat), L - p = d → ∀ j, p ≤ j → j < dn T L p → isD (T j) := by
  intro d
  induction d with
  | zero => intro p hd j h1 h2; rw [dn_no (Or.inl (by omega))] at h2; omega
  | succ d ih =>
    intro p hd j h1 h2
    by_cases hs : isD (T p)
    · by_cases e : j = p
      · subst e; exact hs
      · rw [dn_go (by omega) hs] at h2
        exact ih (p + 1) (by omega) j (by omega) h2
    · rw [dn_no (Or.inr hs)] at h2; omega
theorem dn_end {T : Nat → Int} {L : Nat} : ∀ (d p : Nat), L - p = d → p ≤ L → dn T L p = L ∨ ¬ isD (T (dn T L p)) := by
  intro d
  induction d with
  | zero => intro p hd hp; rw [dn_no (Or.inl (by omega))]; exact Or.inl (by omega)
  | succ d ih =>
    intro p hd hp
    by_cases hs : isD (T p)
    · rw [dn_go (by omega) hs]
      exact ih (p + 1) (by omega) (by omega)
    · rw [dn_no (Or.inr hs)]; exact Or.inr hs
/-- a number as the class reads it -/
def nmv (T : Nat → Int) (a : Nat) : Nat → Int
  | 0 => 0
  | n + 1 => if 10000 < nmv T a n * 10 + T (a + n) - 48 then 10000 else nmv T a n * 10 + T (a + n) - 48
theorem nmv_s (T : Nat → Int) (a n : Nat) : nmv T a (n + 1) = if 10000 < nmv T a n * 10 + T (a + n) - 48 then 10000 else nmv T a n * 10 + T (a + n) - 48 := rfl
theorem nmv_in {T : Nat → Int} {a : Nat} : ∀ n, (∀ j, j < n → isD (T (a + j))) → 0 ≤ nmv T a n ∧ nmv T a n ≤ 10000 := by
  intro n
  induction n with
  | zero => intro _; exact ⟨Int.le_refl _, by show (0 : Int) ≤ 10000; decide⟩
  | succ n ih =>
    intro h
    have h1 := ih fun j hj => h j (by omega)
    have h2 := h n (by omega)
    rw [nmv_s]
    split <;> omega
/-- the i-th word stands from p to e -/
def wdq (T : Nat → Int) (p e i : Nat) : Prop := p + am_slen.getD i 0 = e ∧ ∀ j, j < am_slen.getD i 0 → T (p + j) = (((am_sbyt.getD i []).getD j 0 : Nat) : Int)
noncomputable def wdf (T : Nat → Int) (p e : Nat) : Nat → Int
  | 0 => -1
  | n + 1 => if wdf T p e n = -1 then @ite Int (wdq T p e n) (Classical.propDecidable _) (n : Int) (-1) else wdf T p e n
theorem wdf_s (T : Nat → Int) (p e n : Nat) : wdf T p e (n + 1) = if wdf T p e n = -1 then @ite Int (wdq T p e n) (Classical.propDecidable _) (n : Int) (-1) else wdf T p e n := rfl
theorem wdf_no {T : Nat → Int} {p e n : Nat} : (∀ i, i < n → ¬ wdq T p e i) → wdf T p e n = -1 := by
  induction n with
  | zero => intro _; rfl
  | succ n ih => intro h; rw [wdf_s, if_pos (ih fun i hi => h i (by omega)), if_neg (h n (by omega))]
theorem wdf_yes {T : Nat → Int} {p e n i : Nat} (hi : i < n) (h0 : ∀ j, j < i → ¬ wdq T p e j) (h1 : wdq T p e i) : wdf T p e n = (i : Int) := by
  induction n with
  | zero => omega
  | succ n ih =>
    rw [wdf_s]
    by_cases e2 : i = n
    · subst e2; rw [if_pos (wdf_no h0), if_pos h1]
    · rw [ih (by omega), if_neg (by omega)]
theorem wdf_in {T : Nat → Int} {p e : Nat} (n : Nat) : -1 ≤ wdf T p e n ∧ wdf T p e n < (n : Int) := by
  induction n with
  | zero => exact ⟨by show (-1 : Int) ≤ -1; decide, by show (-1 : Int) < 0; decide⟩
  | succ n ih =>
    rw [wdf_s]
    split
    · split <;> omega
    · omega
theorem sb_all : ∀ i, i < 17 → am_slen.getD i 0 ≤ 5 ∧ 2 ≤ am_slen.getD i 0 ∧ (am_sbyt.getD i []).length = am_slen.getD i 0 ∧ ∀ k, k < 17 → am_sbyt.getD i [] = am_sbyt.getD k [] → i = k := by decide
theorem sb_byt2 : ∀ i, i < 17 → ∀ j, j < am_slen.getD i 0 → 97 ≤ (am_sbyt.getD i []).getD j 0 ∧ (am_sbyt.getD i []).getD j 0 ≤ 122 := by decide
theorem wq_one {T : Nat → Int} {p e i k : Nat} (hi : i < 17) (hk : k < 17) (h1 : wdq T p e i) (h2 : wdq T p e k) : i = k := by
  refine (sb_all i hi).2.2.2 k hk ?_
  have l1 := (sb_all i hi).2.2.1
  have l2 := (sb_all k hk).2.2.1
  have hl : am_slen.getD i 0 = am_slen.getD k 0 := by have := h1.1; have := h2.1; omega
  refine List.ext_getElem (by omega) fun j a b => ?_
  have e1 := h1.2 j (by omega)
  have e2 := h2.2 j (by omega)
  have e3 : (am_sbyt.getD i []).getD j 0 = (am_sbyt.getD k []).getD j 0 := by omega
  have gd : ∀ (l : List Nat) (j : Nat) (h : j < l.length), l.getD j 0 = l[j] := fun l j h => by simp [List.getD_eq_getElem?_getD, h]
  rw [gd _ _ a, gd _ _ b] at e3
  exact e3
theorem wdf_eq {T : Nat → Int} {p e i : Nat} (hi : i < 17) : wdf T p e 17 = (i : Int) ↔ wdq T p e i := by
  refine ⟨fun h => ?_, fun h => wdf_yes hi (fun j hj q => by have := wq_one (by omega) hi q h; omega) h⟩
  apply Classical.byContradiction
  intro hn
  by_cases hx : ∃ k, k < 17 ∧ wdq T p e k
  · obtain ⟨k, hk, hq⟩ := hx
    have := wdf_yes (n := 17) hk (fun j hj q => by have := wq_one (by omega) hk q hq; omega) hq
    rw [h] at this
    have : i = k := by omega
    subst this
    exact hn hq
  · have := wdf_no (n := 17) fun k hk q => hx ⟨k, hk, q⟩
    omega
/-- the token at p: its kind, its end, its value; the next one's place -/
def tK (T : Nat → Int) (L p : Nat) : Int := if L ≤ p then -1 else if isL (T p) then -2 else if isD (T p) then -3 else if isG (T p) then T p else -4
def tE (T : Nat → Int) (L p : Nat) : Nat := if L ≤ p then p else if isL (T p) then ln T L p else if isD (T p) then dn T L p else p + 1
noncomputable def tV (T : Nat → Int) (L p : Nat) : Int := if isL (T p) then wdf T p (ln T L p) 17 else nmv T p (dn T L p - p)
def nx (T : Nat → Int) (L p : Nat) : Nat := sk T L (tE T L p)
theorem tE_in {T : Nat → Int} {L p : Nat} (hp : p ≤ L) : p ≤ tE T L p ∧ tE T L p ≤ L ∧ (p < L → p < tE T L p) := by
  unfold tE
  split
  · omega
  · rename_i h
    split
    · rename_i h1
      have := ln_in (T := T) (L - (p + 1)) (p + 1) rfl (by omega)
      rw [ln_go (by omega) h1]; omega
    · split
      · rename_i h1
        have := dn_in (T := T) (L - (p + 1)) (p + 1) rfl (by omega)
        rw [dn_go (by omega) h1]; omega
      · omega
theorem nx_in {T : Nat → Int} {L p : Nat} (hp : p ≤ L) : p ≤ nx T L p ∧ nx T L p ≤ L ∧ (p < L → p < nx T L p) := by
  have h1 := tE_in (T := T) hp
  have h2 := sk_in (T := T) (L - tE T L p) (tE T L p) rfl h1.2.1
  unfold nx
  omega
theorem tK_end {T : Nat → Int} {L p : Nat} (hp : p ≤ L) (h : tK T L p ≠ -1) : p < L := by
  apply Classical.byContradiction
  intro q
  exact h (by unfold tK; rw [if_pos (by omega)])
theorem tK_in {T : Nat → Int} {L p : Nat} (hT : ∀ j, j < L → 0 ≤ T j ∧ T j ≤ 255) : -4 ≤ tK T L p ∧ tK T L p ≤ 59 := by
  unfold tK
  split
  · omega
  · split
    · omega
    · split
      · omega
      · split <;> omega
theorem tV_in {T : Nat → Int} {L p : Nat} (hp : p ≤ L) : -1 ≤ tV T L p ∧ tV T L p ≤ 10000 := by
  unfold tV
  split
  · have := wdf_in (T := T) (p := p) (e := ln T L p) 17
    omega
  · have h1 := dn_in (T := T) (L - p) p rfl hp
    have := nmv_in (T := T) (a := p) (dn T L p - p) fun j hj => dn_at (L - p) p rfl (p + j) (by omega) (by omega)
    omega
theorem tV_num {T : Nat → Int} {L p : Nat} (hp : p ≤ L) (h : tK T L p = -3) : 0 ≤ tV T L p := by
  unfold tK at h
  split at h
  · omega
  · split at h
    · omega
    · rename_i h1
      unfold tV
      rw [if_neg h1]
      have h1 := dn_in (T := T) (L - p) p rfl hp
      exact (nmv_in (T := T) (a := p) (dn T L p - p) fun j hj => dn_at (L - p) p rfl (p + j) (by omega) (by omega)).1
theorem tV_word {T : Nat → Int} {L p : Nat} (hp : p ≤ L) (h : tK T L p = -2) : tV T L p ≤ 16 := by
  unfold tK at h
  split at h
  · omega
  · split at h
    · rename_i h1
      unfold tV
      rw [if_pos h1]
      have := wdf_in (T := T) (p := p) (e := ln T L p) 17
      omega
    · split at h
      · omega
      · split at h
        · rename_i h2; omega
        · omega
