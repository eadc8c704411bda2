/-! WHERE: the reference's likeliness -/
def oe (ev tb fl : Nat → Int) (e : Int) (w : Nat → Int) (v : Nat) : Nat → Nat
  | 0 => 0
  | n + 1 => oe ev tb fl e w v n + (if ev n = e ∧ fl n ≠ -1 ∧ w (tb n).toNat ≠ (v : Int) then 1 else 0)
def lpt (l ev tb fl : Nat → Int) (e : Int) (w : Nat → Int) (t : Nat) : Nat → Int
  | 0 => 1
  | n + 1 => lpt l ev tb fl e w t n * (if ev n = e ∧ tb n = (t : Int) ∧ fl n ≠ -1 then l (37 * (w t).toNat + (fl n).toNat) else 1)
theorem lpt_s {l ev tb fl : Nat → Int} {e : Int} {w : Nat → Int} {t n : Nat} : lpt l ev tb fl e w t (n + 1) = lpt l ev tb fl e w t n * (if ev n = e ∧ tb n = (t : Int) ∧ fl n ≠ -1 then l (37 * (w t).toNat + (fl n).toNat) else 1) := rfl
def usd (ev tb fl : Nat → Int) (n : Nat) (e : Int) (w : Nat → Int) (v : Nat) : Nat → Nat
  | 0 => 0
  | t + 1 => usd ev tb fl n e w v t + (if w t = (v : Int) then spn ev tb fl e (t : Int) n else 0)
theorem usd_s {ev tb fl : Nat → Int} {n : Nat} {e : Int} {w : Nat → Int} {v t : Nat} : usd ev tb fl n e w v (t + 1) = usd ev tb fl n e w v t + (if w t = (v : Int) then spn ev tb fl e (t : Int) n else 0) := rfl
theorem usd_oe {P n : Nat} {l ev tb fl sc : Nat → Int} (H : BkH P n l ev tb fl sc) {e : Int} {w : Nat → Int} {v : Nat} : ∀ i, i ≤ n → usd ev tb fl i e w v 3 + oe ev tb fl e w v i = spn ev tb fl e 0 i + spn ev tb fl e 1 i + spn ev tb fl e 2 i := by
  intro i
  induction i with
  | zero =>
    intro _
    show 0 + _ + _ + _ + 0 = 0 + 0 + 0
    have z (t : Int) : spn ev tb fl e t 0 = 0 := rfl
    simp only [z, ite_self]
  | succ i ih =>
    intro hi
    have h1 := ih (by omega)
    have h2 := (H.2.2.1 i (by omega)).2.1
    rw [usd_s, usd_s, usd_s] at h1 ⊢
    rw [oe, spn, spn, spn]
    have u0 (m : Nat) : usd ev tb fl m e w v 0 = 0 := rfl
    rw [u0] at h1 ⊢
    have c0 : ((0 : Nat) : Int) = 0 := rfl
    have c1 : ((1 : Nat) : Int) = 1 := rfl
    have c2 : ((2 : Nat) : Int) = 2 := rfl
    have c01 : ((0 + 1 : Nat) : Int) = 1 := rfl
    have c011 : ((0 + 1 + 1 : Nat) : Int) = 2 := rfl
    rw [c0, c01, c011] at h1 ⊢
    rw [spn, spn, spn]
    by_cases h : ev i = e ∧ fl i ≠ -1
    · rcases (show tb i = 0 ∨ tb i = 1 ∨ tb i = 2 by omega) with q | q | q
      · rw [show (tb i).toNat = 0 by omega, q, if_pos (show ev i = e ∧ (0 : Int) = 0 ∧ fl i ≠ -1 from ⟨h.1, rfl, h.2⟩), if_neg (show ¬ (ev i = e ∧ (0 : Int) = 1 ∧ fl i ≠ -1) by omega), if_neg (show ¬ (ev i = e ∧ (0 : Int) = 2 ∧ fl i ≠ -1) by omega)]
        simp only [Nat.add_zero] at h1 ⊢
        by_cases k : w 0 = (v : Int)
        · rw [if_pos k] at h1 ⊢; rw [if_neg (show ¬ (ev i = e ∧ fl i ≠ -1 ∧ w 0 ≠ (v : Int)) from fun x => x.2.2 k)]; omega
        · rw [if_neg k] at h1 ⊢; rw [if_pos (show ev i = e ∧ fl i ≠ -1 ∧ w 0 ≠ (v : Int) from ⟨h.1, h.2, k⟩)]; omega
      · rw [show (tb i).toNat = 1 by omega, q, if_neg (show ¬ (ev i = e ∧ (1 : Int) = 0 ∧ fl i ≠ -1) by omega), if_pos (show ev i = e ∧ (1 : Int) = 1 ∧ fl i ≠ -1 from ⟨h.1, rfl, h.2⟩), if_neg (show ¬ (ev i = e ∧ (1 : Int) = 2 ∧ fl i ≠ -1) by omega)]
        simp only [Nat.add_zero] at h1 ⊢
        by_cases k : w 1 = (v : Int)
        · rw [if_pos k] at h1 ⊢; rw [if_neg (show ¬ (ev i = e ∧ fl i ≠ -1 ∧ w 1 ≠ (v : Int)) from fun x => x.2.2 k)]; omega
        · rw [if_neg k] at h1 ⊢; rw [if_pos (show ev i = e ∧ fl i ≠ -1 ∧ w 1 ≠ (v : Int) from ⟨h.1, h.2, k⟩)]; omega
      · rw [show (tb i).toNat = 2 by omega, q, if_neg (show ¬ (ev i = e ∧ (2 : Int) = 0 ∧ fl i ≠ -1) by omega), if_neg (show ¬ (ev i = e ∧ (2 : Int) = 1 ∧ fl i ≠ -1) by omega), if_pos (show ev i = e ∧ (2 : Int) = 2 ∧ fl i ≠ -1 from ⟨h.1, rfl, h.2⟩)]
        simp only [Nat.add_zero] at h1 ⊢
        by_cases k : w 2 = (v : Int)
        · rw [if_pos k] at h1 ⊢; rw [if_neg (show ¬ (ev i = e ∧ fl i ≠ -1 ∧ w 2 ≠ (v : Int)) from fun x => x.2.2 k)]; omega
        · rw [if_neg k] at h1 ⊢; rw [if_pos (show ev i = e ∧ fl i ≠ -1 ∧ w 2 ≠ (v : Int) from ⟨h.1, h.2, k⟩)]; omega
    · rw [if_neg (show ¬ (ev i = e ∧ fl i ≠ -1 ∧ w (tb i).toNat ≠ (v : Int)) from fun x => h ⟨x.1, x.2.1⟩), if_neg (show ¬ (ev i = e ∧ tb i = 0 ∧ fl i ≠ -1) from fun x => h ⟨x.1, x.2.2⟩), if_neg (show ¬ (ev i = e ∧ tb i = 1 ∧ fl i ≠ -1) from fun x => h ⟨x.1, x.2.2⟩), if_neg (show ¬ (ev i = e ∧ tb i = 2 ∧ fl i ≠ -1) from fun x => h ⟨x.1, x.2.2⟩)]
      exact h1
def pq (P : Nat) (l ev tb fl : Nat → Int) (n : Nat) (e : Int) (w : Nat → Int) : Nat → Int
  | 0 => 1
  | v + 1 => pq P l ev tb fl n e w v * lsum l v P ^ oe ev tb fl e w v n
def lpq (l ev tb fl : Nat → Int) (n : Nat) (e : Int) (w : Nat → Int) : Nat → Int
  | 0 => 1
  | t + 1 => lpq l ev tb fl n e w t * lpt l ev tb fl e w t n
theorem pq_s {P : Nat} {l ev tb fl : Nat → Int} {n : Nat} {e : Int} {w : Nat → Int} {v : Nat} : pq P l ev tb fl n e w (v + 1) = pq P l ev tb fl n e w v * lsum l v P ^ oe ev tb fl e w v n := rfl
theorem lpq_s {l ev tb fl : Nat → Int} {n : Nat} {e : Int} {w : Nat → Int} {t : Nat} : lpq l ev tb fl n e w (t + 1) = lpq l ev tb fl n e w t * lpt l ev tb fl e w t n := rfl
theorem pq_step {P i : Nat} {l ev tb fl : Nat → Int} {e : Int} {w : Nat → Int} {v : Nat} (hv : v < 4) (h : ev i = e ∧ fl i ≠ -1) (hw : w (tb i).toNat = (v : Int)) : pq P l ev tb fl (i + 1) e w 4 = pq P l ev tb fl i e w 4 * oth l P v := by
  have z (u : Nat) (hu : u ≠ v) : oe ev tb fl e w u (i + 1) = oe ev tb fl e w u i + 1 := by rw [oe, if_pos ⟨h.1, h.2, by omega⟩]
  have y : oe ev tb fl e w v (i + 1) = oe ev tb fl e w v i := by rw [oe, if_neg (fun q => q.2.2 hw)]; rfl
  rw [pq_s, pq_s, pq_s, pq_s, pq_s, pq_s, pq_s, pq_s, oth]
  show 1 * _ * _ * _ * _ = 1 * _ * _ * _ * _ * _
  rcases (show v = 0 ∨ v = 1 ∨ v = 2 ∨ v = 3 by omega) with q | q | q | q <;> subst q
  · rw [y, z 1 (by decide), z 2 (by decide), z 3 (by decide), Int.pow_succ, Int.pow_succ, Int.pow_succ]
    show _ = _ * (lsum l 1 P * (lsum l 2 P * lsum l 3 P))
    grind
  · rw [y, z 0 (by decide), z 2 (by decide), z 3 (by decide), Int.pow_succ, Int.pow_succ, Int.pow_succ]
    show _ = _ * (lsum l 2 P * (lsum l 3 P * lsum l 0 P))
    grind
  · rw [y, z 0 (by decide), z 1 (by decide), z 3 (by decide), Int.pow_succ, Int.pow_succ, Int.pow_succ]
    show _ = _ * (lsum l 3 P * (lsum l 0 P * lsum l 1 P))
    grind
  · rw [y, z 0 (by decide), z 1 (by decide), z 2 (by decide), Int.pow_succ, Int.pow_succ, Int.pow_succ]
    show _ = _ * (lsum l 0 P * (lsum l 1 P * lsum l 2 P))
    grind
theorem pq_none {P i : Nat} {l ev tb fl : Nat → Int} {e : Int} {w : Nat → Int} (h : ¬ (ev i = e ∧ fl i ≠ -1)) : pq P l ev tb fl (i + 1) e w 4 = pq P l ev tb fl i e w 4 := by
  have y (v : Nat) : oe ev tb fl e w v (i + 1) = oe ev tb fl e w v i := by rw [oe, if_neg (fun q => h ⟨q.1, q.2.1⟩)]; rfl
  rw [pq_s, pq_s, pq_s, pq_s, pq_s, pq_s, pq_s, pq_s, y, y, y, y]
  rfl
theorem lpq_step {i t : Nat} {l ev tb fl : Nat → Int} {e : Int} {w : Nat → Int} (ht : t < 3) (h : ev i = e ∧ fl i ≠ -1) (hw : tb i = (t : Int)) : lpq l ev tb fl (i + 1) e w 3 = lpq l ev tb fl i e w 3 * l (37 * (w t).toNat + (fl i).toNat) := by
  have z (u : Nat) (hu : u ≠ t) : lpt l ev tb fl e w u (i + 1) = lpt l ev tb fl e w u i := by rw [lpt_s, if_neg (fun q => by have := q.2.1; omega), Int.mul_one]
  have y : lpt l ev tb fl e w t (i + 1) = lpt l ev tb fl e w t i * l (37 * (w t).toNat + (fl i).toNat) := by rw [lpt_s, if_pos ⟨h.1, hw, h.2⟩]
  rw [lpq_s, lpq_s, lpq_s, lpq_s, lpq_s, lpq_s]
  show 1 * _ * _ * _ = 1 * _ * _ * _ * _
  rcases (show t = 0 ∨ t = 1 ∨ t = 2 by omega) with q | q | q <;> subst q
  · rw [y, z 1 (by decide), z 2 (by decide)]; grind
  · rw [y, z 0 (by decide), z 2 (by decide)]; grind
  · rw [y, z 0 (by decide), z 1 (by decide)]; grind
theorem lpq_none {i : Nat} {l ev tb fl : Nat → Int} {e : Int} {w : Nat → Int} (h : ¬ (ev i = e ∧ fl i ≠ -1)) : lpq l ev tb fl (i + 1) e w 3 = lpq l ev tb fl i e w 3 := by
  have z (u : Nat) : lpt l ev tb fl e w u (i + 1) = lpt l ev tb fl e w u i := by rw [lpt_s, if_neg (fun q => h ⟨q.1, q.2.2⟩), Int.mul_one]
  rw [lpq_s, lpq_s, lpq_s, lpq_s, lpq_s, lpq_s, z, z, z]
  rfl
theorem lkw_pq {P n : Nat} {l ev tb fl sc : Nat → Int} (H : BkH P n l ev tb fl sc) {e : Int} {w : Nat → Int} (hw : ∀ t : Nat, t < 3 → w t ≤ 3) (hok : ∀ t : Nat, t < 3 → 0 < spn ev tb fl e (t : Int) n → 0 ≤ w t) : ∀ i, i ≤ n → lkw P l ev tb fl e w i = pq P l ev tb fl i e w 4 * lpq l ev tb fl i e w 3 := by
  intro i
  induction i with
  | zero =>
    intro _
    have z (v : Nat) : oe ev tb fl e w v 0 = 0 := rfl
    rw [pq_s, pq_s, pq_s, pq_s, z, z, z, z, Int.pow_zero, Int.pow_zero, Int.pow_zero, Int.pow_zero]
    rfl
  | succ i ih =>
    intro hi
    have h2 := (H.2.2.1 i (by omega)).2.1
    rw [lkw, ih (by omega), fac]
    by_cases h : ev i = e ∧ fl i ≠ -1
    · have ht : tb i = (((tb i).toNat : Nat) : Int) := by omega
      have h3 := spn_mono (ev := ev) (tb := tb) (fl := fl) (e := e) (t := (((tb i).toNat : Nat) : Int)) (show i + 1 ≤ n by omega)
      rw [spn, if_pos ⟨h.1, ht, h.2⟩] at h3
      have h4 := hok (tb i).toNat (by omega) (by omega)
      have h5 := hw (tb i).toNat (by omega)
      rw [if_pos h, pq_step (v := (w (tb i).toNat).toNat) (by omega) h (by omega), lpq_step (t := (tb i).toNat) (by omega) h ht]
      grind
    · rw [if_neg h, pq_none h, lpq_none h, Int.mul_one]
theorem pow_in {x : Int} {m : Int} (h : 1 ≤ x ∧ x ≤ m) (n : Nat) : 1 ≤ x ^ n ∧ x ^ n ≤ m ^ n := by
  induction n with
  | zero => rw [Int.pow_zero, Int.pow_zero]; omega
  | succ n ih => rw [Int.pow_succ, Int.pow_succ]; exact mul_in ih h
theorem oe_le {P n : Nat} {l ev tb fl sc : Nat → Int} (H : BkH P n l ev tb fl sc) {e : Nat} (he : e < 4) {w : Nat → Int} {v : Nat} : oe ev tb fl (e : Int) w v n ≤ 24 := by
  have h1 := usd_oe H (e := (e : Int)) (w := w) (v := v) n (Nat.le_refl _)
  have h2 := H.2.2.2.2.2 e he
  omega
theorem pq_in {P n : Nat} {l ev tb fl sc : Nat → Int} (H : BkH P n l ev tb fl sc) {e : Nat} (he : e < 4) {w : Nat → Int} {v j : Nat} (hv : v < 4) (hj : j ≤ oe ev tb fl (e : Int) w v n) : 1 ≤ pq P l ev tb fl n (e : Int) w v * lsum l v P ^ j ∧ pq P l ev tb fl n (e : Int) w v * lsum l v P ^ j ≤ 3663 ^ (24 * v + j) := by
  have hls (u : Nat) (hu : u < 4) : 1 ≤ lsum l u P ∧ lsum l u P ≤ 3663 := by
    have := lsum_in H.2.1 hu P (by have := H.1; omega)
    have := H.1
    omega
  have hp : ∀ u, u ≤ v → 1 ≤ pq P l ev tb fl n (e : Int) w u ∧ pq P l ev tb fl n (e : Int) w u ≤ 3663 ^ (24 * u) := by
    intro u
    induction u with
    | zero => intro _; exact ⟨Int.le_refl _, Int.le_refl _⟩
    | succ u ih =>
      intro hu
      have h2 := pow_in (hls u (by omega)) (oe ev tb fl (e : Int) w u n)
      have h3 := mul_in (ih (by omega)) ⟨h2.1, Int.le_trans h2.2 (pow_up (by decide) (oe_le H he))⟩
      rw [pq_s, show 24 * (u + 1) = 24 * u + 24 by omega, Int.pow_add]
      exact h3
  have h2 := pow_in (hls v hv) j
  rw [Int.pow_add]
  exact mul_in (hp v (Nat.le_refl _)) h2
theorem lpt_in {P n : Nat} {l ev tb fl sc : Nat → Int} (H : BkH P n l ev tb fl sc) {e : Int} {w : Nat → Int} {t : Nat} (hw : w t ≤ 3) : ∀ i, i ≤ n → 1 ≤ lpt l ev tb fl e w t i ∧ lpt l ev tb fl e w t i ≤ 99 ^ spn ev tb fl e (t : Int) i := by
  intro i
  induction i with
  | zero => intro _; exact ⟨Int.le_refl _, by show (1 : Int) ≤ 99 ^ 0; decide⟩
  | succ i ih =>
    intro hi
    have h1 := ih (by omega)
    have h2 := (H.2.2.1 i (by omega)).2.2
    have h5 := H.1
    rw [lpt_s, spn]
    by_cases h : ev i = e ∧ tb i = (t : Int) ∧ fl i ≠ -1
    · rw [if_pos h, if_pos h, Int.pow_succ]
      exact mul_in h1 (H.2.1 _ (by omega))
    · rw [if_neg h, if_neg h, Int.mul_one]; exact h1
theorem lpq_in {P n : Nat} {l ev tb fl sc : Nat → Int} (H : BkH P n l ev tb fl sc) {e : Int} {w : Nat → Int} (hw : ∀ t : Nat, t < 3 → w t ≤ 3) : ∀ t, t ≤ 3 → 1 ≤ lpq l ev tb fl n e w t ∧ lpq l ev tb fl n e w t ≤ 99 ^ smT ev tb fl n e t := by
  intro t
  induction t with
  | zero => intro _; exact ⟨Int.le_refl _, by show (1 : Int) ≤ 99 ^ 0; decide⟩
  | succ t ih =>
    intro ht
    rw [lpq_s, smT, Int.pow_add]
    exact mul_in (ih (by omega)) (lpt_in H (hw t (by omega)) n (Nat.le_refl _))
theorem xx_in {P n : Nat} {l ev tb fl sc : Nat → Int} (H : BkH P n l ev tb fl sc) {e : Nat} (he : e < 4) {w : Nat → Int} (hw : ∀ t : Nat, t < 3 → w t ≤ 3) {t i : Nat} (ht : t < 3) (hi : i ≤ n) : 1 ≤ pq P l ev tb fl n (e : Int) w 4 * (lpq l ev tb fl n (e : Int) w t * lpt l ev tb fl (e : Int) w t i) ∧ pq P l ev tb fl n (e : Int) w 4 * (lpq l ev tb fl n (e : Int) w t * lpt l ev tb fl (e : Int) w t i) ≤ 3663 ^ 96 * 99 ^ 24 := by
  have h1 := pq_in H he (w := w) (v := 3) (j := oe ev tb fl (e : Int) w 3 n) (by decide) (Nat.le_refl _)
  have h2 := mul_in (lpq_in H (e := (e : Int)) hw t (by omega)) (lpt_in H (hw t ht) i hi (e := (e : Int)))
  rw [← Int.pow_add] at h2
  have h3 := smT_le (ev := ev) (tb := tb) (fl := fl) (n := n) (e := (e : Int)) (t + 1) (by omega)
  have h4 := spn_mono (ev := ev) (tb := tb) (fl := fl) (e := (e : Int)) (t := (t : Int)) hi
  have h5 := H.2.2.2.2.2 e he
  rw [smT] at h3
  exact mul_in ⟨h1.1, Int.le_trans h1.2 (pow_up (by decide) (by have := oe_le H he (w := w) (v := 3); omega))⟩ ⟨h2.1, Int.le_trans h2.2 (pow_up (by decide) (by omega))⟩
theorem lpt_none {l ev tb fl : Nat → Int} {e : Int} {w : Nat → Int} {t : Nat} : ∀ n, spn ev tb fl e (t : Int) n = 0 → lpt l ev tb fl e w t n = 1 := by
  intro n
  induction n with
  | zero => intro _; rfl
  | succ n ih =>
    rw [spn, lpt_s]
    intro h
    by_cases q : ev n = e ∧ tb n = (t : Int) ∧ fl n ≠ -1
    · rw [if_pos q] at h; omega
    · rw [if_neg q, Int.mul_one]; rw [if_neg q] at h; exact ih (by omega)
theorem usd_le {ev tb fl : Nat → Int} {n : Nat} {e : Int} {w : Nat → Int} {v : Nat} (hn : n ≤ 200) : ∀ t : Nat, usd ev tb fl n e w v t ≤ 200 * t := by
  intro t
  induction t with
  | zero => exact Nat.le_refl _
  | succ t ih =>
    have := spn_le (ev := ev) (tb := tb) (fl := fl) (e := e) (t := (t : Int)) n
    rw [usd_s]
    split <;> omega
set_option maxHeartbeats 400000 in
set_option maxRecDepth 20000 in
theorem m_likeliness {sn : Nat} {sx : Nat → Int} {b : Nat} {g : am_G} {c : am_G} {P e : Nat} (hI : CInv P c) (hM : MRel c g) (he : e < 4) (hw : ∀ t : Nat, t < 3 → -1 ≤ g 137 t ∧ g 137 t ≤ 3) (hok : ∀ t : Nat, t < 3 → (0 < spn (c 11) (c 12) (c 14) (e : Int) (t : Int) (c 10 4).toNat ↔ 0 ≤ g 137 t)) : Ev sn sx 3 232 [(2, 127), (0, ((e : Nat) : Int))] (SH b) g (fun r => ∃ g', r = (none, SH b, g') ∧ MR g' 124 (lkw P (c 3) (c 11) (c 12) (c 14) (e : Int) (g 137) (c 10 4).toNat) ∧ FrM 124 g g') := by
  have h5 := hI.ck.1
  have hn := hI.rg.r10_6 4 rfl
  have hBk := hI.bk
  have hw3 : ∀ t : Nat, t < 3 → g 137 t ≤ 3 := fun t ht => (hw t ht).2
  have h24 : (spn (c 11) (c 12) (c 14) (e : Int) ((0 : Nat) : Int) (c 10 4).toNat + spn (c 11) (c 12) (c 14) (e : Int) ((1 : Nat) : Int) (c 10 4).toNat + spn (c 11) (c 12) (c 14) (e : Int) ((2 : Nat) : Int) (c 10 4).toNat) ≤ 24 := hBk.2.2.2.2.2 e he
  have hP : g 127 0 = (P : Int) := hM.n.trans hI.ck.2.1
  have hfn : ∀ {q : am_G}, FrM 124 g q → FrN g q := fun f c j k => f c j fun x => absurd (Or.inr (by omega)) k
  refine ev_of (K := 2) T232 (by decide) rfl rfl (Nat.le_of_ble_eq_true rfl) ?_
  refine wp_eq (L' := [(2, 127), (0, ((e : Nat) : Int)), (9, 0), (9, 0), (9, 0), (9, 0)]) (st' := []) (g' := g) ?_
  refine wp_n 3 (pc' := 3) (L' := [(2, 127), (0, ((e : Nat) : Int)), (9, 0), (9, 0), (9, 0), (9, 0)]) (st' := [(0, 0), (0, ((e : Nat) : Int)), (2, 127)]) (g' := g) rfl ?_
  refine wp_cv (as := [(2, 127), (0, ((e : Nat) : Int)), (0, 0)]) (rest := []) rfl rfl rfl (Nat.le_of_ble_eq_true rfl) rfl (m_spins (c := c) (P := P) (e := e) (t := 0) hI hM (by omega) (by omega)) (by decide) (fun r1 h2 => ?_)
  obtain rfl := h2
  refine wp_eq (L' := [(2, 127), (0, ((e : Nat) : Int)), (9, 0), (9, 0), (9, 0), (9, 0)]) (st' := [(0, (((spn (c 11) (c 12) (c 14) (e : Int) ((0 : Nat) : Int) (c 10 4).toNat) : Nat) : Int))]) (g' := g) ?_
  refine wp_n 3 (pc' := 9) (L' := [(2, 127), (0, ((e : Nat) : Int)), (9, 0), (9, 0), (9, 0), (9, 0)]) (st' := [(0, 1), (0, ((e : Nat) : Int)), (2, 127), (0, (((spn (c 11) (c 12) (c 14) (e : Int) ((0 : Nat) : Int) (c 10 4).toNat) : Nat) : Int))]) (g' := g) rfl ?_
  refine wp_cv (as := [(2, 127), (0, ((e : Nat) : Int)), (0, 1)]) (rest := [(0, (((spn (c 11) (c 12) (c 14) (e : Int) ((0 : Nat) : Int) (c 10 4).toNat) : Nat) : Int))]) rfl rfl rfl (Nat.le_of_ble_eq_true rfl) rfl (m_spins (c := c) (P := P) (e := e) (t := 1) hI hM (by omega) (by omega)) (by decide) (fun r3 h4 => ?_)
  obtain rfl := h4
  refine wp_eq (L' := [(2, 127), (0, ((e : Nat) : Int)), (9, 0), (9, 0), (9, 0), (9, 0)]) (st' := [(0, (((spn (c 11) (c 12) (c 14) (e : Int) ((1 : Nat) : Int) (c 10 4).toNat) : Nat) : Int)), (0, (((spn (c 11) (c 12) (c 14) (e : Int) ((0 : Nat) : Int) (c 10 4).toNat) : Nat) : Int))]) (g' := g) ?_
  refine wp_n 4 (pc' := 16) (L' := [(2, 127), (0, ((e : Nat) : Int)), (9, 0), (9, 0), (9, 0), (9, 0)]) (st' := [(0, 2), (0, ((e : Nat) : Int)), (2, 127), (0, ((((spn (c 11) (c 12) (c 14) (e : Int) ((0 : Nat) : Int) (c 10 4).toNat) : Nat) : Int) + (((spn (c 11) (c 12) (c 14) (e : Int) ((1 : Nat) : Int) (c 10 4).toNat) : Nat) : Int)))]) (g' := g) rfl ?_
  refine wp_cv (as := [(2, 127), (0, ((e : Nat) : Int)), (0, 2)]) (rest := [(0, ((((spn (c 11) (c 12) (c 14) (e : Int) ((0 : Nat) : Int) (c 10 4).toNat) : Nat) : Int) + (((spn (c 11) (c 12) (c 14) (e : Int) ((1 : Nat) : Int) (c 10 4).toNat) : Nat) : Int)))]) rfl rfl rfl (Nat.le_of_ble_eq_true rfl) rfl (m_spins (c := c) (P := P) (e := e) (t := 2) hI hM (by omega) (by omega)) (by decide) (fun r5 h6 => ?_)
  obtain rfl := h6
  refine wp_eq (L' := [(2, 127), (0, ((e : Nat) : Int)), (9, 0), (9, 0), (9, 0), (9, 0)]) (st' := [(0, (((spn (c 11) (c 12) (c 14) (e : Int) ((2 : Nat) : Int) (c 10 4).toNat) : Nat) : Int)), (0, ((((spn (c 11) (c 12) (c 14) (e : Int) ((0 : Nat) : Int) (c 10 4).toNat) : Nat) : Int) + (((spn (c 11) (c 12) (c 14) (e : Int) ((1 : Nat) : Int) (c 10 4).toNat) : Nat) : Int)))]) (g' := g) ?_
  refine wp_n 5 (pc' := 25) (L' := [(2, 127), (0, ((e : Nat) : Int)), (0, (((((spn (c 11) (c 12) (c 14) (e : Int) ((0 : Nat) : Int) (c 10 4).toNat) : Nat) : Int) + (((spn (c 11) (c 12) (c 14) (e : Int) ((1 : Nat) : Int) (c 10 4).toNat) : Nat) : Int)) + (((spn (c 11) (c 12) (c 14) (e : Int) ((2 : Nat) : Int) (c 10 4).toNat) : Nat) : Int))), (9, 0), (9, 0), (9, 0)]) (st' := [(0, 1), (0, 124), (2, 127)]) (g' := g) rfl ?_
  refine wp_cv (as := [(2, 127), (0, 124), (0, 1)]) (rest := []) rfl rfl rfl (Nat.le_of_ble_eq_true rfl) rfl (m_put (r := 124) (by omega) (by omega)) (by decide) (fun r7 h8 => ?_)
  obtain ⟨g25, rfl, hR25, hF25⟩ := h8
  refine wp_eq (L' := [(2, 127), (0, ((e : Nat) : Int)), (0, (((((spn (c 11) (c 12) (c 14) (e : Int) ((0 : Nat) : Int) (c 10 4).toNat) : Nat) : Int) + (((spn (c 11) (c 12) (c 14) (e : Int) ((1 : Nat) : Int) (c 10 4).toNat) : Nat) : Int)) + (((spn (c 11) (c 12) (c 14) (e : Int) ((2 : Nat) : Int) (c 10 4).toNat) : Nat) : Int))), (9, 0), (9, 0), (9, 0)]) (st' := []) (g' := g25) ?_
  refine wp_n 2 (pc' := 30) (L' := [(2, 127), (0, ((e : Nat) : Int)), (0, (((((spn (c 11) (c 12) (c 14) (e : Int) ((0 : Nat) : Int) (c 10 4).toNat) : Nat) : Int) + (((spn (c 11) (c 12) (c 14) (e : Int) ((1 : Nat) : Int) (c 10 4).toNat) : Nat) : Int)) + (((spn (c 11) (c 12) (c 14) (e : Int) ((2 : Nat) : Int) (c 10 4).toNat) : Nat) : Int))), (0, 0), (9, 0), (9, 0)]) (st' := []) (g' := g25) rfl ?_
  have L30 : ∀ (lf : Nat) (v : Nat) (h : am_G) (w4 w5 : am_V), 4 - v < lf → (v ≤ 4) → (MR h 124 (pq P (c 3) (c 11) (c 12) (c 14) (c 10 4).toNat (e : Int) (g 137) v)) → (FrM 124 g h) → Wp sn sx 2 T232 30 [(2, 127), (0, ((e : Nat) : Int)), (0, (((spn (c 11) (c 12) (c 14) (e : Int) ((0 : Nat) : Int) (c 10 4).toNat + spn (c 11) (c 12) (c 14) (e : Int) ((1 : Nat) : Int) (c 10 4).toNat + spn (c 11) (c 12) (c 14) (e : Int) ((2 : Nat) : Int) (c 10 4).toNat) : Nat) : Int)), (0, ((v : Nat) : Int)), w4, w5] [] (SH b) h (fun r => ∃ g', r = (none, SH b, g') ∧ MR g' 124 (lkw P (c 3) (c 11) (c 12) (c 14) (e : Int) (g 137) (c 10 4).toNat) ∧ FrM 124 g g') := by
    intro lf
    induction lf with
    | zero => intro v h w4 w5 hlf; exact absurd hlf (Nat.not_lt_zero _)
    | succ lf ih30 =>
      intro v h w4 w5 hlf hv hX hF
      refine wp_n 2 (pc' := 32) (L' := [(2, 127), (0, ((e : Nat) : Int)), (0, (((spn (c 11) (c 12) (c 14) (e : Int) ((0 : Nat) : Int) (c 10 4).toNat + spn (c 11) (c 12) (c 14) (e : Int) ((1 : Nat) : Int) (c 10 4).toNat + spn (c 11) (c 12) (c 14) (e : Int) ((2 : Nat) : Int) (c 10 4).toNat) : Nat) : Int)), (0, ((v : Nat) : Int)), w4, w5]) (st' := [(0, 4), (0, ((v : Nat) : Int))]) (g' := h) rfl ?_
      refine wp_ic_ge rfl (fun c9 => ?_) (fun c9 => ?_)
      · obtain rfl : v = 4 := by omega
        refine wp_n 2 (pc' := 115) (L' := [(2, 127), (0, ((e : Nat) : Int)), (0, (((spn (c 11) (c 12) (c 14) (e : Int) ((0 : Nat) : Int) (c 10 4).toNat + spn (c 11) (c 12) (c 14) (e : Int) ((1 : Nat) : Int) (c 10 4).toNat + spn (c 11) (c 12) (c 14) (e : Int) ((2 : Nat) : Int) (c 10 4).toNat) : Nat) : Int)), (0, 0), w4, w5]) (st' := []) (g' := h) rfl ?_
        have L115 : ∀ (lf : Nat) (t : Nat) (p : am_G) (w4 : am_V), 3 - t < lf → (t ≤ 3) → (MR p 124 ((pq P (c 3) (c 11) (c 12) (c 14) (c 10 4).toNat (e : Int) (g 137) 4) * (lpq (c 3) (c 11) (c 12) (c 14) (c 10 4).toNat (e : Int) (g 137) t))) → (FrM 124 g p) → Wp sn sx 2 T232 115 [(2, 127), (0, ((e : Nat) : Int)), (0, (((spn (c 11) (c 12) (c 14) (e : Int) ((0 : Nat) : Int) (c 10 4).toNat + spn (c 11) (c 12) (c 14) (e : Int) ((1 : Nat) : Int) (c 10 4).toNat + spn (c 11) (c 12) (c 14) (e : Int) ((2 : Nat) : Int) (c 10 4).toNat) : Nat) : Int)), (0, ((t : Nat) : Int)), w4, w5] [] (SH b) p (fun r => ∃ g', r = (none, SH b, g') ∧ MR g' 124 (lkw P (c 3) (c 11) (c 12) (c 14) (e : Int) (g 137) (c 10 4).toNat) ∧ FrM 124 g g') := by
          intro lf
          induction lf with
          | zero => intro t p w4 hlf; exact absurd hlf (Nat.not_lt_zero _)
          | succ lf ih115 =>
            intro t p w4 hlf ht hT hF3
            refine wp_n 2 (pc' := 117) (L' := [(2, 127), (0, ((e : Nat) : Int)), (0, (((spn (c 11) (c 12) (c 14) (e : Int) ((0 : Nat) : Int) (c 10 4).toNat + spn (c 11) (c 12) (c 14) (e : Int) ((1 : Nat) : Int) (c 10 4).toNat + spn (c 11) (c 12) (c 14) (e : Int) ((2 : Nat) : Int) (c 10 4).toNat) : Nat) : Int)), (0, ((t : Nat) : Int)), w4, w5]) (st' := [(0, 3), (0, ((t : Nat) : Int))]) (g' := p) rfl ?_
            refine wp_ic_ge rfl (fun c10 => ?_) (fun c10 => ?_)
            · obtain rfl : t = 3 := by omega
              have hT3 := hT
              exact wp_ret rfl rfl rfl ⟨_, rfl, by rw [lkw_pq hBk (fun t ht => (hw t ht).2) (fun t ht => (hok t ht).mp) _ (Nat.le_refl _)]; exact hT3, hF3⟩
            · have hwt := hw t (by omega)
              have hso := hok t (by omega)
              refine wp_n 2 (pc' := 123) (L' := [(2, 127), (0, ((e : Nat) : Int)), (0, (((spn (c 11) (c 12) (c 14) (e : Int) ((0 : Nat) : Int) (c 10 4).toNat + spn (c 11) (c 12) (c 14) (e : Int) ((1 : Nat) : Int) (c 10 4).toNat + spn (c 11) (c 12) (c 14) (e : Int) ((2 : Nat) : Int) (c 10 4).toNat) : Nat) : Int)), (0, ((t : Nat) : Int)), (0, 0), w5]) (st' := []) (g' := p) rfl ?_
              have L123 : ∀ (lf : Nat) (i : Nat) (q : am_G), (c 10 4).toNat - i < lf → (i ≤ (c 10 4).toNat) → (MR q 124 ((pq P (c 3) (c 11) (c 12) (c 14) (c 10 4).toNat (e : Int) (g 137) 4) * ((lpq (c 3) (c 11) (c 12) (c 14) (c 10 4).toNat (e : Int) (g 137) t) * (lpt (c 3) (c 11) (c 12) (c 14) (e : Int) (g 137) t i)))) → (FrM 124 g q) → Wp sn sx 2 T232 123 [(2, 127), (0, ((e : Nat) : Int)), (0, (((spn (c 11) (c 12) (c 14) (e : Int) ((0 : Nat) : Int) (c 10 4).toNat + spn (c 11) (c 12) (c 14) (e : Int) ((1 : Nat) : Int) (c 10 4).toNat + spn (c 11) (c 12) (c 14) (e : Int) ((2 : Nat) : Int) (c 10 4).toNat) : Nat) : Int)), (0, ((t : Nat) : Int)), (0, ((i : Nat) : Int)), w5] [] (SH b) q (fun r => ∃ g', r = (none, SH b, g') ∧ MR g' 124 (lkw P (c 3) (c 11) (c 12) (c 14) (e : Int) (g 137) (c 10 4).toNat) ∧ FrM 124 g g') := by
                intro lf
                induction lf with
                | zero => intro i q hlf; exact absurd hlf (Nat.not_lt_zero _)
                | succ lf ih123 =>
                  intro i q hlf hi hQ hFi
                  refine wp_n 4 (pc' := 130) (L' := [(2, 127), (0, ((e : Nat) : Int)), (0, (((spn (c 11) (c 12) (c 14) (e : Int) ((0 : Nat) : Int) (c 10 4).toNat + spn (c 11) (c 12) (c 14) (e : Int) ((1 : Nat) : Int) (c 10 4).toNat + spn (c 11) (c 12) (c 14) (e : Int) ((2 : Nat) : Int) (c 10 4).toNat) : Nat) : Int)), (0, ((t : Nat) : Int)), (0, ((i : Nat) : Int)), w5]) (st' := [(0, 2), (2, 128), (0, ((i : Nat) : Int))]) (g' := q) rfl ?_
                  refine wp_iald (k := 128) (2) rfl rfl (by omega) (by omega) (by decide) ?_
                  refine wp_eq (L' := [(2, 127), (0, ((e : Nat) : Int)), (0, (((spn (c 11) (c 12) (c 14) (e : Int) ((0 : Nat) : Int) (c 10 4).toNat + spn (c 11) (c 12) (c 14) (e : Int) ((1 : Nat) : Int) (c 10 4).toNat + spn (c 11) (c 12) (c 14) (e : Int) ((2 : Nat) : Int) (c 10 4).toNat) : Nat) : Int)), (0, ((t : Nat) : Int)), (0, ((i : Nat) : Int)), w5]) (st' := [(0, (c 10 4)), (0, ((i : Nat) : Int))]) (g' := q) ?_ (by rfl) (by rw [hFi 128 2 (fun e => absurd e (by decide)), hM.written]) (by rfl)
                  refine wp_ic_ge rfl (fun c11 => ?_) (fun c11 => ?_)
                  · have hie : i = (c 10 4).toNat := by omega
                    have hTn := hQ
                    rw [hie] at hTn
                    refine wp_n 2 (pc' := 115) (L' := [(2, 127), (0, ((e : Nat) : Int)), (0, (((spn (c 11) (c 12) (c 14) (e : Int) ((0 : Nat) : Int) (c 10 4).toNat + spn (c 11) (c 12) (c 14) (e : Int) ((1 : Nat) : Int) (c 10 4).toNat + spn (c 11) (c 12) (c 14) (e : Int) ((2 : Nat) : Int) (c 10 4).toNat) : Nat) : Int)), (0, (((t : Nat) : Int) + 1)), (0, ((i : Nat) : Int)), w5]) (st' := []) (g' := q) rfl ?_
                    refine wp_eq (ih115 (t + 1) (q) ((0, ((i : Nat) : Int))) ?_ ?_ ?_ ?_) (by first | rfl | (simp; done) | (simp; omega)) (by rfl) (by rfl)
                    · omega
                    · omega
                    · rw [lpq_s]; exact hTn
                    · exact hFi
                  · have hMq := hM.g_same (hfn hFi)
                    have hbi := hBk.2.2.1 i (by omega)
                    refine wp_n 3 (pc' := 139) (L' := [(2, 127), (0, ((e : Nat) : Int)), (0, (((spn (c 11) (c 12) (c 14) (e : Int) ((0 : Nat) : Int) (c 10 4).toNat + spn (c 11) (c 12) (c 14) (e : Int) ((1 : Nat) : Int) (c 10 4).toNat + spn (c 11) (c 12) (c 14) (e : Int) ((2 : Nat) : Int) (c 10 4).toNat) : Nat) : Int)), (0, ((t : Nat) : Int)), (0, ((i : Nat) : Int)), w5]) (st' := [(0, ((t : Nat) : Int)), (2, 137)]) (g' := q) rfl ?_
                    refine wp_iald (k := 137) (t) rfl rfl (by omega) (by omega) (by decide) ?_
                    refine wp_eq (L' := [(2, 127), (0, ((e : Nat) : Int)), (0, (((spn (c 11) (c 12) (c 14) (e : Int) ((0 : Nat) : Int) (c 10 4).toNat + spn (c 11) (c 12) (c 14) (e : Int) ((1 : Nat) : Int) (c 10 4).toNat + spn (c 11) (c 12) (c 14) (e : Int) ((2 : Nat) : Int) (c 10 4).toNat) : Nat) : Int)), (0, ((t : Nat) : Int)), (0, ((i : Nat) : Int)), w5]) (st' := [(0, (g 137 t))]) (g' := q) ?_ (by rfl) (by rw [hFi 137 t (fun e => absurd e (by decide))]) (by rfl)
                    refine wp_if_lt rfl (fun c12 => ?_) (fun c12 => ?_)
                    · have hTn : MR q 124 ((pq P (c 3) (c 11) (c 12) (c 14) (c 10 4).toNat (e : Int) (g 137) 4) * ((lpq (c 3) (c 11) (c 12) (c 14) (c 10 4).toNat (e : Int) (g 137) t) * (lpt (c 3) (c 11) (c 12) (c 14) (e : Int) (g 137) t (c 10 4).toNat))) := by
                        have e1 : (lpt (c 3) (c 11) (c 12) (c 14) (e : Int) (g 137) t (c 10 4).toNat) = 1 := lpt_none (c 10 4).toNat (by omega)
                        have e2 : (lpt (c 3) (c 11) (c 12) (c 14) (e : Int) (g 137) t i) = 1 := lpt_none i (by have := spn_mono (ev := c 11) (tb := c 12) (fl := c 14) (e := (e : Int)) (t := ((t : Nat) : Int)) hi; omega)
                        rw [e2] at hQ
                        rw [e1]
                        exact hQ
                      refine wp_n 2 (pc' := 115) (L' := [(2, 127), (0, ((e : Nat) : Int)), (0, (((spn (c 11) (c 12) (c 14) (e : Int) ((0 : Nat) : Int) (c 10 4).toNat + spn (c 11) (c 12) (c 14) (e : Int) ((1 : Nat) : Int) (c 10 4).toNat + spn (c 11) (c 12) (c 14) (e : Int) ((2 : Nat) : Int) (c 10 4).toNat) : Nat) : Int)), (0, (((t : Nat) : Int) + 1)), (0, ((i : Nat) : Int)), w5]) (st' := []) (g' := q) rfl ?_
                      refine wp_eq (ih115 (t + 1) (q) ((0, ((i : Nat) : Int))) ?_ ?_ ?_ ?_) (by first | rfl | (simp; done) | (simp; omega)) (by rfl) (by rfl)
                      · omega
                      · omega
                      · rw [lpq_s]; exact hTn
                      · exact hFi
                    · refine wp_n 4 (pc' := 148) (L' := [(2, 127), (0, ((e : Nat) : Int)), (0, (((spn (c 11) (c 12) (c 14) (e : Int) ((0 : Nat) : Int) (c 10 4).toNat + spn (c 11) (c 12) (c 14) (e : Int) ((1 : Nat) : Int) (c 10 4).toNat + spn (c 11) (c 12) (c 14) (e : Int) ((2 : Nat) : Int) (c 10 4).toNat) : Nat) : Int)), (0, ((t : Nat) : Int)), (0, ((i : Nat) : Int)), w5]) (st' := [(0, ((t : Nat) : Int)), (0, ((e : Nat) : Int)), (0, ((i : Nat) : Int)), (2, 127)]) (g' := q) rfl ?_
                      refine wp_cv (as := [(2, 127), (0, ((i : Nat) : Int)), (0, ((e : Nat) : Int)), (0, ((t : Nat) : Int))]) (rest := []) rfl rfl rfl (Nat.le_of_ble_eq_true rfl) rfl (m_isSpin (c := c) (P := P) (i := i) hI.rg hMq h5 (by omega) (by omega) (by omega)) (by decide) (fun r13 h14 => ?_)
                      rcases h14 with ⟨rfl, p148⟩ | ⟨rfl, p148⟩
                      · have hxb := xx_in hBk he hw3 (t := t) (i := i + 1) (by omega) (by omega)
                        rw [lpt_s, if_pos p148, ← Int.mul_assoc, ← Int.mul_assoc] at hxb
                        have hlb := hBk.2.1 (37 * (g 137 t).toNat + (c 14 i).toNat) (by omega)
                        refine wp_eq (L' := [(2, 127), (0, ((e : Nat) : Int)), (0, (((spn (c 11) (c 12) (c 14) (e : Int) ((0 : Nat) : Int) (c 10 4).toNat + spn (c 11) (c 12) (c 14) (e : Int) ((1 : Nat) : Int) (c 10 4).toNat + spn (c 11) (c 12) (c 14) (e : Int) ((2 : Nat) : Int) (c 10 4).toNat) : Nat) : Int)), (0, ((t : Nat) : Int)), (0, ((i : Nat) : Int)), w5]) (st' := [(0, 1)]) (g' := q) ?_
                        refine wp_n 10 (pc' := 171) (L' := [(2, 127), (0, ((e : Nat) : Int)), (0, (((spn (c 11) (c 12) (c 14) (e : Int) ((0 : Nat) : Int) (c 10 4).toNat + spn (c 11) (c 12) (c 14) (e : Int) ((1 : Nat) : Int) (c 10 4).toNat + spn (c 11) (c 12) (c 14) (e : Int) ((2 : Nat) : Int) (c 10 4).toNat) : Nat) : Int)), (0, ((t : Nat) : Int)), (0, ((i : Nat) : Int)), w5]) (st' := [(0, ((t : Nat) : Int)), (2, 137), (0, 37), (0, 170), (2, 128), (0, 124), (2, 127)]) (g' := q) rfl ?_
                        refine wp_iald (k := 137) (t) rfl rfl (by omega) (by omega) (by decide) ?_
                        refine wp_eq (L' := [(2, 127), (0, ((e : Nat) : Int)), (0, (((spn (c 11) (c 12) (c 14) (e : Int) ((0 : Nat) : Int) (c 10 4).toNat + spn (c 11) (c 12) (c 14) (e : Int) ((1 : Nat) : Int) (c 10 4).toNat + spn (c 11) (c 12) (c 14) (e : Int) ((2 : Nat) : Int) (c 10 4).toNat) : Nat) : Int)), (0, ((t : Nat) : Int)), (0, ((i : Nat) : Int)), w5]) (st' := [(0, (g 137 t)), (0, 37), (0, 170), (2, 128), (0, 124), (2, 127)]) (g' := q) ?_ (by rfl) (by rw [hFi 137 t (fun e => absurd e (by decide))]) (by rfl)
                        refine wp_n 11 (pc' := 188) (L' := [(2, 127), (0, ((e : Nat) : Int)), (0, (((spn (c 11) (c 12) (c 14) (e : Int) ((0 : Nat) : Int) (c 10 4).toNat + spn (c 11) (c 12) (c 14) (e : Int) ((1 : Nat) : Int) (c 10 4).toNat + spn (c 11) (c 12) (c 14) (e : Int) ((2 : Nat) : Int) (c 10 4).toNat) : Nat) : Int)), (0, ((t : Nat) : Int)), (0, ((i : Nat) : Int)), w5]) (st' := [(0, ((580 + (4 * ((i : Nat) : Int))) + 3)), (2, 128), (0, (170 + (37 * (g 137 t)))), (2, 128), (0, 124), (2, 127)]) (g' := q) rfl ?_
                        refine wp_iald (k := 128) ((580 + 4 * i + 3)) rfl rfl (by omega) (by omega) (by decide) ?_
                        refine wp_eq (L' := [(2, 127), (0, ((e : Nat) : Int)), (0, (((spn (c 11) (c 12) (c 14) (e : Int) ((0 : Nat) : Int) (c 10 4).toNat + spn (c 11) (c 12) (c 14) (e : Int) ((1 : Nat) : Int) (c 10 4).toNat + spn (c 11) (c 12) (c 14) (e : Int) ((2 : Nat) : Int) (c 10 4).toNat) : Nat) : Int)), (0, ((t : Nat) : Int)), (0, ((i : Nat) : Int)), w5]) (st' := [(0, (c 14 i)), (0, (170 + (37 * (g 137 t)))), (2, 128), (0, 124), (2, 127)]) (g' := q) ?_ (by rfl) (by rw [hFi 128 _ (fun e => absurd e (by decide)), hM.fl _ (by omega)]) (by rfl)
                        refine wp_n 1 (pc' := 190) (L' := [(2, 127), (0, ((e : Nat) : Int)), (0, (((spn (c 11) (c 12) (c 14) (e : Int) ((0 : Nat) : Int) (c 10 4).toNat + spn (c 11) (c 12) (c 14) (e : Int) ((1 : Nat) : Int) (c 10 4).toNat + spn (c 11) (c 12) (c 14) (e : Int) ((2 : Nat) : Int) (c 10 4).toNat) : Nat) : Int)), (0, ((t : Nat) : Int)), (0, ((i : Nat) : Int)), w5]) (st' := [(0, ((170 + (37 * (g 137 t))) + (c 14 i))), (2, 128), (0, 124), (2, 127)]) (g' := q) rfl ?_
                        refine wp_iald (k := 128) ((170 + (37 * (g 137 t).toNat + (c 14 i).toNat))) rfl rfl (by omega) (by omega) (by decide) ?_
                        refine wp_eq (L' := [(2, 127), (0, ((e : Nat) : Int)), (0, (((spn (c 11) (c 12) (c 14) (e : Int) ((0 : Nat) : Int) (c 10 4).toNat + spn (c 11) (c 12) (c 14) (e : Int) ((1 : Nat) : Int) (c 10 4).toNat + spn (c 11) (c 12) (c 14) (e : Int) ((2 : Nat) : Int) (c 10 4).toNat) : Nat) : Int)), (0, ((t : Nat) : Int)), (0, ((i : Nat) : Int)), w5]) (st' := [(0, (c 3 (37 * (g 137 t).toNat + (c 14 i).toNat))), (0, 124), (2, 127)]) (g' := q) ?_ (by rfl) (by rw [hFi 128 _ (fun e => absurd e (by decide)), hM.lean _ (by omega)]) (by rfl)
                        refine wp_cv (as := [(2, 127), (0, 124), (0, (c 3 (37 * (g 137 t).toNat + (c 14 i).toNat)))]) (rest := []) rfl rfl rfl (Nat.le_of_ble_eq_true rfl) rfl (m_times (r := 124) (by omega) hQ (by omega) (Int.lt_of_le_of_lt (by rw [← Int.mul_assoc]; exact hxb.2) (by decide))) (by decide) (fun r15 h16 => ?_)
                        obtain ⟨g191, rfl, hR191, hF191⟩ := h16
                        refine wp_eq (L' := [(2, 127), (0, ((e : Nat) : Int)), (0, (((spn (c 11) (c 12) (c 14) (e : Int) ((0 : Nat) : Int) (c 10 4).toNat + spn (c 11) (c 12) (c 14) (e : Int) ((1 : Nat) : Int) (c 10 4).toNat + spn (c 11) (c 12) (c 14) (e : Int) ((2 : Nat) : Int) (c 10 4).toNat) : Nat) : Int)), (0, ((t : Nat) : Int)), (0, ((i : Nat) : Int)), w5]) (st' := []) (g' := g191) ?_
                        refine wp_n 2 (pc' := 123) (L' := [(2, 127), (0, ((e : Nat) : Int)), (0, (((spn (c 11) (c 12) (c 14) (e : Int) ((0 : Nat) : Int) (c 10 4).toNat + spn (c 11) (c 12) (c 14) (e : Int) ((1 : Nat) : Int) (c 10 4).toNat + spn (c 11) (c 12) (c 14) (e : Int) ((2 : Nat) : Int) (c 10 4).toNat) : Nat) : Int)), (0, ((t : Nat) : Int)), (0, (((i : Nat) : Int) + 1)), w5]) (st' := []) (g' := g191) rfl ?_
                        refine wp_eq (ih123 (i + 1) (g191) ?_ ?_ ?_ ?_) (by first | rfl | (simp; done) | (simp; omega)) (by rfl) (by rfl)
                        · omega
                        · omega
                        · first
                          | (rw [lpt_s, if_pos p148, ← Int.mul_assoc, ← Int.mul_assoc]; rw [← Int.mul_assoc] at hR191; exact hR191)
                          | (rw [lpt_s, if_neg p148, Int.mul_one]; exact hQ)
                        · first | exact hFi.trans hF191 | exact hFi
                      · refine wp_eq (L' := [(2, 127), (0, ((e : Nat) : Int)), (0, (((spn (c 11) (c 12) (c 14) (e : Int) ((0 : Nat) : Int) (c 10 4).toNat + spn (c 11) (c 12) (c 14) (e : Int) ((1 : Nat) : Int) (c 10 4).toNat + spn (c 11) (c 12) (c 14) (e : Int) ((2 : Nat) : Int) (c 10 4).toNat) : Nat) : Int)), (0, ((t : Nat) : Int)), (0, ((i : Nat) : Int)), w5]) (st' := [(0, 0)]) (g' := q) ?_
                        refine wp_n 3 (pc' := 123) (L' := [(2, 127), (0, ((e : Nat) : Int)), (0, (((spn (c 11) (c 12) (c 14) (e : Int) ((0 : Nat) : Int) (c 10 4).toNat + spn (c 11) (c 12) (c 14) (e : Int) ((1 : Nat) : Int) (c 10 4).toNat + spn (c 11) (c 12) (c 14) (e : Int) ((2 : Nat) : Int) (c 10 4).toNat) : Nat) : Int)), (0, ((t : Nat) : Int)), (0, (((i : Nat) : Int) + 1)), w5]) (st' := []) (g' := q) rfl ?_
                        refine wp_eq (ih123 (i + 1) (q) ?_ ?_ ?_ ?_) (by first | rfl | (simp; done) | (simp; omega)) (by rfl) (by rfl)
                        · omega
                        · omega
                        · first
                          | (rw [lpt_s, if_pos p148, ← Int.mul_assoc, ← Int.mul_assoc]; rw [← Int.mul_assoc] at hR191; exact hR191)
                          | (rw [lpt_s, if_neg p148, Int.mul_one]; exact hQ)
                        · first | exact hFi.trans hF191 | exact hFi
              refine wp_eq (L123 (_ + 1) (0) (p) (Nat.lt_succ_self _) ?_ ?_ ?_) (by first | rfl | (simp; done) | (simp; omega)) (by rfl) (by rfl)
              · exact Nat.zero_le _
              · rw [show (lpt (c 3) (c 11) (c 12) (c 14) (e : Int) (g 137) t 0) = 1 from rfl, Int.mul_one]; exact hT
              · exact hF3
        refine wp_eq (L115 (_ + 1) (0) (h) (w4) (Nat.lt_succ_self _) ?_ ?_ ?_) (by first | rfl | (simp; done) | (simp; omega)) (by rfl) (by rfl)
        · exact Nat.zero_le _
        · show MR h 124 ((pq P (c 3) (c 11) (c 12) (c 14) (c 10 4).toNat (e : Int) (g 137) 4) * 1); rw [Int.mul_one]; exact hX
        · exact hF
      · have hMh := hM.g_same (hfn hF)
        refine wp_n 4 (pc' := 41) (L' := [(2, 127), (0, ((e : Nat) : Int)), (0, (((spn (c 11) (c 12) (c 14) (e : Int) ((0 : Nat) : Int) (c 10 4).toNat + spn (c 11) (c 12) (c 14) (e : Int) ((1 : Nat) : Int) (c 10 4).toNat + spn (c 11) (c 12) (c 14) (e : Int) ((2 : Nat) : Int) (c 10 4).toNat) : Nat) : Int)), (0, ((v : Nat) : Int)), (0, 0), (0, 0)]) (st' := []) (g' := h) rfl ?_
        have L41 : ∀ (lf : Nat) (u : Nat), 3 - u < lf → (u ≤ 3) → Wp sn sx 2 T232 41 [(2, 127), (0, ((e : Nat) : Int)), (0, (((spn (c 11) (c 12) (c 14) (e : Int) ((0 : Nat) : Int) (c 10 4).toNat + spn (c 11) (c 12) (c 14) (e : Int) ((1 : Nat) : Int) (c 10 4).toNat + spn (c 11) (c 12) (c 14) (e : Int) ((2 : Nat) : Int) (c 10 4).toNat) : Nat) : Int)), (0, ((v : Nat) : Int)), (0, (((usd (c 11) (c 12) (c 14) (c 10 4).toNat (e : Int) (g 137) v u) : Nat) : Int)), (0, ((u : Nat) : Int))] [] (SH b) h (fun r => ∃ g', r = (none, SH b, g') ∧ MR g' 124 (lkw P (c 3) (c 11) (c 12) (c 14) (e : Int) (g 137) (c 10 4).toNat) ∧ FrM 124 g g') := by
          intro lf
          induction lf with
          | zero => intro u hlf; exact absurd hlf (Nat.not_lt_zero _)
          | succ lf ih41 =>
            intro u hlf hu
            refine wp_n 2 (pc' := 44) (L' := [(2, 127), (0, ((e : Nat) : Int)), (0, (((spn (c 11) (c 12) (c 14) (e : Int) ((0 : Nat) : Int) (c 10 4).toNat + spn (c 11) (c 12) (c 14) (e : Int) ((1 : Nat) : Int) (c 10 4).toNat + spn (c 11) (c 12) (c 14) (e : Int) ((2 : Nat) : Int) (c 10 4).toNat) : Nat) : Int)), (0, ((v : Nat) : Int)), (0, (((usd (c 11) (c 12) (c 14) (c 10 4).toNat (e : Int) (g 137) v u) : Nat) : Int)), (0, ((u : Nat) : Int))]) (st' := [(0, 3), (0, ((u : Nat) : Int))]) (g' := h) rfl ?_
            refine wp_ic_ge rfl (fun c17 => ?_) (fun c17 => ?_)
            · have hu3 : u = 3 := by omega
              have huo : (usd (c 11) (c 12) (c 14) (c 10 4).toNat (e : Int) (g 137) v 3) + oe (c 11) (c 12) (c 14) (e : Int) (g 137) v (c 10 4).toNat = (spn (c 11) (c 12) (c 14) (e : Int) ((0 : Nat) : Int) (c 10 4).toNat + spn (c 11) (c 12) (c 14) (e : Int) ((1 : Nat) : Int) (c 10 4).toNat + spn (c 11) (c 12) (c 14) (e : Int) ((2 : Nat) : Int) (c 10 4).toNat) := usd_oe hBk (c 10 4).toNat (Nat.le_refl _)
              have huo1 : (usd (c 11) (c 12) (c 14) (c 10 4).toNat (e : Int) (g 137) v 3) ≤ (spn (c 11) (c 12) (c 14) (e : Int) ((0 : Nat) : Int) (c 10 4).toNat + spn (c 11) (c 12) (c 14) (e : Int) ((1 : Nat) : Int) (c 10 4).toNat + spn (c 11) (c 12) (c 14) (e : Int) ((2 : Nat) : Int) (c 10 4).toNat) := by omega
              refine wp_eq (L' := [(2, 127), (0, ((e : Nat) : Int)), (0, (((spn (c 11) (c 12) (c 14) (e : Int) ((0 : Nat) : Int) (c 10 4).toNat + spn (c 11) (c 12) (c 14) (e : Int) ((1 : Nat) : Int) (c 10 4).toNat + spn (c 11) (c 12) (c 14) (e : Int) ((2 : Nat) : Int) (c 10 4).toNat) : Nat) : Int)), (0, ((v : Nat) : Int)), (0, (((usd (c 11) (c 12) (c 14) (c 10 4).toNat (e : Int) (g 137) v 3) : Nat) : Int)), (0, ((u : Nat) : Int))]) (st' := []) (g' := h) ?_ (by rw [hu3]) (by rfl) (by rfl)
              refine wp_n 2 (pc' := 84) (L' := [(2, 127), (0, ((e : Nat) : Int)), (0, (((spn (c 11) (c 12) (c 14) (e : Int) ((0 : Nat) : Int) (c 10 4).toNat + spn (c 11) (c 12) (c 14) (e : Int) ((1 : Nat) : Int) (c 10 4).toNat + spn (c 11) (c 12) (c 14) (e : Int) ((2 : Nat) : Int) (c 10 4).toNat) : Nat) : Int)), (0, ((v : Nat) : Int)), (0, (((usd (c 11) (c 12) (c 14) (c 10 4).toNat (e : Int) (g 137) v 3) : Nat) : Int)), (0, (((usd (c 11) (c 12) (c 14) (c 10 4).toNat (e : Int) (g 137) v 3) : Nat) : Int))]) (st' := []) (g' := h) rfl ?_
              have L84 : ∀ (lf : Nat) (k : Nat) (m : am_G), (spn (c 11) (c 12) (c 14) (e : Int) ((0 : Nat) : Int) (c 10 4).toNat + spn (c 11) (c 12) (c 14) (e : Int) ((1 : Nat) : Int) (c 10 4).toNat + spn (c 11) (c 12) (c 14) (e : Int) ((2 : Nat) : Int) (c 10 4).toNat) - k < lf → ((usd (c 11) (c 12) (c 14) (c 10 4).toNat (e : Int) (g 137) v 3) ≤ k) → (k ≤ (spn (c 11) (c 12) (c 14) (e : Int) ((0 : Nat) : Int) (c 10 4).toNat + spn (c 11) (c 12) (c 14) (e : Int) ((1 : Nat) : Int) (c 10 4).toNat + spn (c 11) (c 12) (c 14) (e : Int) ((2 : Nat) : Int) (c 10 4).toNat)) → (MR m 124 ((pq P (c 3) (c 11) (c 12) (c 14) (c 10 4).toNat (e : Int) (g 137) v) * lsum (c 3) v P ^ (k - (usd (c 11) (c 12) (c 14) (c 10 4).toNat (e : Int) (g 137) v 3)))) → (FrM 124 g m) → Wp sn sx 2 T232 84 [(2, 127), (0, ((e : Nat) : Int)), (0, (((spn (c 11) (c 12) (c 14) (e : Int) ((0 : Nat) : Int) (c 10 4).toNat + spn (c 11) (c 12) (c 14) (e : Int) ((1 : Nat) : Int) (c 10 4).toNat + spn (c 11) (c 12) (c 14) (e : Int) ((2 : Nat) : Int) (c 10 4).toNat) : Nat) : Int)), (0, ((v : Nat) : Int)), (0, (((usd (c 11) (c 12) (c 14) (c 10 4).toNat (e : Int) (g 137) v 3) : Nat) : Int)), (0, ((k : Nat) : Int))] [] (SH b) m (fun r => ∃ g', r = (none, SH b, g') ∧ MR g' 124 (lkw P (c 3) (c 11) (c 12) (c 14) (e : Int) (g 137) (c 10 4).toNat) ∧ FrM 124 g g') := by
                intro lf
                induction lf with
                | zero => intro k m hlf; exact absurd hlf (Nat.not_lt_zero _)
                | succ lf ih84 =>
                  intro k m hlf hk hk2 hK hFk
                  refine wp_n 2 (pc' := 87) (L' := [(2, 127), (0, ((e : Nat) : Int)), (0, (((spn (c 11) (c 12) (c 14) (e : Int) ((0 : Nat) : Int) (c 10 4).toNat + spn (c 11) (c 12) (c 14) (e : Int) ((1 : Nat) : Int) (c 10 4).toNat + spn (c 11) (c 12) (c 14) (e : Int) ((2 : Nat) : Int) (c 10 4).toNat) : Nat) : Int)), (0, ((v : Nat) : Int)), (0, (((usd (c 11) (c 12) (c 14) (c 10 4).toNat (e : Int) (g 137) v 3) : Nat) : Int)), (0, ((k : Nat) : Int))]) (st' := [(0, (((spn (c 11) (c 12) (c 14) (e : Int) ((0 : Nat) : Int) (c 10 4).toNat + spn (c 11) (c 12) (c 14) (e : Int) ((1 : Nat) : Int) (c 10 4).toNat + spn (c 11) (c 12) (c 14) (e : Int) ((2 : Nat) : Int) (c 10 4).toNat) : Nat) : Int)), (0, ((k : Nat) : Int))]) (g' := m) rfl ?_
                  refine wp_ic_ge rfl (fun c18 => ?_) (fun c18 => ?_)
                  · have hke : k = (spn (c 11) (c 12) (c 14) (e : Int) ((0 : Nat) : Int) (c 10 4).toNat + spn (c 11) (c 12) (c 14) (e : Int) ((1 : Nat) : Int) (c 10 4).toNat + spn (c 11) (c 12) (c 14) (e : Int) ((2 : Nat) : Int) (c 10 4).toNat) := by omega
                    refine wp_n 2 (pc' := 30) (L' := [(2, 127), (0, ((e : Nat) : Int)), (0, (((spn (c 11) (c 12) (c 14) (e : Int) ((0 : Nat) : Int) (c 10 4).toNat + spn (c 11) (c 12) (c 14) (e : Int) ((1 : Nat) : Int) (c 10 4).toNat + spn (c 11) (c 12) (c 14) (e : Int) ((2 : Nat) : Int) (c 10 4).toNat) : Nat) : Int)), (0, (((v : Nat) : Int) + 1)), (0, (((usd (c 11) (c 12) (c 14) (c 10 4).toNat (e : Int) (g 137) v 3) : Nat) : Int)), (0, ((k : Nat) : Int))]) (st' := []) (g' := m) rfl ?_
                    refine wp_eq (ih30 (v + 1) (m) ((0, (((usd (c 11) (c 12) (c 14) (c 10 4).toNat (e : Int) (g 137) v 3) : Nat) : Int))) ((0, ((k : Nat) : Int))) ?_ ?_ ?_ ?_) (by first | rfl | (simp; done) | (simp; omega)) (by rfl) (by rfl)
                    · omega
                    · omega
                    · rw [pq_s, show oe (c 11) (c 12) (c 14) (e : Int) (g 137) v (c 10 4).toNat = k - (usd (c 11) (c 12) (c 14) (c 10 4).toNat (e : Int) (g 137) v 3) by omega]; exact hK
                    · exact hFk
                  · have hMm := hM.g_same (hfn hFk)
                    have hls := lsum_in hBk.2.1 (show v < 4 by omega) P (by omega)
                    have hkb := pq_in hBk he (w := g 137) (v := v) (j := k - (usd (c 11) (c 12) (c 14) (c 10 4).toNat (e : Int) (g 137) v 3) + 1) (by omega) (by omega)
                    rw [Int.pow_succ, ← Int.mul_assoc] at hkb
                    refine wp_n 4 (pc' := 95) (L' := [(2, 127), (0, ((e : Nat) : Int)), (0, (((spn (c 11) (c 12) (c 14) (e : Int) ((0 : Nat) : Int) (c 10 4).toNat + spn (c 11) (c 12) (c 14) (e : Int) ((1 : Nat) : Int) (c 10 4).toNat + spn (c 11) (c 12) (c 14) (e : Int) ((2 : Nat) : Int) (c 10 4).toNat) : Nat) : Int)), (0, ((v : Nat) : Int)), (0, (((usd (c 11) (c 12) (c 14) (c 10 4).toNat (e : Int) (g 137) v 3) : Nat) : Int)), (0, ((k : Nat) : Int))]) (st' := [(0, ((v : Nat) : Int)), (2, 127), (0, 124), (2, 127)]) (g' := m) rfl ?_
                    refine wp_cv (as := [(2, 127), (0, ((v : Nat) : Int))]) (rest := [(0, 124), (2, 127)]) rfl rfl rfl (Nat.le_of_ble_eq_true rfl) rfl (m_leans (c := c) (w := v) (by omega) ((hfn hFk 127 0 (by unfold Sm; omega)).trans hP) (by omega) hMm) (by decide) (fun r19 h20 => ?_)
                    obtain rfl := h20
                    refine wp_eq (L' := [(2, 127), (0, ((e : Nat) : Int)), (0, (((spn (c 11) (c 12) (c 14) (e : Int) ((0 : Nat) : Int) (c 10 4).toNat + spn (c 11) (c 12) (c 14) (e : Int) ((1 : Nat) : Int) (c 10 4).toNat + spn (c 11) (c 12) (c 14) (e : Int) ((2 : Nat) : Int) (c 10 4).toNat) : Nat) : Int)), (0, ((v : Nat) : Int)), (0, (((usd (c 11) (c 12) (c 14) (c 10 4).toNat (e : Int) (g 137) v 3) : Nat) : Int)), (0, ((k : Nat) : Int))]) (st' := [(0, (lsum (c 3) v P)), (0, 124), (2, 127)]) (g' := m) ?_
                    refine wp_cv (as := [(2, 127), (0, 124), (0, (lsum (c 3) v P))]) (rest := []) rfl rfl rfl (Nat.le_of_ble_eq_true rfl) rfl (m_times (r := 124) (by omega) hK (by omega) (Int.lt_of_le_of_lt hkb.2 (Int.lt_of_le_of_lt (pow_up (by decide) (show 24 * v + (k - (usd (c 11) (c 12) (c 14) (c 10 4).toNat (e : Int) (g 137) v 3) + 1) ≤ 96 by omega)) (by decide)))) (by decide) (fun r21 h22 => ?_)
                    obtain ⟨g98, rfl, hR98, hF98⟩ := h22
                    refine wp_eq (L' := [(2, 127), (0, ((e : Nat) : Int)), (0, (((spn (c 11) (c 12) (c 14) (e : Int) ((0 : Nat) : Int) (c 10 4).toNat + spn (c 11) (c 12) (c 14) (e : Int) ((1 : Nat) : Int) (c 10 4).toNat + spn (c 11) (c 12) (c 14) (e : Int) ((2 : Nat) : Int) (c 10 4).toNat) : Nat) : Int)), (0, ((v : Nat) : Int)), (0, (((usd (c 11) (c 12) (c 14) (c 10 4).toNat (e : Int) (g 137) v 3) : Nat) : Int)), (0, ((k : Nat) : Int))]) (st' := []) (g' := g98) ?_
                    refine wp_n 2 (pc' := 84) (L' := [(2, 127), (0, ((e : Nat) : Int)), (0, (((spn (c 11) (c 12) (c 14) (e : Int) ((0 : Nat) : Int) (c 10 4).toNat + spn (c 11) (c 12) (c 14) (e : Int) ((1 : Nat) : Int) (c 10 4).toNat + spn (c 11) (c 12) (c 14) (e : Int) ((2 : Nat) : Int) (c 10 4).toNat) : Nat) : Int)), (0, ((v : Nat) : Int)), (0, (((usd (c 11) (c 12) (c 14) (c 10 4).toNat (e : Int) (g 137) v 3) : Nat) : Int)), (0, (((k : Nat) : Int) + 1))]) (st' := []) (g' := g98) rfl ?_
                    refine wp_eq (ih84 (k + 1) (g98) ?_ ?_ ?_ ?_ ?_) (by first | rfl | (simp; done) | (simp; omega)) (by rfl) (by rfl)
                    · omega
                    · omega
                    · omega
                    · rw [show k + 1 - (usd (c 11) (c 12) (c 14) (c 10 4).toNat (e : Int) (g 137) v 3) = (k - (usd (c 11) (c 12) (c 14) (c 10 4).toNat (e : Int) (g 137) v 3)) + 1 by omega, Int.pow_succ, ← Int.mul_assoc]; exact hR98
                    · exact hFk.trans hF98
              refine wp_eq (L84 (_ + 1) ((usd (c 11) (c 12) (c 14) (c 10 4).toNat (e : Int) (g 137) v 3)) (h) (Nat.lt_succ_self _) ?_ ?_ ?_ ?_) (by first | rfl | (simp; done) | (simp; omega)) (by rfl) (by rfl)
              · exact Nat.le_refl _
              · exact huo1
              · rw [Nat.sub_self, Int.pow_zero, Int.mul_one]; exact hX
              · exact hF
            · have hwu := hw u (by omega)
              have hs1 := spn_le (ev := c 11) (tb := c 12) (fl := c 14) (e := (e : Int)) (t := ((u : Nat) : Int)) (c 10 4).toNat
              have hus : (usd (c 11) (c 12) (c 14) (c 10 4).toNat (e : Int) (g 137) v u) ≤ 200 * u := usd_le (by omega) u
              refine wp_n 4 (pc' := 55) (L' := [(2, 127), (0, ((e : Nat) : Int)), (0, (((spn (c 11) (c 12) (c 14) (e : Int) ((0 : Nat) : Int) (c 10 4).toNat + spn (c 11) (c 12) (c 14) (e : Int) ((1 : Nat) : Int) (c 10 4).toNat + spn (c 11) (c 12) (c 14) (e : Int) ((2 : Nat) : Int) (c 10 4).toNat) : Nat) : Int)), (0, ((v : Nat) : Int)), (0, (((usd (c 11) (c 12) (c 14) (c 10 4).toNat (e : Int) (g 137) v u) : Nat) : Int)), (0, ((u : Nat) : Int))]) (st' := [(0, ((u : Nat) : Int)), (2, 137), (0, (((usd (c 11) (c 12) (c 14) (c 10 4).toNat (e : Int) (g 137) v u) : Nat) : Int))]) (g' := h) rfl ?_
              refine wp_iald (k := 137) (u) rfl rfl (by omega) (by omega) (by decide) ?_
              refine wp_eq (L' := [(2, 127), (0, ((e : Nat) : Int)), (0, (((spn (c 11) (c 12) (c 14) (e : Int) ((0 : Nat) : Int) (c 10 4).toNat + spn (c 11) (c 12) (c 14) (e : Int) ((1 : Nat) : Int) (c 10 4).toNat + spn (c 11) (c 12) (c 14) (e : Int) ((2 : Nat) : Int) (c 10 4).toNat) : Nat) : Int)), (0, ((v : Nat) : Int)), (0, (((usd (c 11) (c 12) (c 14) (c 10 4).toNat (e : Int) (g 137) v u) : Nat) : Int)), (0, ((u : Nat) : Int))]) (st' := [(0, (g 137 u)), (0, (((usd (c 11) (c 12) (c 14) (c 10 4).toNat (e : Int) (g 137) v u) : Nat) : Int))]) (g' := h) ?_ (by rfl) (by rw [hF 137 u (fun e => absurd e (by decide))]) (by rfl)
              refine wp_n 1 (pc' := 57) (L' := [(2, 127), (0, ((e : Nat) : Int)), (0, (((spn (c 11) (c 12) (c 14) (e : Int) ((0 : Nat) : Int) (c 10 4).toNat + spn (c 11) (c 12) (c 14) (e : Int) ((1 : Nat) : Int) (c 10 4).toNat + spn (c 11) (c 12) (c 14) (e : Int) ((2 : Nat) : Int) (c 10 4).toNat) : Nat) : Int)), (0, ((v : Nat) : Int)), (0, (((usd (c 11) (c 12) (c 14) (c 10 4).toNat (e : Int) (g 137) v u) : Nat) : Int)), (0, ((u : Nat) : Int))]) (st' := [(0, ((v : Nat) : Int)), (0, (g 137 u)), (0, (((usd (c 11) (c 12) (c 14) (c 10 4).toNat (e : Int) (g 137) v u) : Nat) : Int))]) (g' := h) rfl ?_
              refine wp_ic_ne rfl (fun c23 => ?_) (fun c23 => ?_)
              · refine wp_n 5 (pc' := 41) (L' := [(2, 127), (0, ((e : Nat) : Int)), (0, (((spn (c 11) (c 12) (c 14) (e : Int) ((0 : Nat) : Int) (c 10 4).toNat + spn (c 11) (c 12) (c 14) (e : Int) ((1 : Nat) : Int) (c 10 4).toNat + spn (c 11) (c 12) (c 14) (e : Int) ((2 : Nat) : Int) (c 10 4).toNat) : Nat) : Int)), (0, ((v : Nat) : Int)), (0, ((((usd (c 11) (c 12) (c 14) (c 10 4).toNat (e : Int) (g 137) v u) : Nat) : Int) + 0)), (0, (((u : Nat) : Int) + 1))]) (st' := []) (g' := h) rfl ?_
                refine wp_eq (ih41 (u + 1) ?_ ?_) (by first | (rw [usd_s, if_pos (by omega)]; rfl) | (rw [usd_s, if_neg (by omega)]; rfl)) (by rfl) (by rfl)
                · omega
                · omega
              · refine wp_n 3 (pc' := 64) (L' := [(2, 127), (0, ((e : Nat) : Int)), (0, (((spn (c 11) (c 12) (c 14) (e : Int) ((0 : Nat) : Int) (c 10 4).toNat + spn (c 11) (c 12) (c 14) (e : Int) ((1 : Nat) : Int) (c 10 4).toNat + spn (c 11) (c 12) (c 14) (e : Int) ((2 : Nat) : Int) (c 10 4).toNat) : Nat) : Int)), (0, ((v : Nat) : Int)), (0, (((usd (c 11) (c 12) (c 14) (c 10 4).toNat (e : Int) (g 137) v u) : Nat) : Int)), (0, ((u : Nat) : Int))]) (st' := [(0, ((u : Nat) : Int)), (0, ((e : Nat) : Int)), (2, 127), (0, (((usd (c 11) (c 12) (c 14) (c 10 4).toNat (e : Int) (g 137) v u) : Nat) : Int))]) (g' := h) rfl ?_
                refine wp_cv (as := [(2, 127), (0, ((e : Nat) : Int)), (0, ((u : Nat) : Int))]) (rest := [(0, (((usd (c 11) (c 12) (c 14) (c 10 4).toNat (e : Int) (g 137) v u) : Nat) : Int))]) rfl rfl rfl (Nat.le_of_ble_eq_true rfl) rfl (m_spins (c := c) (P := P) (e := e) (t := u) hI hMh he (by omega)) (by decide) (fun r24 h25 => ?_)
                obtain rfl := h25
                refine wp_eq (L' := [(2, 127), (0, ((e : Nat) : Int)), (0, (((spn (c 11) (c 12) (c 14) (e : Int) ((0 : Nat) : Int) (c 10 4).toNat + spn (c 11) (c 12) (c 14) (e : Int) ((1 : Nat) : Int) (c 10 4).toNat + spn (c 11) (c 12) (c 14) (e : Int) ((2 : Nat) : Int) (c 10 4).toNat) : Nat) : Int)), (0, ((v : Nat) : Int)), (0, (((usd (c 11) (c 12) (c 14) (c 10 4).toNat (e : Int) (g 137) v u) : Nat) : Int)), (0, ((u : Nat) : Int))]) (st' := [(0, (((spn (c 11) (c 12) (c 14) (e : Int) ((u : Nat) : Int) (c 10 4).toNat) : Nat) : Int)), (0, (((usd (c 11) (c 12) (c 14) (c 10 4).toNat (e : Int) (g 137) v u) : Nat) : Int))]) (g' := h) ?_
                refine wp_n 5 (pc' := 41) (L' := [(2, 127), (0, ((e : Nat) : Int)), (0, (((spn (c 11) (c 12) (c 14) (e : Int) ((0 : Nat) : Int) (c 10 4).toNat + spn (c 11) (c 12) (c 14) (e : Int) ((1 : Nat) : Int) (c 10 4).toNat + spn (c 11) (c 12) (c 14) (e : Int) ((2 : Nat) : Int) (c 10 4).toNat) : Nat) : Int)), (0, ((v : Nat) : Int)), (0, ((((usd (c 11) (c 12) (c 14) (c 10 4).toNat (e : Int) (g 137) v u) : Nat) : Int) + (((spn (c 11) (c 12) (c 14) (e : Int) ((u : Nat) : Int) (c 10 4).toNat) : Nat) : Int))), (0, (((u : Nat) : Int) + 1))]) (st' := []) (g' := h) rfl ?_
                refine wp_eq (ih41 (u + 1) ?_ ?_) (by first | (rw [usd_s, if_pos (by omega)]; rfl) | (rw [usd_s, if_neg (by omega)]; rfl)) (by rfl) (by rfl)
                · omega
                · omega
        refine wp_eq (L41 (_ + 1) (0) (Nat.lt_succ_self _) ?_) (by first | rfl | (simp; done) | (simp; omega)) (by rfl) (by rfl)
        · exact Nat.zero_le _
  refine wp_eq (L30 (_ + 1) (0) (g25) ((9, 0)) ((9, 0)) (Nat.lt_succ_self _) ?_ ?_ ?_) (by first | rfl | (simp; done) | (simp; omega)) (by rfl) (by rfl)
  · exact Nat.zero_le _
  · exact hR25
  · exact hF25
