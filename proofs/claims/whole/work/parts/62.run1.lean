/-! A RUN OF A WAY: pure rows, the class's player -/
def rmo (P : Nat) (S : Nat → Int) : Int := if S 6 = 0 then -1 else (gmx (fun j => S (100 + j)) (P - 1) : Int)
def rN (P : Nat) (S : Nat → Int) (i : Nat) : Int := if i = 9 then rmo P S else S i
def rst (c : am_G) (P : Nat) (t : Int) (S : Nat → Int) : Int := tv c (rN P S) t 2 1
def ron (c : am_G) (P : Nat) (t : Int) (S : Nat → Int) : Int := tv c (rN P S) t 3 (rmo P S)
def rsk (c : am_G) (P : Nat) (t : Int) (S : Nat → Int) : Int := if rst c P t S < 0 ∨ ron c P t S < 0 then 0 else if S 5 < rst c P t S then S 5 else rst c P t S
def rpu (c : am_G) (P : Nat) (t f : Int) (S : Nat → Int) : Int := if 0 < rsk c P t S then (if ron c P t S % (P : Int) = f then (if S 5 + c 10 16 * rsk c P t S < 999999 then S 5 + c 10 16 * rsk c P t S else 999999) else S 5 - rsk c P t S) else S 5
def rlo (c : am_G) (P : Nat) (t f : Int) (S : Nat → Int) : Int := if 0 < rsk c P t S then (if ron c P t S % (P : Int) = f then 0 else S 8 + 1) else S 8
def rwo (c : am_G) (P : Nat) (t f : Int) (S : Nat → Int) : Int := if 0 < rsk c P t S then (if ron c P t S % (P : Int) = f then S 10 + 1 else S 10) else S 10
/-- a spin: 5 the purse, 6 ahead, 7 last, 8 lost, 10 won, 11 the least, 100 + j came -/
def rstep (c : am_G) (P : Nat) (t f : Int) (S : Nat → Int) (i : Nat) : Int := if i = 5 then rpu c P t f S else if i = 6 then S 6 + 1 else if i = 7 then f else if i = 8 then rlo c P t f S else if i = 10 then rwo c P t f S else if i = 11 then (if rpu c P t f S < S 11 then rpu c P t f S else S 11) else if i = 100 + f.toNat then S i + 1 else S i
theorem rstep_j {c : am_G} {P : Nat} {t f : Int} {S : Nat → Int} (hf : 0 ≤ f) (j : Nat) : rstep c P t f S (100 + j) = if j = f.toNat then S (100 + j) + 1 else S (100 + j) := by
  unfold rstep
  rw [if_neg (by omega), if_neg (by omega), if_neg (by omega), if_neg (by omega), if_neg (by omega), if_neg (by omega)]
  by_cases q : j = f.toNat
  · rw [if_pos q, if_pos (by omega)]
  · rw [if_neg q, if_neg (by omega)]
def rini (p : Int) (i : Nat) : Int := if i = 5 then p else if i = 11 then p else if i = 7 then -1 else 0
def rs (c : am_G) (P : Nat) (t e a p : Int) : Nat → Nat → Int
  | 0 => rini p
  | n + 1 => if c 11 n = e ∧ c 12 n = a ∧ c 14 n ≠ -1 then rstep c P t (c 14 n) (rs c P t e a p n) else rs c P t e a p n
/-- what holds of such a state behind n spins -/
def RunI (P : Nat) (n : Nat) (S : Nat → Int) : Prop := (0 ≤ S 5 ∧ S 5 ≤ 999999) ∧ (0 ≤ S 6 ∧ S 6 ≤ (n : Int)) ∧ (-1 ≤ S 7 ∧ S 7 < (P : Int)) ∧ (0 ≤ S 8 ∧ S 8 ≤ (n : Int)) ∧ (0 ≤ S 10 ∧ S 10 ≤ (n : Int)) ∧ (0 ≤ S 11 ∧ S 11 ≤ 999999) ∧ (∀ j, j < 37 → 0 ≤ S (100 + j) ∧ S (100 + j) ≤ (n : Int)) ∧ (S 6 ≠ 0 → ∃ j, j < P ∧ 0 < S (100 + j)) ∧ (S 6 = 0 → ∀ j, j < 37 → S (100 + j) = 0)
theorem rsk_in {c : am_G} {P n : Nat} {t : Int} {S : Nat → Int} (h : RunI P n S) : 0 ≤ rsk c P t S ∧ rsk c P t S ≤ S 5 := by
  have := h.1
  unfold rsk
  split
  · omega
  · rename_i q
    have h1 : ¬ rst c P t S < 0 := fun e => q (Or.inl e)
    split <;> omega
theorem payk_in {y k : Int} (hy : 1 ≤ y ∧ y ≤ 99) (hk : 0 ≤ k ∧ k ≤ 999999) : 0 ≤ y * k ∧ y * k ≤ 99 * 999999 := ⟨Int.mul_nonneg (by omega) hk.1, Int.mul_le_mul hy.2 hk.2 hk.1 (by decide)⟩
theorem RunI.next {c : am_G} {P n : Nat} {t f : Int} {S : Nat → Int} (hI : CInv P c) (h : RunI P n S) (hf : 0 ≤ f ∧ f < (P : Int)) : RunI P (n + 1) (rstep c P t f S) := by
  have h5 := hI.ck.1
  have hk := rsk_in (c := c) (t := t) h
  have hy := payk_in (hI.rg.r10_9 16 rfl) (k := rsk c P t S) (by have := h.1; omega)
  obtain ⟨a1, a2, a3, a4, a5, a6, a7, a8, a9⟩ := h
  have e5 : rstep c P t f S 5 = rpu c P t f S := rfl
  have e6 : rstep c P t f S 6 = S 6 + 1 := rfl
  have e7 : rstep c P t f S 7 = f := rfl
  have e8 : rstep c P t f S 8 = rlo c P t f S := rfl
  have e10 : rstep c P t f S 10 = rwo c P t f S := rfl
  have e11 : rstep c P t f S 11 = if rpu c P t f S < S 11 then rpu c P t f S else S 11 := rfl
  have ej : ∀ j, rstep c P t f S (100 + j) = if j = f.toNat then S (100 + j) + 1 else S (100 + j) := fun j => by
    unfold rstep
    rw [if_neg (by omega), if_neg (by omega), if_neg (by omega), if_neg (by omega), if_neg (by omega), if_neg (by omega)]
    by_cases q : j = f.toNat
    · rw [if_pos q, if_pos (by omega)]
    · rw [if_neg q, if_neg (by omega)]
  have hpu : 0 ≤ rpu c P t f S ∧ rpu c P t f S ≤ 999999 := by
    unfold rpu
    split
    · split
      · split <;> omega
      · omega
    · omega
  have hlo : 0 ≤ rlo c P t f S ∧ rlo c P t f S ≤ (n : Int) + 1 := by
    unfold rlo
    split
    · split <;> omega
    · omega
  have hwo : 0 ≤ rwo c P t f S ∧ rwo c P t f S ≤ (n : Int) + 1 := by
    unfold rwo
    split
    · split <;> omega
    · omega
  refine ⟨by rw [e5]; exact hpu, by rw [e6]; omega, by rw [e7]; omega, by rw [e8]; omega, by rw [e10]; omega, by rw [e11]; split <;> omega, fun j hj => ?_, fun _ => ⟨f.toNat, by omega, ?_⟩, fun q => ?_⟩
  · rw [ej]
    have := a7 j hj
    split <;> omega
  · rw [ej, if_pos rfl]
    have := a7 f.toNat (by omega)
    omega
  · rw [e6] at q; omega
theorem RunI.ini {P : Nat} {p : Int} (h5 : 5 ≤ P) (hp : 1 ≤ p ∧ p ≤ 9999) : RunI P 0 (rini p) := by
  have e : ∀ j : Nat, rini p (100 + j) = 0 := fun j => by unfold rini; rw [if_neg (by omega), if_neg (by omega), if_neg (by omega)]
  refine ⟨⟨?_, ?_⟩, ⟨Int.le_refl _, Int.le_refl _⟩, ⟨Int.le_refl _, ?_⟩, ⟨Int.le_refl _, Int.le_refl _⟩, ⟨Int.le_refl _, Int.le_refl _⟩, ⟨?_, ?_⟩, fun j _ => ?_, fun q => absurd rfl q, fun _ j _ => e j⟩
  · show 0 ≤ p; omega
  · show p ≤ 999999; omega
  · show (-1 : Int) < P; omega
  · show 0 ≤ p; omega
  · show p ≤ 999999; omega
  · rw [e]; exact ⟨Int.le_refl _, Int.le_refl _⟩
theorem RunI.up {P n : Nat} {S : Nat → Int} (h : RunI P n S) : RunI P (n + 1) S := by
  obtain ⟨a1, a2, a3, a4, a5, a6, a7, a8, a9⟩ := h
  exact ⟨a1, by omega, a3, by omega, by omega, a6, fun j hj => by have := a7 j hj; omega, a8, a9⟩
theorem rs_in {c : am_G} {P : Nat} {t e a p : Int} (hI : CInv P c) (hp : 1 ≤ p ∧ p ≤ 9999) : ∀ n, n ≤ 200 → RunI P n (rs c P t e a p n) := by
  intro n
  induction n with
  | zero => intro _; exact RunI.ini hI.ck.1.1 hp
  | succ n ih =>
    intro hn
    rw [rs]
    split
    · rename_i q
      have := hI.rg.r14_13 n (by omega)
      exact (ih (by omega)).next hI (by omega)
    · exact (ih (by omega)).up
theorem tv_go2 {c h : am_G} {k : Nat} {t w : Int} {N N' : Nat → Int} (hT : TxW 0 c) (ht : 0 ≤ t ∧ t < c 6 3) (hk : 2 ≤ k ∧ k < 4) (hF : ∀ a j, 6 ≤ a → a ≤ 9 → h a j = c a j) (hN : ∀ i, 5 ≤ i → i ≤ 10 → N i = N' i) : tv h N t k w = tv c N' t k w := by
  have h7 : h 7 = c 7 := funext fun j => hF 7 j (by omega) (by omega)
  have h8 : h 8 = c 8 := funext fun j => hF 8 j (by omega) (by omega)
  have h9 : h 9 = c 9 := funext fun j => hF 9 j (by omega) (by omega)
  rw [tv_c h7 h8 h9]
  exact tv_nm hT (by omega) hk.2 fun i hi => hN i (by omega) (by omega)
theorem rmo_in {P n : Nat} {S : Nat → Int} (h5 : 5 ≤ P ∧ P ≤ 37) : -1 ≤ rmo P S ∧ rmo P S ≤ 36 := by
  have := gmx_le (fun j => S (100 + j)) (P - 1)
  unfold rmo
  split <;> omega
theorem rN_nb {P n k : Nat} {S : Nat → Int} {N : Nat → Int} (h5 : 5 ≤ P ∧ P ≤ 37) (hn : n ≤ 200) (hk : 2 ≤ k) (h : RunI P n S) (hN : ∀ i, 5 ≤ i → i ≤ 10 → N i = rN P S i) : NB k N := by
  intro i hi
  have hm := rmo_in (n := n) (S := S) h5
  have hi1 : 5 ≤ i ∧ i ≤ 10 := by omega
  have hi2 : i = 5 ∨ i = 6 ∨ i = 7 ∨ i = 8 ∨ i = 9 ∨ i = 10 := by omega
  obtain ⟨a1, a2, a3, a4, a5, a6, -, -, -⟩ := h
  rw [hN i hi1.1 hi1.2]
  unfold MB
  rcases hi2 with e | e | e | e | e | e <;> subst e
  · show -1000000 ≤ S 5 ∧ S 5 ≤ 1000000; omega
  · show -1000000 ≤ S 6 ∧ S 6 ≤ 1000000; omega
  · show -1000000 ≤ S 7 ∧ S 7 ≤ 1000000; omega
  · show -1000000 ≤ S 8 ∧ S 8 ≤ 1000000; omega
  · show -1000000 ≤ rmo P S ∧ rmo P S ≤ 1000000; omega
  · show -1000000 ≤ S 10 ∧ S 10 ≤ 1000000; omega
/-- the player's cells hold such a state -/
def PRep (h : am_G) (T : Nat → Int) : Prop := h 54 9 = T 5 ∧ h 54 6 = T 6 ∧ h 54 7 = T 7 ∧ h 54 8 = T 8 ∧ h 54 11 = T 10 ∧ h 54 10 = T 11 ∧ ∀ j, j < 37 → h 55 j = T (100 + j)
set_option maxHeartbeats 400000 in
set_option maxRecDepth 20000 in
theorem e_fellAt {sn : Nat} {sx : Nat → Int} {b : Nat} {g : am_G} {P i : Nat} {e a : Int} (hR : Rng P 0 g) (h5 : 5 ≤ P ∧ P ≤ 37) (hi : i < 200) (he : R32 e) (ha : R32 a) : Ev sn sx 1 21 [(2, 10), (0, ((i : Nat) : Int)), (0, e), (0, a)] (SH b) g (fun r => Is1 r (SH b) g (g 11 i = e ∧ g 12 i = a ∧ g 14 i ≠ -1)) := by
  have r1 := hR.r11_10 i hi
  have r2 := hR.r12_11 i hi
  have r3 := hR.r14_13 i hi
  refine ev_of (K := 0) T21 (by decide) rfl rfl (Nat.le_of_ble_eq_true rfl) ?_
  refine wp_eq (L' := [(2, 10), (0, ((i : Nat) : Int)), (0, e), (0, a)]) (st' := []) (g' := g) ?_
  refine wp_n 3 (pc' := 5) (L' := [(2, 10), (0, ((i : Nat) : Int)), (0, e), (0, a)]) (st' := [(0, ((i : Nat) : Int)), (2, 11)]) (g' := g) rfl ?_
  refine wp_iald (k := 11) (i) rfl rfl (by omega) (by omega) (by decide) ?_
  refine wp_n 1 (pc' := 7) (L' := [(2, 10), (0, ((i : Nat) : Int)), (0, e), (0, a)]) (st' := [(0, e), (0, (g 11 i))]) (g' := g) rfl ?_
  refine wp_ic_ne rfl (fun c1 => ?_) (fun c1 => ?_)
  · refine wp_n 1 (pc' := 35) (L' := [(2, 10), (0, ((i : Nat) : Int)), (0, e), (0, a)]) (st' := [(0, 0)]) (g' := g) rfl ?_
    exact wp_ret rfl rfl rfl (Or.inr ⟨rfl, by omega⟩)
  · refine wp_n 3 (pc' := 15) (L' := [(2, 10), (0, ((i : Nat) : Int)), (0, e), (0, a)]) (st' := [(0, ((i : Nat) : Int)), (2, 12)]) (g' := g) rfl ?_
    refine wp_iald (k := 12) (i) rfl rfl (by omega) (by omega) (by decide) ?_
    refine wp_n 1 (pc' := 17) (L' := [(2, 10), (0, ((i : Nat) : Int)), (0, e), (0, a)]) (st' := [(0, a), (0, (g 12 i))]) (g' := g) rfl ?_
    refine wp_ic_ne rfl (fun c2 => ?_) (fun c2 => ?_)
    · refine wp_n 1 (pc' := 35) (L' := [(2, 10), (0, ((i : Nat) : Int)), (0, e), (0, a)]) (st' := [(0, 0)]) (g' := g) rfl ?_
      exact wp_ret rfl rfl rfl (Or.inr ⟨rfl, by omega⟩)
    · refine wp_n 3 (pc' := 25) (L' := [(2, 10), (0, ((i : Nat) : Int)), (0, e), (0, a)]) (st' := [(0, ((i : Nat) : Int)), (2, 14)]) (g' := g) rfl ?_
      refine wp_iald (k := 14) (i) rfl rfl (by omega) (by omega) (by decide) ?_
      refine wp_n 1 (pc' := 27) (L' := [(2, 10), (0, ((i : Nat) : Int)), (0, e), (0, a)]) (st' := [(0, (-1)), (0, (g 14 i))]) (g' := g) rfl ?_
      refine wp_ic_eq rfl (fun c3 => ?_) (fun c3 => ?_)
      · refine wp_n 1 (pc' := 35) (L' := [(2, 10), (0, ((i : Nat) : Int)), (0, e), (0, a)]) (st' := [(0, 0)]) (g' := g) rfl ?_
        exact wp_ret rfl rfl rfl (Or.inr ⟨rfl, by omega⟩)
      · refine wp_n 2 (pc' := 35) (L' := [(2, 10), (0, ((i : Nat) : Int)), (0, e), (0, a)]) (st' := [(0, 1)]) (g' := g) rfl ?_
        exact wp_ret rfl rfl rfl (Or.inl ⟨rfl, by omega⟩)
set_option maxHeartbeats 400000 in
set_option maxRecDepth 20000 in
theorem m_isSpin {sn : Nat} {sx : Nat → Int} {b : Nat} {g : am_G} {c : am_G} {P i : Nat} {e a : Int} (hR : Rng P 0 c) (hM : MRel c g) (h5 : 5 ≤ P ∧ P ≤ 37) (hi : i < 200) (he : R32 e) (ha : R32 a) : Ev sn sx 1 227 [(2, 127), (0, ((i : Nat) : Int)), (0, e), (0, a)] (SH b) g (fun r => Is1 r (SH b) g (c 11 i = e ∧ c 12 i = a ∧ c 14 i ≠ -1)) := by
  have r1 := hR.r11_10 i hi
  have r2 := hR.r12_11 i hi
  have r3 := hR.r14_13 i hi
  refine ev_of (K := 0) T227 (by decide) rfl rfl (Nat.le_of_ble_eq_true rfl) ?_
  refine wp_eq (L' := [(2, 127), (0, ((i : Nat) : Int)), (0, e), (0, a)]) (st' := []) (g' := g) ?_
  refine wp_n 7 (pc' := 11) (L' := [(2, 127), (0, ((i : Nat) : Int)), (0, e), (0, a)]) (st' := [(0, (580 + (4 * ((i : Nat) : Int)))), (2, 128)]) (g' := g) rfl ?_
  refine wp_iald (k := 128) ((580 + 4 * i)) rfl rfl (by omega) (by omega) (by decide) ?_
  refine wp_eq (L' := [(2, 127), (0, ((i : Nat) : Int)), (0, e), (0, a)]) (st' := [(0, (c 11 i))]) (g' := g) ?_ (by rfl) (by rw [hM.ev _ hi]) (by rfl)
  refine wp_n 1 (pc' := 13) (L' := [(2, 127), (0, ((i : Nat) : Int)), (0, e), (0, a)]) (st' := [(0, e), (0, (c 11 i))]) (g' := g) rfl ?_
  refine wp_ic_ne rfl (fun c1 => ?_) (fun c1 => ?_)
  · refine wp_n 1 (pc' := 56) (L' := [(2, 127), (0, ((i : Nat) : Int)), (0, e), (0, a)]) (st' := [(0, 0)]) (g' := g) rfl ?_
    exact wp_ret rfl rfl rfl (Or.inr ⟨rfl, by omega⟩)
  · refine wp_n 9 (pc' := 29) (L' := [(2, 127), (0, ((i : Nat) : Int)), (0, e), (0, a)]) (st' := [(0, ((580 + (4 * ((i : Nat) : Int))) + 1)), (2, 128)]) (g' := g) rfl ?_
    refine wp_iald (k := 128) ((580 + 4 * i + 1)) rfl rfl (by omega) (by omega) (by decide) ?_
    refine wp_eq (L' := [(2, 127), (0, ((i : Nat) : Int)), (0, e), (0, a)]) (st' := [(0, (c 12 i))]) (g' := g) ?_ (by rfl) (by rw [hM.tb _ hi]) (by rfl)
    refine wp_n 1 (pc' := 31) (L' := [(2, 127), (0, ((i : Nat) : Int)), (0, e), (0, a)]) (st' := [(0, a), (0, (c 12 i))]) (g' := g) rfl ?_
    refine wp_ic_ne rfl (fun c2 => ?_) (fun c2 => ?_)
    · refine wp_n 1 (pc' := 56) (L' := [(2, 127), (0, ((i : Nat) : Int)), (0, e), (0, a)]) (st' := [(0, 0)]) (g' := g) rfl ?_
      exact wp_ret rfl rfl rfl (Or.inr ⟨rfl, by omega⟩)
    · refine wp_n 9 (pc' := 47) (L' := [(2, 127), (0, ((i : Nat) : Int)), (0, e), (0, a)]) (st' := [(0, ((580 + (4 * ((i : Nat) : Int))) + 3)), (2, 128)]) (g' := g) rfl ?_
      refine wp_iald (k := 128) ((580 + 4 * i + 3)) rfl rfl (by omega) (by omega) (by decide) ?_
      refine wp_eq (L' := [(2, 127), (0, ((i : Nat) : Int)), (0, e), (0, a)]) (st' := [(0, (c 14 i))]) (g' := g) ?_ (by rfl) (by rw [hM.fl _ hi]) (by rfl)
      refine wp_if_lt rfl (fun c3 => ?_) (fun c3 => ?_)
      · refine wp_n 1 (pc' := 56) (L' := [(2, 127), (0, ((i : Nat) : Int)), (0, e), (0, a)]) (st' := [(0, 0)]) (g' := g) rfl ?_
        exact wp_ret rfl rfl rfl (Or.inr ⟨rfl, by omega⟩)
      · refine wp_n 2 (pc' := 56) (L' := [(2, 127), (0, ((i : Nat) : Int)), (0, e), (0, a)]) (st' := [(0, 1)]) (g' := g) rfl ?_
        exact wp_ret rfl rfl rfl (Or.inl ⟨rfl, by omega⟩)
set_option maxHeartbeats 400000 in
set_option maxRecDepth 20000 in
theorem e_oftenest {sn : Nat} {sx : Nat → Int} {b : Nat} {g : am_G} {P n : Nat} {S : Nat → Int} (h0 : g 54 0 = (P : Int)) (h5 : 5 ≤ P ∧ P ≤ 37) (hn : n ≤ 200) (hS : RunI P n S) (hP : PRep g S) : Ev sn sx 1 55 [(2, 54)] (SH b) g (fun r => r = (some (0, rmo P S), SH b, g)) := by
  have hS6 := hS.2.1
  have hP6 := hP.2.1
  have hc := hP.2.2.2.2.2.2
  refine ev_of (K := 0) T55 (by decide) rfl rfl (Nat.le_of_ble_eq_true rfl) ?_
  refine wp_eq (L' := [(2, 54), (9, 0), (9, 0)]) (st' := []) (g' := g) ?_
  refine wp_n 2 (pc' := 4) (L' := [(2, 54), (9, 0), (9, 0)]) (st' := [(0, (g 54 6))]) (g' := g) rfl ?_
  refine wp_if_ne rfl (fun c1 => ?_) (fun c1 => ?_)
  · refine wp_n 4 (pc' := 13) (L' := [(2, 54), (0, 0), (0, 1)]) (st' := []) (g' := g) rfl ?_
    have L13 : ∀ (lf : Nat) (i : Nat), P - i < lf → (i + 1 ≤ P) → Wp sn sx 0 T55 13 [(2, 54), (0, (((gmx (fun j => S (100 + j)) i) : Nat) : Int)), (0, (((i + 1) : Nat) : Int))] [] (SH b) g (fun r => r = (some (0, rmo P S), SH b, g)) := by
      intro lf
      induction lf with
      | zero => intro i hlf; exact absurd hlf (Nat.not_lt_zero _)
      | succ lf ih13 =>
        intro i hlf hi
        refine wp_n 3 (pc' := 18) (L' := [(2, 54), (0, (((gmx (fun j => S (100 + j)) i) : Nat) : Int)), (0, (((i + 1) : Nat) : Int))]) (st' := [(0, (g 54 0)), (0, (((i + 1) : Nat) : Int))]) (g' := g) rfl ?_
        refine wp_eq (L' := [(2, 54), (0, (((gmx (fun j => S (100 + j)) i) : Nat) : Int)), (0, (((i + 1) : Nat) : Int))]) (st' := [(0, ((P : Nat) : Int)), (0, (((i + 1) : Nat) : Int))]) (g' := g) ?_ (by rfl) (by rw [h0]) (by rfl)
        refine wp_ic_ge rfl (fun c2 => ?_) (fun c2 => ?_)
        · have hk2 : P - 1 = i := by omega
          refine wp_n 1 (pc' := 45) (L' := [(2, 54), (0, (((gmx (fun j => S (100 + j)) i) : Nat) : Int)), (0, (((i + 1) : Nat) : Int))]) (st' := [(0, (((gmx (fun j => S (100 + j)) i) : Nat) : Int))]) (g' := g) rfl ?_
          exact wp_ret rfl rfl rfl (by unfold rmo; rw [if_neg (by omega), hk2])
        · have hg1 := gmx_le (fun j => S (100 + j)) i
          have hr1 := hS.2.2.2.2.2.2.1 (i + 1) (by omega)
          have hr2 := hS.2.2.2.2.2.2.1 (gmx (fun j => S (100 + j)) i) (by omega)
          refine wp_n 3 (pc' := 26) (L' := [(2, 54), (0, (((gmx (fun j => S (100 + j)) i) : Nat) : Int)), (0, (((i + 1) : Nat) : Int))]) (st' := [(0, (((i + 1) : Nat) : Int)), (2, 55)]) (g' := g) rfl ?_
          refine wp_iald (k := 55) (((i + 1))) rfl rfl (by omega) (by omega) (by decide) ?_
          refine wp_eq (L' := [(2, 54), (0, (((gmx (fun j => S (100 + j)) i) : Nat) : Int)), (0, (((i + 1) : Nat) : Int))]) (st' := [(0, (S (100 + (i + 1))))]) (g' := g) ?_ (by rfl) (by rw [hc _ (by omega)]) (by rfl)
          refine wp_n 3 (pc' := 32) (L' := [(2, 54), (0, (((gmx (fun j => S (100 + j)) i) : Nat) : Int)), (0, (((i + 1) : Nat) : Int))]) (st' := [(0, (((gmx (fun j => S (100 + j)) i) : Nat) : Int)), (2, 55), (0, (S (100 + (i + 1))))]) (g' := g) rfl ?_
          refine wp_iald (k := 55) (((gmx (fun j => S (100 + j)) i))) rfl rfl (by omega) (by omega) (by decide) ?_
          refine wp_eq (L' := [(2, 54), (0, (((gmx (fun j => S (100 + j)) i) : Nat) : Int)), (0, (((i + 1) : Nat) : Int))]) (st' := [(0, (S (100 + gmx (fun j => S (100 + j)) i))), (0, (S (100 + (i + 1))))]) (g' := g) ?_ (by rfl) (by rw [hc _ (by omega)]) (by rfl)
          refine wp_ic_le rfl (fun c3 => ?_) (fun c3 => ?_)
          · have hq : ¬ (fun j => S (100 + j)) (gmx (fun j => S (100 + j)) i) < (fun j => S (100 + j)) (i + 1) := by show ¬ S (100 + gmx (fun j => S (100 + j)) i) < S (100 + (i + 1)); omega
            refine wp_n 2 (pc' := 13) (L' := [(2, 54), (0, (((gmx (fun j => S (100 + j)) i) : Nat) : Int)), (0, ((((i + 1) : Nat) : Int) + 1))]) (st' := []) (g' := g) rfl ?_
            refine wp_eq (ih13 (i + 1) ?_ ?_) (by first | (rw [gmx_s, if_pos hq]; rfl) | (rw [gmx_s, if_neg hq]; rfl)) (by rfl) (by rfl)
            · omega
            · omega
          · have hq : (fun j => S (100 + j)) (gmx (fun j => S (100 + j)) i) < (fun j => S (100 + j)) (i + 1) := by show S (100 + gmx (fun j => S (100 + j)) i) < S (100 + (i + 1)); omega
            refine wp_n 4 (pc' := 13) (L' := [(2, 54), (0, (((i + 1) : Nat) : Int)), (0, ((((i + 1) : Nat) : Int) + 1))]) (st' := []) (g' := g) rfl ?_
            refine wp_eq (ih13 (i + 1) ?_ ?_) (by first | (rw [gmx_s, if_pos hq]; rfl) | (rw [gmx_s, if_neg hq]; rfl)) (by rfl) (by rfl)
            · omega
            · omega
    refine wp_eq (L13 (_ + 1) (0) (Nat.lt_succ_self _) ?_) (by first | rfl | (simp; done) | (simp; omega)) (by rfl) (by rfl)
    · omega
  · refine wp_n 1 (pc' := 8) (L' := [(2, 54), (9, 0), (9, 0)]) (st' := [(0, (-1))]) (g' := g) rfl ?_
    exact wp_ret rfl rfl rfl (by unfold rmo; rw [if_pos (by omega)])
set_option maxHeartbeats 400000 in
set_option maxRecDepth 20000 in
theorem e_settle1 {sn : Nat} {sx : Nat → Int} {b : Nat} {g : am_G} {k y : Int} (h5 : g 54 5 = y) (hy : 0 ≤ y * k ∧ y * k ≤ 99999999) (hp : 0 ≤ g 54 9 ∧ g 54 9 ≤ 999999) : Ev sn sx 2 54 [(2, 54), (0, k), (0, 1)] (SH b) g (fun r => r = (none, SH b, am_up (am_up (am_up g 54 9 (if g 54 9 + y * k < 999999 then g 54 9 + y * k else 999999)) 54 11 (g 54 11 + 1)) 54 8 0)) := by
  refine ev_of (K := 1) T54 (by decide) rfl rfl (Nat.le_of_ble_eq_true rfl) ?_
  refine wp_eq (L' := [(2, 54), (0, k), (0, 1)]) (st' := []) (g' := g) ?_
  refine wp_n 8 (pc' := 15) (L' := [(2, 54), (0, k), (0, 1)]) (st' := [(0, (g 54 5)), (0, (g 54 9)), (0, 999999), (2, 54)]) (g' := g) rfl ?_
  refine wp_eq (L' := [(2, 54), (0, k), (0, 1)]) (st' := [(0, y), (0, (g 54 9)), (0, 999999), (2, 54)]) (g' := g) ?_ (by rfl) (by rw [h5]) (by rfl)
  refine wp_n 3 (pc' := 18) (L' := [(2, 54), (0, k), (0, 1)]) (st' := [(0, ((g 54 9) + (y * k))), (0, 999999), (2, 54)]) (g' := g) rfl ?_
  refine wp_cs (as := [(0, 999999), (0, ((g 54 9) + (y * k)))]) (rest := [(2, 54)]) rfl (by decide) rfl (Nat.le_of_ble_eq_true rfl) (e_min (by omega) (by omega)) (by decide) (fun r1 h2 => ?_)
  obtain rfl := h2
  refine wp_eq (L' := [(2, 54), (0, k), (0, 1)]) (st' := [(0, (if ((g 54 9) + (y * k)) < 999999 then ((g 54 9) + (y * k)) else 999999)), (2, 54)]) (g' := g) ?_
  refine wp_n 11 (pc' := 62) (L' := [(2, 54), (0, k), (0, 1)]) (st' := []) (g' := (am_up (am_up (am_up g 54 9 (if ((g 54 9) + (y * k)) < 999999 then ((g 54 9) + (y * k)) else 999999)) 54 11 ((g 54 11) + 1)) 54 8 0)) rfl ?_
  exact wp_ret rfl rfl rfl (by rfl)
set_option maxHeartbeats 400000 in
set_option maxRecDepth 20000 in
theorem e_settle0 {sn : Nat} {sx : Nat → Int} {b : Nat} {g : am_G} {k y : Int} (h5 : g 54 5 = y) (hy : 0 ≤ y * k ∧ y * k ≤ 99999999) (hp : 0 ≤ g 54 9 ∧ g 54 9 ≤ 999999) : Ev sn sx 2 54 [(2, 54), (0, k), (0, 0)] (SH b) g (fun r => r = (none, SH b, am_up (am_up g 54 9 (g 54 9 - k)) 54 8 (g 54 8 + 1))) := by
  refine ev_of (K := 1) T54 (by decide) rfl rfl (Nat.le_of_ble_eq_true rfl) ?_
  refine wp_eq (L' := [(2, 54), (0, k), (0, 0)]) (st' := []) (g' := g) ?_
  refine wp_n 14 (pc' := 62) (L' := [(2, 54), (0, k), (0, 0)]) (st' := []) (g' := (am_up (am_up g 54 9 ((g 54 9) - k)) 54 8 ((g 54 8) + 1))) rfl ?_
  exact wp_ret rfl rfl rfl (by rfl)
set_option maxHeartbeats 400000 in
set_option maxRecDepth 20000 in
theorem e_stakeOn {sn : Nat} {sx : Nat → Int} {b : Nat} {g : am_G} {P n : Nat} {S : Nat → Int} {t f : Int} (hI : CInv P g) (hn : n ≤ 200) (hS : RunI P n S) (hP : PRep g S) (hf : 0 ≤ f ∧ f < (P : Int)) (h4 : g 54 4 = t) (ht : 0 ≤ t ∧ t < g 6 3) (h55 : g 54 5 = g 10 16) : Ev sn sx 6 53 [(2, 54), (0, f)] (SH b) g (fun r => ∃ g', r = (none, SH b, g') ∧ PRep g' (rstep g P t f S) ∧ g' 54 4 = t ∧ g' 54 5 = g 10 16 ∧ FrQ g g') := by
  have h5 := hI.ck.1
  have h0 := hI.ck.2.2.2.2.2.1
  have hlaw := hI.tx.law
  have hn0 := hI.tx.n0
  have hmo := rmo_in (n := n) (S := S) h5
  obtain ⟨y, hy⟩ : ∃ y, g 10 16 = y := ⟨_, rfl⟩
  have hyr := hI.rg.r10_9 16 rfl
  rw [hy] at hyr
  have hS0 := hS
  obtain ⟨s1, s2, s3, s4, s5, s6, s7, s8, s9⟩ := hS0
  have hP0 := hP
  obtain ⟨p1, p2, p3, p4, p5, p6, p7⟩ := hP0
  have hNU : ∀ i, 5 ≤ i → i ≤ 10 → (am_up (am_up (am_up (am_up (am_up (am_up g 50 5 (g 54 9)) 50 6 (g 54 6)) 50 7 (g 54 7)) 50 8 (g 54 8)) 50 9 (rmo P S)) 50 10 (g 54 11)) 50 i = rN P S i := by
    intro i a1 a2
    rcases (show i = 5 ∨ i = 6 ∨ i = 7 ∨ i = 8 ∨ i = 9 ∨ i = 10 by omega) with e | e | e | e | e | e <;> subst e
    · rw [up_nj (by decide), up_nj (by decide), up_nj (by decide), up_nj (by decide), up_nj (by decide), up_eq]; exact p1
    · rw [up_nj (by decide), up_nj (by decide), up_nj (by decide), up_nj (by decide), up_eq]; exact p2
    · rw [up_nj (by decide), up_nj (by decide), up_nj (by decide), up_eq]; exact p3
    · rw [up_nj (by decide), up_nj (by decide), up_eq]; exact p4
    · rw [up_nj (by decide), up_eq]; rfl
    · rw [up_eq]; exact p5
  have hFU : ∀ c j, c ≠ 50 → (am_up (am_up (am_up (am_up (am_up (am_up g 50 5 (g 54 9)) 50 6 (g 54 6)) 50 7 (g 54 7)) 50 8 (g 54 8)) 50 9 (rmo P S)) 50 10 (g 54 11)) c j = g c j := fun c j hc => by rw [up_ne hc, up_ne hc, up_ne hc, up_ne hc, up_ne hc, up_ne hc]
  have hTU : TxW 0 (am_up (am_up (am_up (am_up (am_up (am_up g 50 5 (g 54 9)) 50 6 (g 54 6)) 50 7 (g 54 7)) 50 8 (g 54 8)) 50 9 (rmo P S)) 50 10 (g 54 11)) := hI.tx.same fun c j q1 q2 => hFU c j (by omega)
  refine ev_of (K := 5) T53 (by decide) rfl rfl (Nat.le_of_ble_eq_true rfl) ?_
  refine wp_eq (L' := [(2, 54), (0, f), (9, 0), (9, 0), (9, 0)]) (st' := []) (g' := g) ?_
  refine wp_n 1 (pc' := 1) (L' := [(2, 54), (0, f), (9, 0), (9, 0), (9, 0)]) (st' := [(2, 54)]) (g' := g) rfl ?_
  refine wp_cv (as := [(2, 54)]) (rest := []) rfl rfl rfl (Nat.le_of_ble_eq_true rfl) rfl (e_oftenest (P := P) (n := n) (S := S) h0 h5 hn hS hP) (by decide) (fun r1 h2 => ?_)
  obtain rfl := h2
  refine wp_eq (L' := [(2, 54), (0, f), (9, 0), (9, 0), (9, 0)]) (st' := [(0, (rmo P S))]) (g' := g) ?_
  refine wp_n 7 (pc' := 17) (L' := [(2, 54), (0, f), (0, (rmo P S)), (9, 0), (9, 0)]) (st' := [(0, (g 54 9)), (0, 5), (2, 50)]) (g' := g) rfl ?_
  refine wp_iast (k := 50) (5) rfl rfl (by omega) (by omega) (by decide) ?_
  refine wp_n 6 (pc' := 31) (L' := [(2, 54), (0, f), (0, (rmo P S)), (9, 0), (9, 0)]) (st' := [(0, (g 54 6)), (0, 6), (2, 50)]) (g' := (am_up g 50 5 (g 54 9))) rfl ?_
  refine wp_iast (k := 50) (6) rfl rfl (by omega) (by omega) (by decide) ?_
  refine wp_n 6 (pc' := 45) (L' := [(2, 54), (0, f), (0, (rmo P S)), (9, 0), (9, 0)]) (st' := [(0, (g 54 7)), (0, 7), (2, 50)]) (g' := (am_up (am_up g 50 5 (g 54 9)) 50 6 (g 54 6))) rfl ?_
  refine wp_iast (k := 50) (7) rfl rfl (by omega) (by omega) (by decide) ?_
  refine wp_n 6 (pc' := 59) (L' := [(2, 54), (0, f), (0, (rmo P S)), (9, 0), (9, 0)]) (st' := [(0, (g 54 8)), (0, 8), (2, 50)]) (g' := (am_up (am_up (am_up g 50 5 (g 54 9)) 50 6 (g 54 6)) 50 7 (g 54 7))) rfl ?_
  refine wp_iast (k := 50) (8) rfl rfl (by omega) (by omega) (by decide) ?_
  refine wp_n 5 (pc' := 70) (L' := [(2, 54), (0, f), (0, (rmo P S)), (9, 0), (9, 0)]) (st' := [(0, (rmo P S)), (0, 9), (2, 50)]) (g' := (am_up (am_up (am_up (am_up g 50 5 (g 54 9)) 50 6 (g 54 6)) 50 7 (g 54 7)) 50 8 (g 54 8))) rfl ?_
  refine wp_iast (k := 50) (9) rfl rfl (by omega) (by omega) (by decide) ?_
  refine wp_n 6 (pc' := 84) (L' := [(2, 54), (0, f), (0, (rmo P S)), (9, 0), (9, 0)]) (st' := [(0, (g 54 11)), (0, 10), (2, 50)]) (g' := (am_up (am_up (am_up (am_up (am_up g 50 5 (g 54 9)) 50 6 (g 54 6)) 50 7 (g 54 7)) 50 8 (g 54 8)) 50 9 (rmo P S))) rfl ?_
  refine wp_iast (k := 50) (10) rfl rfl (by omega) (by omega) (by decide) ?_
  refine wp_n 3 (pc' := 90) (L' := [(2, 54), (0, f), (0, (rmo P S)), (9, 0), (9, 0)]) (st' := [(0, (g 54 9)), (0, 0)]) (g' := (am_up (am_up (am_up (am_up (am_up (am_up g 50 5 (g 54 9)) 50 6 (g 54 6)) 50 7 (g 54 7)) 50 8 (g 54 8)) 50 9 (rmo P S)) 50 10 (g 54 11))) rfl ?_
  refine wp_eq (L' := [(2, 54), (0, f), (0, (rmo P S)), (9, 0), (9, 0)]) (st' := [(0, (S 5)), (0, 0)]) (g' := (am_up (am_up (am_up (am_up (am_up (am_up g 50 5 (g 54 9)) 50 6 (g 54 6)) 50 7 (g 54 7)) 50 8 (g 54 8)) 50 9 (rmo P S)) 50 10 (g 54 11))) ?_ (by rfl) (by rw [p1]) (by rfl)
  refine wp_n 6 (pc' := 102) (L' := [(2, 54), (0, f), (0, (rmo P S)), (9, 0), (9, 0)]) (st' := [(0, (g 54 4)), (2, 6), (2, 49), (0, (S 5)), (0, 0)]) (g' := (am_up (am_up (am_up (am_up (am_up (am_up g 50 5 (g 54 9)) 50 6 (g 54 6)) 50 7 (g 54 7)) 50 8 (g 54 8)) 50 9 (rmo P S)) 50 10 (g 54 11))) rfl ?_
  refine wp_eq (L' := [(2, 54), (0, f), (0, (rmo P S)), (9, 0), (9, 0)]) (st' := [(0, t), (2, 6), (2, 49), (0, (S 5)), (0, 0)]) (g' := (am_up (am_up (am_up (am_up (am_up (am_up g 50 5 (g 54 9)) 50 6 (g 54 6)) 50 7 (g 54 7)) 50 8 (g 54 8)) 50 9 (rmo P S)) 50 10 (g 54 11))) ?_ (by rfl) (by rw [h4]) (by rfl)
  refine wp_n 2 (pc' := 104) (L' := [(2, 54), (0, f), (0, (rmo P S)), (9, 0), (9, 0)]) (st' := [(0, 1), (0, 2), (0, t), (2, 6), (2, 49), (0, (S 5)), (0, 0)]) (g' := (am_up (am_up (am_up (am_up (am_up (am_up g 50 5 (g 54 9)) 50 6 (g 54 6)) 50 7 (g 54 7)) 50 8 (g 54 8)) 50 9 (rmo P S)) 50 10 (g 54 11))) rfl ?_
  refine wp_cv (as := [(2, 49), (2, 6), (0, t), (0, 2), (0, 1)]) (rest := [(0, (S 5)), (0, 0)]) rfl rfl rfl (Nat.le_of_ble_eq_true rfl) rfl (e_work (k := 2) hTU (by rw [hFU 6 3 (by decide)]; omega) (by decide) (rN_nb h5 hn (by decide) hS hNU)) (by decide) (fun r3 h4 => ?_)
  obtain ⟨g104, rfl, hE104⟩ := h4
  have hv104 := tv_go2 (c := g) (h := (am_up (am_up (am_up (am_up (am_up (am_up g 50 5 (g 54 9)) 50 6 (g 54 6)) 50 7 (g 54 7)) 50 8 (g 54 8)) 50 9 (rmo P S)) 50 10 (g 54 11))) (k := 2) (t := t) (w := 1) hI.tx ht (by decide) (fun a j q1 q2 => hFU a j (by omega)) hNU
  have hb104 := tv_in (g := g) (N := rN P S) (t := t) (k := 2) (w := 1) hI.tx (by omega) (by decide) (rN_nb h5 hn (by decide) hS (fun _ _ _ => rfl)) (by decide)
  unfold MB at hb104
  obtain ⟨z, hz⟩ : ∃ z, tv g (rN P S) t 2 1 = z := ⟨_, rfl⟩
  rw [hz] at hv104 hb104
  obtain ⟨k, hk⟩ : ∃ k, (if 0 < (if z < S 5 then z else S 5) then (if z < S 5 then z else S 5) else 0) = k := ⟨_, rfl⟩
  have hk1 : z ≤ 0 → k = 0 := fun e => by rw [← hk]; split <;> (try split) <;> omega
  have hk2 : 0 < z → z < S 5 → k = z := fun e e2 => by rw [← hk]; split <;> (try split) <;> omega
  have hk3 : 0 < z → S 5 ≤ z → k = S 5 := fun e e2 => by rw [← hk]; split <;> (try split) <;> omega
  have hG104 : ∀ c j, c ≠ 50 → c ≠ 51 → c ≠ 49 → g104 c j = g c j := fun c j q1 q2 q3 => (hE104 c j q2 (Or.inl q3)).trans (hFU c j q1)
  refine wp_eq (L' := [(2, 54), (0, f), (0, (rmo P S)), (9, 0), (9, 0)]) (st' := [(0, (tv (am_up (am_up (am_up (am_up (am_up (am_up g 50 5 (g 54 9)) 50 6 (g 54 6)) 50 7 (g 54 7)) 50 8 (g 54 8)) 50 9 (rmo P S)) 50 10 (g 54 11)) ((am_up (am_up (am_up (am_up (am_up (am_up g 50 5 (g 54 9)) 50 6 (g 54 6)) 50 7 (g 54 7)) 50 8 (g 54 8)) 50 9 (rmo P S)) 50 10 (g 54 11)) 50) t 2 1)), (0, (S 5)), (0, 0)]) (g' := g104) ?_
  refine wp_eq (L' := [(2, 54), (0, f), (0, (rmo P S)), (9, 0), (9, 0)]) (st' := [(0, z), (0, (S 5)), (0, 0)]) (g' := g104) ?_ (by rfl) (by rw [hv104]) (by rfl)
  refine wp_cs (as := [(0, (S 5)), (0, z)]) (rest := [(0, 0)]) rfl (by decide) rfl (Nat.le_of_ble_eq_true rfl) (e_min (by omega) (by omega)) (by decide) (fun r5 h6 => ?_)
  obtain rfl := h6
  refine wp_eq (L' := [(2, 54), (0, f), (0, (rmo P S)), (9, 0), (9, 0)]) (st' := [(0, (if z < (S 5) then z else (S 5))), (0, 0)]) (g' := g104) ?_
  refine wp_cs (as := [(0, 0), (0, (if z < (S 5) then z else (S 5)))]) (rest := []) rfl (by decide) rfl (Nat.le_of_ble_eq_true rfl) (e_max (by omega) (by split <;> omega)) (by decide) (fun r7 h8 => ?_)
  obtain rfl := h8
  refine wp_eq (L' := [(2, 54), (0, f), (0, (rmo P S)), (9, 0), (9, 0)]) (st' := [(0, (if 0 < (if z < (S 5) then z else (S 5)) then (if z < (S 5) then z else (S 5)) else 0))]) (g' := g104) ?_
  refine wp_eq (L' := [(2, 54), (0, f), (0, (rmo P S)), (9, 0), (9, 0)]) (st' := [(0, k)]) (g' := g104) ?_ (by rfl) (by rw [hk]) (by rfl)
  refine wp_n 1 (pc' := 114) (L' := [(2, 54), (0, f), (0, (rmo P S)), (0, k), (9, 0)]) (st' := []) (g' := g104) rfl ?_
  have J163 : ∀ (h q : am_G) (w4 : am_V), (∀ c j, c ≠ 50 → c ≠ 51 → c ≠ 49 → q c j = g c j) → (h 54 9 = rpu g P t f S) → (h 54 8 = rlo g P t f S) → (h 54 11 = rwo g P t f S) → (∀ c j, ¬ (c = 54 ∧ (j = 8 ∨ j = 9 ∨ j = 11)) → h c j = q c j) → Wp sn sx 5 T53 163 [(2, 54), (0, f), (0, (rmo P S)), (0, k), w4] [] (SH b) h (fun r => ∃ g', r = (none, SH b, g') ∧ PRep g' (rstep g P t f S) ∧ g' 54 4 = t ∧ g' 54 5 = g 10 16 ∧ FrQ g g') := by
    intro h q w4 hG e9 e8 e11 hF
    have hq54 : ∀ j, ¬ (j = 8 ∨ j = 9 ∨ j = 11) → h 54 j = g 54 j := fun j hj => by rw [hF 54 j (fun e => hj e.2), hG 54 j (by omega) (by omega) (by omega)]
    have hpr : 0 ≤ rpu g P t f S ∧ rpu g P t f S ≤ 999999 := (hS.next (t := t) hI hf).1
    have hq10 := hq54 10 (by omega)
    refine wp_n 5 (pc' := 172) (L' := [(2, 54), (0, f), (0, (rmo P S)), (0, k), w4]) (st' := [(0, (h 54 9)), (0, (h 54 10)), (2, 54)]) (g' := h) rfl ?_
    refine wp_cs (as := [(0, (h 54 10)), (0, (h 54 9))]) (rest := [(2, 54)]) rfl (by decide) rfl (Nat.le_of_ble_eq_true rfl) (e_min (by omega) (by omega)) (by decide) (fun r9 h10 => ?_)
    obtain rfl := h10
    refine wp_eq (L' := [(2, 54), (0, f), (0, (rmo P S)), (0, k), w4]) (st' := [(0, (if (h 54 9) < (h 54 10) then (h 54 9) else (h 54 10))), (2, 54)]) (g' := h) ?_
    refine wp_n 5 (pc' := 184) (L' := [(2, 54), (0, f), (0, (rmo P S)), (0, k), w4]) (st' := [(0, f), (2, 55), (0, f), (2, 55)]) (g' := (am_up h 54 10 (if (h 54 9) < (h 54 10) then (h 54 9) else (h 54 10)))) rfl ?_
    refine wp_iald (k := 55) (f.toNat) rfl rfl (by omega) (by omega) (by decide) ?_
    refine wp_n 2 (pc' := 187) (L' := [(2, 54), (0, f), (0, (rmo P S)), (0, k), w4]) (st' := [(0, ((h 55 f.toNat) + 1)), (0, f), (2, 55)]) (g' := (am_up h 54 10 (if (h 54 9) < (h 54 10) then (h 54 9) else (h 54 10)))) rfl ?_
    refine wp_iast (k := 55) (f.toNat) rfl rfl (by omega) (by omega) (by decide) ?_
    refine wp_n 9 (pc' := 203) (L' := [(2, 54), (0, f), (0, (rmo P S)), (0, k), w4]) (st' := []) (g' := (am_up (am_up (am_up (am_up h 54 10 (if (h 54 9) < (h 54 10) then (h 54 9) else (h 54 10))) 55 (f.toNat) ((h 55 f.toNat) + 1)) 54 7 f) 54 6 ((h 54 6) + 1))) rfl ?_
    exact wp_ret rfl rfl rfl ⟨_, rfl, ⟨by (repeat rw [up_no (by omega)]); exact e9, by rw [up_eq, hq54 6 (by omega), p2]; rfl, by rw [up_no (by omega), up_eq]; rfl, by (repeat rw [up_no (by omega)]); exact e8, by (repeat rw [up_no (by omega)]); exact e11, by
      (repeat rw [up_no (by omega)])
      rw [up_eq, e9, hq10, p6]
      rfl, fun j hj => by
      rw [rstep_j hf.1, up_no (by omega), up_no (by omega)]
      have hj5 : h 55 j = S (100 + j) := by rw [hF 55 j (by omega), hG 55 j (by decide) (by decide) (by decide)]; exact p7 j hj
      by_cases q : j = f.toNat
      · rw [if_pos q, ← q, up_eq, hj5]
      · rw [if_neg q, up_nj q, up_no (by omega)]; exact hj5⟩, by (repeat rw [up_no (by omega)]); rw [hq54 4 (by omega)]; exact h4, by (repeat rw [up_no (by omega)]); rw [hq54 5 (by omega)]; exact h55, fun c j hc => by
      unfold Sq at hc
      rw [up_no (by omega), up_no (by omega), up_no (by omega), up_no (by omega), hF c j (by omega), hG c j (by omega) (by omega) (by omega)]⟩
  refine wp_n 6 (pc' := 126) (L' := [(2, 54), (0, f), (0, (rmo P S)), (0, k), (9, 0)]) (st' := [(0, (g104 54 4)), (2, 6), (2, 49)]) (g' := g104) rfl ?_
  refine wp_eq (L' := [(2, 54), (0, f), (0, (rmo P S)), (0, k), (9, 0)]) (st' := [(0, t), (2, 6), (2, 49)]) (g' := g104) ?_ (by rfl) (by rw [hG104 54 4 (by decide) (by decide) (by decide), h4]) (by rfl)
  refine wp_n 2 (pc' := 128) (L' := [(2, 54), (0, f), (0, (rmo P S)), (0, k), (9, 0)]) (st' := [(0, (rmo P S)), (0, 3), (0, t), (2, 6), (2, 49)]) (g' := g104) rfl ?_
  refine wp_cv (as := [(2, 49), (2, 6), (0, t), (0, 3), (0, (rmo P S))]) (rest := []) rfl rfl rfl (Nat.le_of_ble_eq_true rfl) rfl (e_work (k := 3) (hI.tx.same fun c j q1 q2 => hG104 c j (by omega) (by omega) (by omega)) (by rw [hG104 6 3 (by decide) (by decide) (by decide)]; omega) (by decide) (by rw [show g104 50 = (am_up (am_up (am_up (am_up (am_up (am_up g 50 5 (g 54 9)) 50 6 (g 54 6)) 50 7 (g 54 7)) 50 8 (g 54 8)) 50 9 (rmo P S)) 50 10 (g 54 11)) 50 from funext fun j => hE104 50 j (by decide) (Or.inl (by decide))]; exact rN_nb h5 hn (by decide) hS hNU)) (by decide) (fun r11 h12 => ?_)
  obtain ⟨g128, rfl, hE128⟩ := h12
  have hv128 := tv_go2 (c := g) (h := g104) (k := 3) (t := t) (w := rmo P S) (N := g104 50) hI.tx ht (by decide) (fun a j q1 q2 => hG104 a j (by omega) (by omega) (by omega)) (by rw [show g104 50 = (am_up (am_up (am_up (am_up (am_up (am_up g 50 5 (g 54 9)) 50 6 (g 54 6)) 50 7 (g 54 7)) 50 8 (g 54 8)) 50 9 (rmo P S)) 50 10 (g 54 11)) 50 from funext fun j => hE104 50 j (by decide) (Or.inl (by decide))]; exact hNU)
  have hb128 := tv_in (g := g) (N := rN P S) (t := t) (k := 3) (w := rmo P S) hI.tx (by omega) (by decide) (rN_nb h5 hn (by decide) hS (fun _ _ _ => rfl)) (by unfold MB; omega)
  unfold MB at hb128
  obtain ⟨x, hx⟩ : ∃ x, tv g (rN P S) t 3 (rmo P S) = x := ⟨_, rfl⟩
  rw [hx] at hv128 hb128
  have hG128 : ∀ c j, c ≠ 50 → c ≠ 51 → c ≠ 49 → g128 c j = g c j := fun c j q1 q2 q3 => (hE128 c j q2 (Or.inl q3)).trans (hG104 c j q1 q2 q3)
  have hkr : 0 ≤ k ∧ k ≤ S 5 := by omega
  have hyk := payk_in hyr (k := k) (by omega)
  have hsk0 : rsk g P t S = if z < 0 ∨ x < 0 then 0 else if S 5 < z then S 5 else z := by unfold rsk rst ron; rw [hz, hx]
  have hron : ron g P t S = x := hx
  have q9 : g128 54 9 = S 5 := (hG128 54 9 (by decide) (by decide) (by decide)).trans p1
  have q8 : g128 54 8 = S 8 := (hG128 54 8 (by decide) (by decide) (by decide)).trans p4
  have q11 : g128 54 11 = S 10 := (hG128 54 11 (by decide) (by decide) (by decide)).trans p5
  refine wp_eq (L' := [(2, 54), (0, f), (0, (rmo P S)), (0, k), (9, 0)]) (st' := [(0, (tv g104 (g104 50) t 3 (rmo P S)))]) (g' := g128) ?_
  refine wp_eq (L' := [(2, 54), (0, f), (0, (rmo P S)), (0, k), (9, 0)]) (st' := [(0, x)]) (g' := g128) ?_ (by rfl) (by rw [hv128]) (by rfl)
  refine wp_n 2 (pc' := 134) (L' := [(2, 54), (0, f), (0, (rmo P S)), (0, k), (0, x)]) (st' := [(0, k)]) (g' := g128) rfl ?_
  refine wp_if_le rfl (fun c13 => ?_) (fun c13 => ?_)
  · have hsk : ¬ 0 < rsk g P t S := by rw [hsk0]; split <;> (try split) <;> omega
    refine wp_eq (J163 (g128) (g128) ((0, x)) ?_ ?_ ?_ ?_ ?_) (by first | rfl | (simp; done) | (simp; omega)) (by rfl) (by rfl)
    · exact hG128
    · first
      | (rw [q9]; unfold rpu; rw [if_neg hsk]; done)
      | (rw [up_no (by omega), up_no (by omega), up_eq, q9]; unfold rpu; rw [hsk, if_pos (show 0 < k by omega), hron, if_pos hxf, hy]; done)
      | (rw [up_no (by omega), up_eq, q9]; unfold rpu; rw [hsk, if_pos (show 0 < k by omega), hron, if_neg hxf])
    · first
      | (rw [q8]; unfold rlo; rw [if_neg hsk]; done)
      | (rw [up_eq]; unfold rlo; rw [hsk, if_pos (show 0 < k by omega), hron, if_pos hxf]; done)
      | (rw [up_eq, q8]; unfold rlo; rw [hsk, if_pos (show 0 < k by omega), hron, if_neg hxf])
    · first
      | (rw [q11]; unfold rwo; rw [if_neg hsk]; done)
      | (rw [up_no (by omega), up_eq, q11]; unfold rwo; rw [hsk, if_pos (show 0 < k by omega), hron, if_pos hxf]; done)
      | (rw [up_no (by omega), up_no (by omega), q11]; unfold rwo; rw [hsk, if_pos (show 0 < k by omega), hron, if_neg hxf])
    · intro c j hc; first | rfl | (repeat rw [up_no (by omega)])
  · refine wp_n 1 (pc' := 139) (L' := [(2, 54), (0, f), (0, (rmo P S)), (0, k), (0, x)]) (st' := [(0, x)]) (g' := g128) rfl ?_
    refine wp_if_lt rfl (fun c14 => ?_) (fun c14 => ?_)
    · have hsk : ¬ 0 < rsk g P t S := by rw [hsk0, if_pos (by omega)]; omega
      refine wp_eq (J163 (g128) (g128) ((0, x)) ?_ ?_ ?_ ?_ ?_) (by first | rfl | (simp; done) | (simp; omega)) (by rfl) (by rfl)
      · exact hG128
      · first
        | (rw [q9]; unfold rpu; rw [if_neg hsk]; done)
        | (rw [up_no (by omega), up_no (by omega), up_eq, q9]; unfold rpu; rw [hsk, if_pos (show 0 < k by omega), hron, if_pos hxf, hy]; done)
        | (rw [up_no (by omega), up_eq, q9]; unfold rpu; rw [hsk, if_pos (show 0 < k by omega), hron, if_neg hxf])
      · first
        | (rw [q8]; unfold rlo; rw [if_neg hsk]; done)
        | (rw [up_eq]; unfold rlo; rw [hsk, if_pos (show 0 < k by omega), hron, if_pos hxf]; done)
        | (rw [up_eq, q8]; unfold rlo; rw [hsk, if_pos (show 0 < k by omega), hron, if_neg hxf])
      · first
        | (rw [q11]; unfold rwo; rw [if_neg hsk]; done)
        | (rw [up_no (by omega), up_eq, q11]; unfold rwo; rw [hsk, if_pos (show 0 < k by omega), hron, if_pos hxf]; done)
        | (rw [up_no (by omega), up_no (by omega), q11]; unfold rwo; rw [hsk, if_pos (show 0 < k by omega), hron, if_neg hxf])
      · intro c j hc; first | rfl | (repeat rw [up_no (by omega)])
    · have hsk : rsk g P t S = k := by rw [hsk0]; split <;> (try split) <;> omega
      have hem0 := Int.emod_nonneg x (show (P : Int) ≠ 0 by omega)
      have hem1 := Int.emod_lt_of_pos x (show (0 : Int) < (P : Int) by omega)
      refine wp_n 5 (pc' := 150) (L' := [(2, 54), (0, f), (0, (rmo P S)), (0, k), (0, x)]) (st' := [(0, (g128 54 0)), (0, x), (0, k), (2, 54)]) (g' := g128) rfl ?_
      refine wp_eq (L' := [(2, 54), (0, f), (0, (rmo P S)), (0, k), (0, x)]) (st' := [(0, ((P : Nat) : Int)), (0, x), (0, k), (2, 54)]) (g' := g128) ?_ (by rfl) (by rw [hG128 54 0 (by decide) (by decide) (by decide), h0]) (by rfl)
      refine wp_irem rfl (by omega) (by omega) (by omega) ?_
      refine wp_eq (L' := [(2, 54), (0, f), (0, (rmo P S)), (0, k), (0, x)]) (st' := [(0, (x % ((P : Nat) : Int))), (0, k), (2, 54)]) (g' := g128) ?_ (by rfl) (by rw [Int.tmod_eq_emod_of_nonneg (show 0 ≤ x by omega)]) (by rfl)
      refine wp_n 1 (pc' := 152) (L' := [(2, 54), (0, f), (0, (rmo P S)), (0, k), (0, x)]) (st' := [(0, f), (0, (x % ((P : Nat) : Int))), (0, k), (2, 54)]) (g' := g128) rfl ?_
      refine wp_ic_ne rfl (fun c15 => ?_) (fun c15 => ?_)
      · have hxf : ¬ x % (P : Int) = f := by omega
        refine wp_n 1 (pc' := 160) (L' := [(2, 54), (0, f), (0, (rmo P S)), (0, k), (0, x)]) (st' := [(0, 0), (0, k), (2, 54)]) (g' := g128) rfl ?_
        refine wp_cv (as := [(2, 54), (0, k), (0, 0)]) (rest := []) rfl rfl rfl (Nat.le_of_ble_eq_true rfl) rfl (e_settle0 (y := y) (by rw [hG128 54 5 (by decide) (by decide) (by decide), h55]; exact hy) (by omega) (by omega)) (by decide) (fun r16 h17 => ?_)
        obtain rfl := h17
        refine wp_eq (L' := [(2, 54), (0, f), (0, (rmo P S)), (0, k), (0, x)]) (st' := []) (g' := (am_up (am_up g128 54 9 (g128 54 9 - k)) 54 8 (g128 54 8 + 1))) ?_
        refine wp_eq (J163 ((am_up (am_up g128 54 9 (g128 54 9 - k)) 54 8 (g128 54 8 + 1))) (g128) ((0, x)) ?_ ?_ ?_ ?_ ?_) (by first | rfl | (simp; done) | (simp; omega)) (by rfl) (by rfl)
        · exact hG128
        · first
          | (rw [q9]; unfold rpu; rw [if_neg hsk]; done)
          | (rw [up_no (by omega), up_no (by omega), up_eq, q9]; unfold rpu; rw [hsk, if_pos (show 0 < k by omega), hron, if_pos hxf, hy]; done)
          | (rw [up_no (by omega), up_eq, q9]; unfold rpu; rw [hsk, if_pos (show 0 < k by omega), hron, if_neg hxf])
        · first
          | (rw [q8]; unfold rlo; rw [if_neg hsk]; done)
          | (rw [up_eq]; unfold rlo; rw [hsk, if_pos (show 0 < k by omega), hron, if_pos hxf]; done)
          | (rw [up_eq, q8]; unfold rlo; rw [hsk, if_pos (show 0 < k by omega), hron, if_neg hxf])
        · first
          | (rw [q11]; unfold rwo; rw [if_neg hsk]; done)
          | (rw [up_no (by omega), up_eq, q11]; unfold rwo; rw [hsk, if_pos (show 0 < k by omega), hron, if_pos hxf]; done)
          | (rw [up_no (by omega), up_no (by omega), q11]; unfold rwo; rw [hsk, if_pos (show 0 < k by omega), hron, if_neg hxf])
        · intro c j hc; first | rfl | (repeat rw [up_no (by omega)])
      · have hxf : x % (P : Int) = f := by omega
        refine wp_n 2 (pc' := 160) (L' := [(2, 54), (0, f), (0, (rmo P S)), (0, k), (0, x)]) (st' := [(0, 1), (0, k), (2, 54)]) (g' := g128) rfl ?_
        refine wp_cv (as := [(2, 54), (0, k), (0, 1)]) (rest := []) rfl rfl rfl (Nat.le_of_ble_eq_true rfl) rfl (e_settle1 (y := y) (by rw [hG128 54 5 (by decide) (by decide) (by decide), h55]; exact hy) (by omega) (by omega)) (by decide) (fun r18 h19 => ?_)
        obtain rfl := h19
        refine wp_eq (L' := [(2, 54), (0, f), (0, (rmo P S)), (0, k), (0, x)]) (st' := []) (g' := (am_up (am_up (am_up g128 54 9 (if g128 54 9 + y * k < 999999 then g128 54 9 + y * k else 999999)) 54 11 (g128 54 11 + 1)) 54 8 0)) ?_
        refine wp_eq (J163 ((am_up (am_up (am_up g128 54 9 (if g128 54 9 + y * k < 999999 then g128 54 9 + y * k else 999999)) 54 11 (g128 54 11 + 1)) 54 8 0)) (g128) ((0, x)) ?_ ?_ ?_ ?_ ?_) (by first | rfl | (simp; done) | (simp; omega)) (by rfl) (by rfl)
        · exact hG128
        · first
          | (rw [q9]; unfold rpu; rw [if_neg hsk]; done)
          | (rw [up_no (by omega), up_no (by omega), up_eq, q9]; unfold rpu; rw [hsk, if_pos (show 0 < k by omega), hron, if_pos hxf, hy]; done)
          | (rw [up_no (by omega), up_eq, q9]; unfold rpu; rw [hsk, if_pos (show 0 < k by omega), hron, if_neg hxf])
        · first
          | (rw [q8]; unfold rlo; rw [if_neg hsk]; done)
          | (rw [up_eq]; unfold rlo; rw [hsk, if_pos (show 0 < k by omega), hron, if_pos hxf]; done)
          | (rw [up_eq, q8]; unfold rlo; rw [hsk, if_pos (show 0 < k by omega), hron, if_neg hxf])
        · first
          | (rw [q11]; unfold rwo; rw [if_neg hsk]; done)
          | (rw [up_no (by omega), up_eq, q11]; unfold rwo; rw [hsk, if_pos (show 0 < k by omega), hron, if_pos hxf]; done)
          | (rw [up_no (by omega), up_no (by omega), q11]; unfold rwo; rw [hsk, if_pos (show 0 < k by omega), hron, if_neg hxf])
        · intro c j hc; first | rfl | (repeat rw [up_no (by omega)])
