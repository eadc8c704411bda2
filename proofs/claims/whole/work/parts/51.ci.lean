/-! WHERE AND A SHOE: what is asked; the class's invariant -/
def lsum (l : Nat → Int) (w : Nat) : Nat → Int
  | 0 => 0
  | n + 1 => lsum l w n + l (37 * w + n)
def oth (l : Nat → Int) (P w : Nat) : Int := lsum l ((w + 1) % 4) P * (lsum l ((w + 2) % 4) P * lsum l ((w + 3) % 4) P)
/-- spins of evening e at table t, not dozed -/
def spn (ev tb fl : Nat → Int) (e t : Int) : Nat → Nat
  | 0 => 0
  | n + 1 => spn ev tb fl e t n + (if ev n = e ∧ tb n = t ∧ fl n ≠ -1 then 1 else 0)
def fac (P : Nat) (l ev tb fl : Nat → Int) (e : Int) (w : Nat → Int) (i : Nat) : Int := if ev i = e ∧ fl i ≠ -1 then l (37 * (w (tb i).toNat).toNat + (fl i).toNat) * oth l P (w (tb i).toNat).toNat else 1
def lkw (P : Nat) (l ev tb fl : Nat → Int) (e : Int) (w : Nat → Int) : Nat → Int
  | 0 => 1
  | n + 1 => lkw P l ev tb fl e w n * fac P l ev tb fl e w n
/-- the k-th way to set wheels at tables -/
def wy (k t : Nat) : Int := (if t = 0 then ((k / 25 : Nat) : Int) else if t = 1 then ((k / 5 % 5 : Nat) : Int) else ((k % 5 : Nat) : Int)) - 1
def okw (ev tb fl sc : Nat → Int) (n : Nat) (e : Nat) (w : Nat → Int) : Prop := (∀ t : Nat, t < 3 → ((0 < spn ev tb fl e t n ↔ 0 ≤ w t) ∧ ∀ u : Nat, u < t → 0 ≤ w t → w t ≠ w u)) ∧ ∀ t : Nat, t < 3 → 0 ≤ sc (3 * e + t) → ((0 < spn ev tb fl e t n → w t = sc (3 * e + t)) ∧ ∀ u : Nat, u < 3 → u ≠ t → w u ≠ sc (3 * e + t) ∧ sc (3 * e + u) ≠ sc (3 * e + t))
noncomputable def cntW (p : Nat → Prop) : Nat → Nat
  | 0 => 0
  | n + 1 => cntW p n + @ite Nat (p n) (Classical.propDecidable _) 1 0
noncomputable def sumW (p : Nat → Prop) (v : Nat → Int) : Nat → Int
  | 0 => 0
  | n + 1 => sumW p v n + @ite Int (p n) (Classical.propDecidable _) (v n) 0
def WA (P : Nat) (l ev tb fl sc : Nat → Int) (n e : Nat) (ways sure : Int) (s : Nat → Int) : Prop :=
  ways = (cntW (fun k => okw ev tb fl sc n e (wy k)) 125 : Int) ∧
  ((cntW (fun k => okw ev tb fl sc n e (wy k)) 125 = 0 ∧ sure = -1 ∧ ∀ t : Nat, t < 3 → s t = -1) ∨
   ∃ k, k < 125 ∧ okw ev tb fl sc n e (wy k) ∧ (∀ j, j < 125 → okw ev tb fl sc n e (wy j) → lkw P l ev tb fl e (wy j) n ≤ lkw P l ev tb fl e (wy k) n) ∧ (∀ j, j < k → okw ev tb fl sc n e (wy j) → lkw P l ev tb fl e (wy j) n < lkw P l ev tb fl e (wy k) n) ∧ (∀ t : Nat, t < 3 → s t = wy k t) ∧
    ((spn ev tb fl e 0 n + spn ev tb fl e 1 n + spn ev tb fl e 2 n = 0 ∧ sure = -1) ∨ (0 < spn ev tb fl e 0 n + spn ev tb fl e 1 n + spn ev tb fl e 2 n ∧ IsShare (lkw P l ev tb fl e (wy k) n) 1000 (sumW (fun k => okw ev tb fl sc n e (wy k)) (fun k => lkw P l ev tb fl e (wy k) n) 125) sure)))
def CaW (P : Nat) (g : am_G) : Prop := (0 ≤ g 56 2 ∧ g 56 2 < 16) ∧ ∀ e : Nat, e < 4 → g 56 2 / 2 ^ e % 2 = 1 → WA P (g 3) (g 11) (g 12) (g 14) (g 15) (g 10 4).toNat e (g 57 e) (g 58 e) (fun t => g 59 (3 * e + t))
theorem CaW.same {P : Nat} {g g' : am_G} (h : CaW P g) (hF : ∀ c j, c = 3 ∨ (c = 10 ∧ j = 4) ∨ c = 11 ∨ c = 12 ∨ c = 14 ∨ c = 15 ∨ (c = 56 ∧ j = 2) ∨ c = 57 ∨ c = 58 ∨ c = 59 → g' c j = g c j) : CaW P g' := by
  have e3 : g' 3 = g 3 := funext fun j => hF 3 j (by omega)
  have e11 : g' 11 = g 11 := funext fun j => hF 11 j (by omega)
  have e12 : g' 12 = g 12 := funext fun j => hF 12 j (by omega)
  have e14 : g' 14 = g 14 := funext fun j => hF 14 j (by omega)
  have e15 : g' 15 = g 15 := funext fun j => hF 15 j (by omega)
  have e57 : g' 57 = g 57 := funext fun j => hF 57 j (by omega)
  have e58 : g' 58 = g 58 := funext fun j => hF 58 j (by omega)
  have e59 : g' 59 = g 59 := funext fun j => hF 59 j (by omega)
  unfold CaW
  rw [e3, e11, e12, e14, e15, e57, e58, e59, hF 10 4 (by omega), hF 56 2 (by omega)]
  exact h
theorem CaW.none {P : Nat} {g : am_G} (h : g 56 2 = 0) : CaW P g := by
  refine ⟨by omega, fun e he h1 => ?_⟩
  rw [h] at h1
  rw [Int.zero_ediv] at h1
  omega
/-- a shoe's law -/
def offs (sp tn : Nat → Int) (a b c : Int) : Nat → Int
  | 0 => 0
  | n + 1 => offs sp tn a b c n + ((Int.tdiv (a * sp n + b) c - tn n).natAbs : Int)
def lwA (q : Nat) : Int := ((q / 41 % 21 : Nat) : Int)
def lwB (q : Nat) : Int := ((q % 41 : Nat) : Int) - 20
def lwC (q : Nat) : Int := ((q / 861 : Nat) : Int) + 1
def offq (sp tn : Nat → Int) (n q : Nat) : Int := offs sp tn (lwA q) (lwB q) (lwC q) n
def ShA (sp tn : Nat → Int) (n : Nat) (least a b c : Int) : Prop := ∃ q, q < 17220 ∧ least = offq sp tn n q ∧ (∀ p, p < 17220 → offq sp tn n q ≤ offq sp tn n p) ∧ (∀ p, p < q → offq sp tn n q < offq sp tn n p) ∧ a = lwA q ∧ b = lwB q ∧ c = lwC q
theorem ShA.uniq {sp tn : Nat → Int} {n : Nat} {l a b c l' a' b' c' : Int} (h : ShA sp tn n l a b c) (h' : ShA sp tn n l' a' b' c') : l = l' ∧ a = a' ∧ b = b' ∧ c = c' := by
  obtain ⟨q, h1, h2, h3, h4, h5, h6, h7⟩ := h
  obtain ⟨q', k1, k2, k3, k4, k5, k6, k7⟩ := h'
  have e : q = q' := by
    rcases Nat.lt_trichotomy q q' with x | x | x
    · have := k4 q x; have := h3 q' k1; omega
    · exact x
    · have := h4 q' x; have := k3 q h1; omega
  subst e
  exact ⟨h2.trans k2.symm, h5.trans k5.symm, h6.trans k6.symm, h7.trans k7.symm⟩
def CaL (g : am_G) : Prop := g 120 12 = 0 ∨ (g 120 12 = 1 ∧ ShA (g 21) (g 22) (g 10 14).toNat (g 120 13) (g 120 14) (g 120 15) (g 120 16))
theorem CaL.same {g g' : am_G} (h : CaL g) (hF : ∀ c j, (c = 10 ∧ j = 14) ∨ c = 21 ∨ c = 22 ∨ (c = 120 ∧ 12 ≤ j) → g' c j = g c j) : CaL g' := by
  have e21 : g' 21 = g 21 := funext fun j => hF 21 j (by omega)
  have e22 : g' 22 = g 22 := funext fun j => hF 22 j (by omega)
  unfold CaL
  rw [e21, e22, hF 10 14 (by omega), hF 120 12 (by omega), hF 120 13 (by omega), hF 120 14 (by omega), hF 120 15 (by omega), hF 120 16 (by omega)]
  exact h
theorem TxW.same {d : Nat} {g g' : am_G} (h : TxW d g) (hF : ∀ c j, 6 + d ≤ c → c ≤ 9 + d → g' c j = g c j) : TxW d g' := by
  have e7 : g' (7 + d) = g (7 + d) := funext fun j => hF _ j (by omega) (by omega)
  have e8 : g' (8 + d) = g (8 + d) := funext fun j => hF _ j (by omega) (by omega)
  have e9 : g' (9 + d) = g (9 + d) := funext fun j => hF _ j (by omega) (by omega)
  unfold TxW TxC
  rw [e7, e8, e9, hF (6 + d) 3 (by omega) (by omega), hF (6 + d) 4 (by omega) (by omega)]
  exact h
/-- texts that the image has are as they were -/
def TxI (g : am_G) : Prop := g 29 3 ≤ g 6 3 ∧ ∀ t : Nat, (t : Int) < g 29 3 → (∀ j, j < 300 → g 30 (300 * t + j) = g 7 (300 * t + j)) ∧ ∀ k, k < 4 → g 31 (4 * t + k) = g 8 (4 * t + k) ∧ g 32 (4 * t + k) = g 9 (4 * t + k)
theorem TxI.same {g g' : am_G} (h : TxI g) (hF : ∀ c j, (6 ≤ c ∧ c ≤ 9) ∨ (29 ≤ c ∧ c ≤ 32) → g' c j = g c j) : TxI g' := by
  unfold TxI
  have e (c : Nat) (hc : (6 ≤ c ∧ c ≤ 9) ∨ (29 ≤ c ∧ c ≤ 32)) : g' c = g c := funext fun j => hF c j hc
  rw [e 6 (by omega), e 7 (by omega), e 8 (by omega), e 9 (by omega), e 29 (by omega), e 30 (by omega), e 31 (by omega), e 32 (by omega)]
  exact h
def CInv (P : Nat) (g : am_G) : Prop := CK P g ∧ Rng P 0 g ∧ Rng P 23 g ∧ E24 0 g ∧ E24 23 g ∧ TxW 0 g ∧ TxW 23 g ∧ TxI g ∧ Tap g ∧ CLs g ∧ WLs g ∧ CaW P g ∧ CaL g
theorem CInv.ck {P : Nat} {g : am_G} (h : CInv P g) : CK P g := h.1
theorem CInv.rg {P : Nat} {g : am_G} (h : CInv P g) : Rng P 0 g := h.2.1
theorem CInv.rgi {P : Nat} {g : am_G} (h : CInv P g) : Rng P 23 g := h.2.2.1
theorem CInv.e24 {P : Nat} {g : am_G} (h : CInv P g) : E24 0 g := h.2.2.2.1
theorem CInv.e24i {P : Nat} {g : am_G} (h : CInv P g) : E24 23 g := h.2.2.2.2.1
theorem CInv.tx {P : Nat} {g : am_G} (h : CInv P g) : TxW 0 g := h.2.2.2.2.2.1
theorem CInv.txi {P : Nat} {g : am_G} (h : CInv P g) : TxW 23 g := h.2.2.2.2.2.2.1
theorem CInv.ti {P : Nat} {g : am_G} (h : CInv P g) : TxI g := h.2.2.2.2.2.2.2.1
theorem CInv.tap {P : Nat} {g : am_G} (h : CInv P g) : Tap g := h.2.2.2.2.2.2.2.2.1
theorem CInv.cls {P : Nat} {g : am_G} (h : CInv P g) : CLs g := h.2.2.2.2.2.2.2.2.2.1
theorem CInv.wls {P : Nat} {g : am_G} (h : CInv P g) : WLs g := h.2.2.2.2.2.2.2.2.2.2.1
theorem CInv.caw {P : Nat} {g : am_G} (h : CInv P g) : CaW P g := h.2.2.2.2.2.2.2.2.2.2.2.1
theorem CInv.cal {P : Nat} {g : am_G} (h : CInv P g) : CaL g := h.2.2.2.2.2.2.2.2.2.2.2.2
def Sc (c j : Nat) : Prop := Sq c j ∨ (60 ≤ c ∧ c ≤ 102) ∨ (c = 103 ∧ j ≠ 0) ∨ (104 ≤ c ∧ c ≤ 119)
def FrS (g h : am_G) : Prop := ∀ c j, ¬ Sc c j → h c j = g c j
theorem FrS.rfl {g : am_G} : FrS g g := fun _ _ _ => Eq.refl _
theorem FrS.trans {g h i : am_G} (h1 : FrS g h) (h2 : FrS h i) : FrS g i := fun c j a => (h2 c j a).trans (h1 c j a)
theorem FrS.up {g h : am_G} {k i : Nat} {x : Int} (h1 : FrS g h) (hs : Sc k i) : FrS g (am_up h k i x) := by
  intro c j hc
  by_cases e : c = k
  · subst e
    by_cases e2 : j = i
    · subst e2; exact absurd hs hc
    · rw [up_nj e2]; exact h1 c j hc
  · rw [up_ne e]; exact h1 c j hc
theorem FrQ.s {g h : am_G} (hF : FrQ g h) : FrS g h := fun c j hc => hF c j fun q => hc (Or.inl q)
theorem FrH.s {g h : am_G} (hF : FrH g h) : FrS g h := fun c j hc => hF c j (by unfold Sc at hc; omega)
theorem FrK.s {g h : am_G} (hF : FrK g h) : FrS g h := fun c j hc => hF c j (by unfold Sc at hc; omega)
theorem FrS.co {g h : am_G} (hF : FrS g h) : CoE g h := fun k j hc => hF k j (by unfold Co at hc; unfold Sc Sq; omega)
theorem CInv.keep {P : Nat} {g g' : am_G} (h : CInv P g) (hF : FrS g g') (hC : CLs g') (hW : WLs g') : CInv P g' := by
  have k (c j : Nat) (q : ¬ Sc c j) : g' c j = g c j := hF c j q
  exact ⟨h.ck.same fun c j q => k c j (by unfold Sc Sq; omega), h.rg.same fun c j a b => k c j (by unfold Sc Sq; omega), h.rgi.same fun c j a b => k c j (by unfold Sc Sq; omega), h.e24.same fun c j q => k c j (by unfold Sc Sq; omega), h.e24i.same fun c j q => k c j (by unfold Sc Sq; omega), h.tx.same fun c j a b => k c j (by unfold Sc Sq; omega), h.txi.same fun c j a b => k c j (by unfold Sc Sq; omega), h.ti.same fun c j q => k c j (by unfold Sc Sq; omega), h.tap.same fun c j q => k c j (by unfold Sc Sq; omega), hC, hW, h.caw.same fun c j q => k c j (by unfold Sc Sq; omega), h.cal.same fun c j q => k c j (by unfold Sc Sq; omega)⟩
theorem CInv.keepQ {P : Nat} {g g' : am_G} (h : CInv P g) (hF : FrQ g g') : CInv P g' := h.keep hF.s (h.cls.same fun c j a b => hF c j (by unfold Sq; omega)) (h.wls.same fun c j a b => hF c j (by unfold Sq; omega))
theorem CInv.keepK {P : Nat} {g g' : am_G} (h : CInv P g) (hF : FrK g g') (hC : CLs g') : CInv P g' := h.keep hF.s hC (h.wls.same fun c j a b => hF c j (by omega))
theorem CInv.keepM {P : Nat} {g g' : am_G} (h : CInv P g) (hF : ∀ c j, c ≤ 126 → g' c j = g c j) : CInv P g' := by
  have k (c j : Nat) (q : c ≤ 126) : g' c j = g c j := hF c j q
  exact ⟨h.ck.same fun c j q => k c j (by omega), h.rg.same fun c j a b => k c j (by omega), h.rgi.same fun c j a b => k c j (by omega), h.e24.same fun c j q => k c j (by omega), h.e24i.same fun c j q => k c j (by omega), h.tx.same fun c j a b => k c j (by omega), h.txi.same fun c j a b => k c j (by omega), h.ti.same fun c j q => k c j (by omega), h.tap.same fun c j q => k c j (by omega), h.cls.same fun c j a b => k c j (by omega), h.wls.same fun c j a b => k c j (by omega), h.caw.same fun c j q => k c j (by omega), h.cal.same fun c j q => k c j (by omega)⟩
