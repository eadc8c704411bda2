/-! PUBLIC METHODS: drop, foretold, odds -/
theorem rollF_c {c c' : am_G} {P : Nat} {tl : Int} (h : ∀ a j, 2 ≤ a → a ≤ 9 → c' a j = c a j) : ∀ (n : Nat) (p v t : Int), rollF c' P tl n p v t = rollF c P tl n p v t := by
  have e7 : c' 7 = c 7 := funext fun j => h 7 j (by omega) (by omega)
  have e8 : c' 8 = c 8 := funext fun j => h 8 j (by omega) (by omega)
  have e9 : c' 9 = c 9 := funext fun j => h 9 j (by omega) (by omega)
  intro n
  induction n with
  | zero => intro p v t; rfl
  | succ n ih => intro p v t; rw [rollF, rollF, h 6 4 (by omega) (by omega), tv_c e7 e8 e9, tv_c e7 e8 e9, ih]
theorem RollC.of {c c' g' : am_G} {P w : Nat} {p s d u : Int} (h : ∀ a j, 2 ≤ a → a ≤ 9 → c' a j = c a j) (H : RollC c' g' P w p s d u) : RollC c g' P w p s d u := by
  have a1 : rOff c' P w p s = rOff c P w p s := by unfold rOff; rw [h 5 w (by omega) (by omega), rollF_c h]
  have a2 : rStud c' P w p s = rStud c P w p s := by unfold rStud; rw [h 5 w (by omega) (by omega), rollF_c h]
  have a3 : rPkt c' P w p s d u = rPkt c P w p s d u := by unfold rPkt; rw [a1, a2]
  obtain ⟨h1, h2, h3, h4⟩ := H
  refine ⟨h1.trans a1, h2.trans a2, h3.trans a3, fun j hj => ?_⟩
  rw [h4 j hj, a2, a3]
  exact od_c (funext fun j => h 2 j (by omega) (by omega)) (funext fun j => h 4 j (by omega) (by omega)) 4
def odR (c : am_G) (P w : Nat) (p s d u : Int) (j : Nat) : Int := od c P w (rStud c P w p s) (rPkt c P w p s d u) j 4
theorem rStud_in (c : am_G) (P w : Nat) (p s : Int) : 0 ≤ rStud c P w p s ∧ rStud c P w p s ≤ 7 := by
  unfold rStud
  omega
theorem rPkt_in {c : am_G} {P w : Nat} {p s d u : Int} (h5 : 5 ≤ P ∧ P ≤ 37) : 0 ≤ rPkt c P w p s d u ∧ rPkt c P w p s d u ≤ 37 := by
  have h0 := Int.emod_nonneg (rStud c P w p s * (P : Int) - (d - u * rOff c P w p s) % (8 * (P : Int))) (show 8 * (P : Int) ≠ 0 by omega)
  have h1 := Int.emod_lt_of_pos (rStud c P w p s * (P : Int) - (d - u * rOff c P w p s) % (8 * (P : Int))) (show (0 : Int) < 8 * (P : Int) by omega)
  unfold rPkt
  omega
theorem odR_in {c : am_G} {P w : Nat} {p s d u : Int} {j : Nat} (hI : CInv P c) (hw : w < 4) : 0 ≤ odR c P w p s d u j ∧ odR c P w p s d u j ≤ 12000 := od_in hI.rg hI.ck.1 hw (rStud_in c P w p s) 4 (Nat.le_refl _)
theorem em_sub (a b n : Int) : (a % n - b) % n = (a - b) % n := by rw [Int.sub_emod, Int.emod_emod, ← Int.sub_emod]
theorem odR_em {c : am_G} {P w : Nat} {p s d u : Int} {j : Nat} : odR c P w (p % (8 * (P : Int))) s (d % (8 * (P : Int))) u j = odR c P w p s d u j := by
  have a1 : rOff c P w (p % (8 * (P : Int))) s = rOff c P w p s := by unfold rOff; rw [Int.emod_emod]
  have a2 : rStud c P w (p % (8 * (P : Int))) s = rStud c P w p s := by unfold rStud; rw [Int.emod_emod]
  have a3 : rPkt c P w (p % (8 * (P : Int))) s (d % (8 * (P : Int))) u = rPkt c P w p s d u := by unfold rPkt; rw [a1, a2, em_sub]
  unfold odR
  rw [a2, a3]
def fore (c : am_G) (P w : Nat) (p s d u : Int) (j : Nat) : Nat → Int
  | 0 => 0
  | k + 1 => fore c P w p s d u j k + c 23 k * odR c P w (p + s * (k : Int)) s (d - u * (k : Int)) u j
theorem fore_in {c : am_G} {P w : Nat} {p s d u : Int} {j : Nat} (hI : CInv P c) (hw : w < 4) : ∀ k, k ≤ 5 → 0 ≤ fore c P w p s d u j k ∧ fore c P w p s d u j k ≤ 120000 * (k : Int) := by
  intro k
  induction k with
  | zero => intro _; exact ⟨Int.le_refl _, Int.le_refl _⟩
  | succ k ih =>
    intro hk
    have h0 := ih (by omega)
    have h1 := hI.rg.r23_26 k (by omega)
    have h2 := odR_in (p := p + s * (k : Int)) (s := s) (d := d - u * (k : Int)) (u := u) (j := j) hI hw
    have h3 := Int.mul_nonneg h1.1 h2.1
    have h4 := Int.mul_le_mul h1.2 h2.2 h2.1 (by decide)
    rw [fore]
    omega
/-- the first place of the greatest, of 0 .. n -/
def gmx (f : Nat → Int) : Nat → Nat
  | 0 => 0
  | n + 1 => if f (gmx f n) < f (n + 1) then n + 1 else gmx f n
theorem gmx_le (f : Nat → Int) (n : Nat) : gmx f n ≤ n := by
  induction n with
  | zero => exact Nat.le_refl _
  | succ n ih => rw [gmx]; split <;> omega
theorem gmx_s (f : Nat → Int) (n : Nat) : gmx f (n + 1) = if f (gmx f n) < f (n + 1) then n + 1 else gmx f n := rfl
theorem gmx_eq {f f' : Nat → Int} {n : Nat} (h : ∀ j, j ≤ n → f' j = f j) : gmx f' n = gmx f n := by
  induction n with
  | zero => rfl
  | succ n ih => rw [gmx, gmx, ih fun j hj => h j (by omega), h (n + 1) (Nat.le_refl _), h (gmx f n) (Nat.le_trans (gmx_le f n) (by omega))]
set_option maxHeartbeats 400000 in
set_option maxRecDepth 20000 in
theorem e_isInW {sn : Nat} {sx : Nat → Int} {g : am_G} {sh : am_Sh} {v low high : Int} (h_v : -2147483748 ≤ v ∧ v < 2147483648) (h_low : 0 ≤ low ∧ low ≤ 1000) (h_high : 0 ≤ high ∧ high ≤ 1000) : Ev sn sx 1 151 [(0, v), (0, low), (0, high)] sh g (fun r => Is1 r sh g (low ≤ v ∧ v ≤ high)) := by
  refine ev_of (K := 0) T151 (by decide) rfl rfl (Nat.le_of_ble_eq_true rfl) ?_
  refine wp_eq (L' := [(0, v), (0, low), (0, high)]) (st' := []) (g' := g) ?_
  refine wp_n 2 (pc' := 2) (L' := [(0, v), (0, low), (0, high)]) (st' := [(0, low), (0, v)]) (g' := g) rfl ?_
  refine wp_ic_lt rfl (fun c1 => ?_) (fun c1 => ?_)
  · refine wp_n 1 (pc' := 15) (L' := [(0, v), (0, low), (0, high)]) (st' := [(0, 0)]) (g' := g) rfl ?_
    exact wp_ret rfl rfl rfl (Or.inr ⟨rfl, by omega⟩)
  · refine wp_n 2 (pc' := 7) (L' := [(0, v), (0, low), (0, high)]) (st' := [(0, high), (0, v)]) (g' := g) rfl ?_
    refine wp_ic_gt rfl (fun c2 => ?_) (fun c2 => ?_)
    · refine wp_n 1 (pc' := 15) (L' := [(0, v), (0, low), (0, high)]) (st' := [(0, 0)]) (g' := g) rfl ?_
      exact wp_ret rfl rfl rfl (Or.inr ⟨rfl, by omega⟩)
    · refine wp_n 2 (pc' := 15) (L' := [(0, v), (0, low), (0, high)]) (st' := [(0, 1)]) (g' := g) rfl ?_
      exact wp_ret rfl rfl rfl (Or.inl ⟨rfl, by omega⟩)
set_option maxHeartbeats 400000 in
set_option maxRecDepth 20000 in
theorem m_isPocketW {sn : Nat} {sx : Nat → Int} {b : Nat} {g : am_G} {P : Nat} {p : Int} (hp : -2147483748 ≤ p ∧ p < 2147483648) (h0 : g 127 0 = (P : Int)) (h5 : 5 ≤ P ∧ P ≤ 37) : Ev sn sx 2 154 [(2, 127), (0, p)] (SH b) g (fun r => Is1 r (SH b) g (0 ≤ p ∧ p < (P : Int))) := by
  refine ev_of (K := 1) T154 (by decide) rfl rfl (Nat.le_of_ble_eq_true rfl) ?_
  refine wp_eq (L' := [(2, 127), (0, p)]) (st' := []) (g' := g) ?_
  refine wp_n 4 (pc' := 6) (L' := [(2, 127), (0, p)]) (st' := [(0, (g 127 0)), (0, 0), (0, p)]) (g' := g) rfl ?_
  refine wp_eq (L' := [(2, 127), (0, p)]) (st' := [(0, ((P : Nat) : Int)), (0, 0), (0, p)]) (g' := g) ?_ (by rfl) (by rw [h0]) (by rfl)
  refine wp_n 2 (pc' := 8) (L' := [(2, 127), (0, p)]) (st' := [(0, (((P : Nat) : Int) - 1)), (0, 0), (0, p)]) (g' := g) rfl ?_
  refine wp_cs (as := [(0, p), (0, 0), (0, (((P : Nat) : Int) - 1))]) (rest := []) rfl (by decide) rfl (Nat.le_of_ble_eq_true rfl) (e_isInW (by omega) (by omega) (by omega)) (by decide) (fun r1 h2 => ?_)
  rcases h2 with ⟨rfl, p8⟩ | ⟨rfl, p8⟩
  · refine wp_eq (L' := [(2, 127), (0, p)]) (st' := [(0, 1)]) (g' := g) ?_
    exact wp_ret rfl rfl rfl (Or.inl ⟨rfl, by omega⟩)
  · refine wp_eq (L' := [(2, 127), (0, p)]) (st' := [(0, 0)]) (g' := g) ?_
    exact wp_ret rfl rfl rfl (Or.inr ⟨rfl, by omega⟩)
def DrD (P : Nat) (w p s d u x : Int) : Prop := 0 ≤ w ∧ w ≤ 3 ∧ 0 ≤ p ∧ p < 8 * (P : Int) ∧ 1 ≤ s ∧ s ≤ 999 ∧ 0 ≤ d ∧ d < 8 * (P : Int) ∧ 0 ≤ u ∧ u ≤ 99 ∧ ((0 ≤ x ∧ x ≤ 2) ∨ (100 ≤ x ∧ x < 100 + (P : Int)))
def drV (c : am_G) (P : Nat) (w p s d u x : Int) : Int := if x = 0 then rOff c P w.toNat p s else if x = 1 then rStud c P w.toNat p s else if x = 2 then rPkt c P w.toNat p s d u else odR c P w.toNat p s d u (x - 100).toNat
def DrA (c : am_G) (P : Nat) (w p s d u x v : Int) : Prop := (DrD P w p s d u x ∧ v = drV c P w p s d u x) ∨ (¬ DrD P w p s d u x ∧ v = -1)
set_option maxHeartbeats 400000 in
set_option maxRecDepth 20000 in
theorem e_drop {sn : Nat} {sx : Nat → Int} {b : Nat} {g : am_G} {P : Nat} {w p s d u x : Int} (h_w : R32 w) (h_p : R32 p) (h_s : R32 s) (h_d : R32 d) (h_u : R32 u) (h_x : R32 x) (hI : CInv P g) : Ev sn sx 7 106 [(2, 0), (0, w), (0, p), (0, s), (0, d), (0, u), (0, x)] (SH b) g (fun y => ∃ g' v, y = (some (0, v), SH b, g') ∧ DrA g P w p s d u x v ∧ FrQ g g') := by
  have hP := hI.ck.2.1
  have h5 := hI.ck.1
  refine ev_of (K := 6) T106 (by decide) rfl rfl (Nat.le_of_ble_eq_true rfl) ?_
  refine wp_eq (L' := [(2, 0), (0, w), (0, p), (0, s), (0, d), (0, u), (0, x), (9, 0)]) (st' := []) (g' := g) ?_
  refine wp_n 5 (pc' := 10) (L' := [(2, 0), (0, w), (0, p), (0, s), (0, d), (0, u), (0, x), (9, 0)]) (st' := [(0, (g 0 0)), (0, 99), (0, 100), (0, x)]) (g' := g) rfl ?_
  refine wp_eq (L' := [(2, 0), (0, w), (0, p), (0, s), (0, d), (0, u), (0, x), (9, 0)]) (st' := [(0, ((P : Nat) : Int)), (0, 99), (0, 100), (0, x)]) (g' := g) ?_ (by rfl) (by rw [hP]) (by rfl)
  refine wp_n 1 (pc' := 11) (L' := [(2, 0), (0, w), (0, p), (0, s), (0, d), (0, u), (0, x), (9, 0)]) (st' := [(0, (99 + ((P : Nat) : Int))), (0, 100), (0, x)]) (g' := g) rfl ?_
  refine wp_cs (as := [(0, x), (0, 100), (0, (99 + ((P : Nat) : Int)))]) (rest := []) rfl (by decide) rfl (Nat.le_of_ble_eq_true rfl) (e_within (by omega) (by omega) (by omega)) (by decide) (fun r2 h3 => ?_)
  rcases h3 with ⟨rfl, p1⟩ | ⟨rfl, p1⟩
  · refine wp_eq (L' := [(2, 0), (0, w), (0, p), (0, s), (0, d), (0, u), (0, x), (9, 0)]) (st' := [(0, 1)]) (g' := g) ?_
    refine wp_n 2 (pc' := 17) (L' := [(2, 0), (0, w), (0, p), (0, s), (0, d), (0, u), (0, x), (0, 1)]) (st' := [(0, w)]) (g' := g) rfl ?_
    refine wp_cs (as := [(0, w)]) (rest := []) rfl (by decide) rfl (Nat.le_of_ble_eq_true rfl) (e_isWheel (by omega)) (by decide) (fun r5 h6 => ?_)
    rcases h6 with ⟨rfl, p4⟩ | ⟨rfl, p4⟩
    · refine wp_eq (L' := [(2, 0), (0, w), (0, p), (0, s), (0, d), (0, u), (0, x), (0, 1)]) (st' := [(0, 1)]) (g' := g) ?_
      refine wp_n 6 (pc' := 30) (L' := [(2, 0), (0, w), (0, p), (0, s), (0, d), (0, u), (0, x), (0, 1)]) (st' := [(0, u), (0, d), (0, s), (0, p), (2, 0)]) (g' := g) rfl ?_
      refine wp_cv (as := [(2, 0), (0, p), (0, s), (0, d), (0, u)]) (rest := []) rfl rfl rfl (Nat.le_of_ble_eq_true rfl) rfl (e_isRelease (by omega) (by omega) (by omega) (by omega) (by assumption) (by omega)) (by decide) (fun r7 h8 => ?_)
      rcases h8 with ⟨rfl, p30⟩ | ⟨rfl, p30⟩
      · refine wp_eq (L' := [(2, 0), (0, w), (0, p), (0, s), (0, d), (0, u), (0, x), (0, 1)]) (st' := [(0, 1)]) (g' := g) ?_
        refine wp_n 4 (pc' := 40) (L' := [(2, 0), (0, w), (0, p), (0, s), (0, d), (0, u), (0, x), (0, 1)]) (st' := [(0, 2), (0, 0), (0, x)]) (g' := g) rfl ?_
        refine wp_cs (as := [(0, x), (0, 0), (0, 2)]) (rest := []) rfl (by decide) rfl (Nat.le_of_ble_eq_true rfl) (e_within (by omega) (by omega) (by omega)) (by decide) (fun r10 h11 => ?_)
        rcases h11 with ⟨rfl, p9⟩ | ⟨rfl, p9⟩
        · refine wp_eq (L' := [(2, 0), (0, w), (0, p), (0, s), (0, d), (0, u), (0, x), (0, 1)]) (st' := [(0, 1)]) (g' := g) ?_
          refine wp_n 4 (pc' := 58) (L' := [(2, 0), (0, w), (0, p), (0, s), (0, d), (0, u), (0, x), (0, 1)]) (st' := [(0, w), (2, 52)]) (g' := g) rfl ?_
          refine wp_eq (L' := [(2, 0), (0, w), (0, p), (0, s), (0, d), (0, u), (0, x), (0, 1)]) (st' := [(0, ((w.toNat : Nat) : Int)), (2, 52)]) (g' := g) ?_ (by rfl) (by rw [Int.toNat_of_nonneg (by omega)]) (by rfl)
          refine wp_n 4 (pc' := 64) (L' := [(2, 0), (0, w), (0, p), (0, s), (0, d), (0, u), (0, x), (0, 1)]) (st' := [(0, u), (0, d), (0, s), (0, p), (0, ((w.toNat : Nat) : Int)), (2, 52)]) (g' := g) rfl ?_
          refine wp_cv (as := [(2, 52), (0, ((w.toNat : Nat) : Int)), (0, p), (0, s), (0, d), (0, u)]) (rest := []) rfl rfl rfl (Nat.le_of_ble_eq_true rfl) rfl (e_roll (P := P) (w := (w.toNat)) hI (by omega) (by omega) (by omega) (by omega) (by omega)) (by decide) (fun r12 h13 => ?_)
          obtain ⟨g64, rfl, hC64, hF64⟩ := h13
          refine wp_eq (L' := [(2, 0), (0, w), (0, p), (0, s), (0, d), (0, u), (0, x), (0, 1)]) (st' := []) (g' := g64) ?_
          refine wp_n 8 (pc' := 84) (L' := [(2, 0), (0, w), (0, p), (0, s), (0, d), (0, u), (0, x), (0, 1)]) (st' := [(0, (x - 100)), (2, 53)]) (g' := g64) rfl ?_
          refine wp_iald (k := 53) ((x - 100).toNat) rfl rfl (by omega) (by omega) (by decide) ?_
          exact wp_ret rfl rfl rfl ⟨_, _, rfl, Or.inl ⟨by unfold DrD; omega, by unfold drV; first | (rw [if_pos (by omega)]; exact hC64.1) | (rw [if_neg (by omega), if_pos (by omega)]; exact hC64.2.1) | (rw [if_neg (by omega), if_neg (by omega), if_pos (by omega)]; exact hC64.2.2.1) | (rw [if_neg (by omega), if_neg (by omega), if_neg (by omega)]; exact hC64.2.2.2 _ (by omega))⟩, hF64.q⟩
        · refine wp_eq (L' := [(2, 0), (0, w), (0, p), (0, s), (0, d), (0, u), (0, x), (0, 1)]) (st' := [(0, 0)]) (g' := g) ?_
          refine wp_n 6 (pc' := 58) (L' := [(2, 0), (0, w), (0, p), (0, s), (0, d), (0, u), (0, x), (0, 1)]) (st' := [(0, w), (2, 52)]) (g' := g) rfl ?_
          refine wp_eq (L' := [(2, 0), (0, w), (0, p), (0, s), (0, d), (0, u), (0, x), (0, 1)]) (st' := [(0, ((w.toNat : Nat) : Int)), (2, 52)]) (g' := g) ?_ (by rfl) (by rw [Int.toNat_of_nonneg (by omega)]) (by rfl)
          refine wp_n 4 (pc' := 64) (L' := [(2, 0), (0, w), (0, p), (0, s), (0, d), (0, u), (0, x), (0, 1)]) (st' := [(0, u), (0, d), (0, s), (0, p), (0, ((w.toNat : Nat) : Int)), (2, 52)]) (g' := g) rfl ?_
          refine wp_cv (as := [(2, 52), (0, ((w.toNat : Nat) : Int)), (0, p), (0, s), (0, d), (0, u)]) (rest := []) rfl rfl rfl (Nat.le_of_ble_eq_true rfl) rfl (e_roll (P := P) (w := (w.toNat)) hI (by omega) (by omega) (by omega) (by omega) (by omega)) (by decide) (fun r14 h15 => ?_)
          obtain ⟨g64, rfl, hC64, hF64⟩ := h15
          refine wp_eq (L' := [(2, 0), (0, w), (0, p), (0, s), (0, d), (0, u), (0, x), (0, 1)]) (st' := []) (g' := g64) ?_
          refine wp_n 8 (pc' := 84) (L' := [(2, 0), (0, w), (0, p), (0, s), (0, d), (0, u), (0, x), (0, 1)]) (st' := [(0, (x - 100)), (2, 53)]) (g' := g64) rfl ?_
          refine wp_iald (k := 53) ((x - 100).toNat) rfl rfl (by omega) (by omega) (by decide) ?_
          exact wp_ret rfl rfl rfl ⟨_, _, rfl, Or.inl ⟨by unfold DrD; omega, by unfold drV; first | (rw [if_pos (by omega)]; exact hC64.1) | (rw [if_neg (by omega), if_pos (by omega)]; exact hC64.2.1) | (rw [if_neg (by omega), if_neg (by omega), if_pos (by omega)]; exact hC64.2.2.1) | (rw [if_neg (by omega), if_neg (by omega), if_neg (by omega)]; exact hC64.2.2.2 _ (by omega))⟩, hF64.q⟩
      · refine wp_eq (L' := [(2, 0), (0, w), (0, p), (0, s), (0, d), (0, u), (0, x), (0, 1)]) (st' := [(0, 0)]) (g' := g) ?_
        refine wp_n 2 (pc' := 52) (L' := [(2, 0), (0, w), (0, p), (0, s), (0, d), (0, u), (0, x), (0, 1)]) (st' := [(0, (-1))]) (g' := g) rfl ?_
        exact wp_ret rfl rfl rfl ⟨_, _, rfl, Or.inr ⟨by unfold DrD; omega, rfl⟩, FrQ.rfl⟩
    · refine wp_eq (L' := [(2, 0), (0, w), (0, p), (0, s), (0, d), (0, u), (0, x), (0, 1)]) (st' := [(0, 0)]) (g' := g) ?_
      refine wp_n 2 (pc' := 52) (L' := [(2, 0), (0, w), (0, p), (0, s), (0, d), (0, u), (0, x), (0, 1)]) (st' := [(0, (-1))]) (g' := g) rfl ?_
      exact wp_ret rfl rfl rfl ⟨_, _, rfl, Or.inr ⟨by unfold DrD; omega, rfl⟩, FrQ.rfl⟩
  · refine wp_eq (L' := [(2, 0), (0, w), (0, p), (0, s), (0, d), (0, u), (0, x), (9, 0)]) (st' := [(0, 0)]) (g' := g) ?_
    refine wp_n 2 (pc' := 17) (L' := [(2, 0), (0, w), (0, p), (0, s), (0, d), (0, u), (0, x), (0, 0)]) (st' := [(0, w)]) (g' := g) rfl ?_
    refine wp_cs (as := [(0, w)]) (rest := []) rfl (by decide) rfl (Nat.le_of_ble_eq_true rfl) (e_isWheel (by omega)) (by decide) (fun r17 h18 => ?_)
    rcases h18 with ⟨rfl, p16⟩ | ⟨rfl, p16⟩
    · refine wp_eq (L' := [(2, 0), (0, w), (0, p), (0, s), (0, d), (0, u), (0, x), (0, 0)]) (st' := [(0, 1)]) (g' := g) ?_
      refine wp_n 6 (pc' := 30) (L' := [(2, 0), (0, w), (0, p), (0, s), (0, d), (0, u), (0, x), (0, 0)]) (st' := [(0, u), (0, d), (0, s), (0, p), (2, 0)]) (g' := g) rfl ?_
      refine wp_cv (as := [(2, 0), (0, p), (0, s), (0, d), (0, u)]) (rest := []) rfl rfl rfl (Nat.le_of_ble_eq_true rfl) rfl (e_isRelease (by omega) (by omega) (by omega) (by omega) (by assumption) (by omega)) (by decide) (fun r19 h20 => ?_)
      rcases h20 with ⟨rfl, p30⟩ | ⟨rfl, p30⟩
      · refine wp_eq (L' := [(2, 0), (0, w), (0, p), (0, s), (0, d), (0, u), (0, x), (0, 0)]) (st' := [(0, 1)]) (g' := g) ?_
        refine wp_n 4 (pc' := 40) (L' := [(2, 0), (0, w), (0, p), (0, s), (0, d), (0, u), (0, x), (0, 0)]) (st' := [(0, 2), (0, 0), (0, x)]) (g' := g) rfl ?_
        refine wp_cs (as := [(0, x), (0, 0), (0, 2)]) (rest := []) rfl (by decide) rfl (Nat.le_of_ble_eq_true rfl) (e_within (by omega) (by omega) (by omega)) (by decide) (fun r22 h23 => ?_)
        rcases h23 with ⟨rfl, p21⟩ | ⟨rfl, p21⟩
        · refine wp_eq (L' := [(2, 0), (0, w), (0, p), (0, s), (0, d), (0, u), (0, x), (0, 0)]) (st' := [(0, 1)]) (g' := g) ?_
          refine wp_n 4 (pc' := 58) (L' := [(2, 0), (0, w), (0, p), (0, s), (0, d), (0, u), (0, x), (0, 0)]) (st' := [(0, w), (2, 52)]) (g' := g) rfl ?_
          refine wp_eq (L' := [(2, 0), (0, w), (0, p), (0, s), (0, d), (0, u), (0, x), (0, 0)]) (st' := [(0, ((w.toNat : Nat) : Int)), (2, 52)]) (g' := g) ?_ (by rfl) (by rw [Int.toNat_of_nonneg (by omega)]) (by rfl)
          refine wp_n 4 (pc' := 64) (L' := [(2, 0), (0, w), (0, p), (0, s), (0, d), (0, u), (0, x), (0, 0)]) (st' := [(0, u), (0, d), (0, s), (0, p), (0, ((w.toNat : Nat) : Int)), (2, 52)]) (g' := g) rfl ?_
          refine wp_cv (as := [(2, 52), (0, ((w.toNat : Nat) : Int)), (0, p), (0, s), (0, d), (0, u)]) (rest := []) rfl rfl rfl (Nat.le_of_ble_eq_true rfl) rfl (e_roll (P := P) (w := (w.toNat)) hI (by omega) (by omega) (by omega) (by omega) (by omega)) (by decide) (fun r24 h25 => ?_)
          obtain ⟨g64, rfl, hC64, hF64⟩ := h25
          refine wp_eq (L' := [(2, 0), (0, w), (0, p), (0, s), (0, d), (0, u), (0, x), (0, 0)]) (st' := []) (g' := g64) ?_
          refine wp_n 3 (pc' := 88) (L' := [(2, 0), (0, w), (0, p), (0, s), (0, d), (0, u), (0, x), (0, 0)]) (st' := [(0, x)]) (g' := g64) rfl ?_
          refine wp_if_ne rfl (fun c26 => ?_) (fun c26 => ?_)
          · refine wp_n 2 (pc' := 102) (L' := [(2, 0), (0, w), (0, p), (0, s), (0, d), (0, u), (0, x), (0, 0)]) (st' := [(0, 1), (0, x)]) (g' := g64) rfl ?_
            refine wp_ic_ne rfl (fun c27 => ?_) (fun c27 => ?_)
            · refine wp_n 3 (pc' := 122) (L' := [(2, 0), (0, w), (0, p), (0, s), (0, d), (0, u), (0, x), (0, 0)]) (st' := [(0, (g64 52 7))]) (g' := g64) rfl ?_
              exact wp_ret rfl rfl rfl ⟨_, _, rfl, Or.inl ⟨by unfold DrD; omega, by unfold drV; first | (rw [if_pos (by omega)]; exact hC64.1) | (rw [if_neg (by omega), if_pos (by omega)]; exact hC64.2.1) | (rw [if_neg (by omega), if_neg (by omega), if_pos (by omega)]; exact hC64.2.2.1) | (rw [if_neg (by omega), if_neg (by omega), if_neg (by omega)]; exact hC64.2.2.2 _ (by omega))⟩, hF64.q⟩
            · refine wp_n 4 (pc' := 122) (L' := [(2, 0), (0, w), (0, p), (0, s), (0, d), (0, u), (0, x), (0, 0)]) (st' := [(0, (g64 52 6))]) (g' := g64) rfl ?_
              exact wp_ret rfl rfl rfl ⟨_, _, rfl, Or.inl ⟨by unfold DrD; omega, by unfold drV; first | (rw [if_pos (by omega)]; exact hC64.1) | (rw [if_neg (by omega), if_pos (by omega)]; exact hC64.2.1) | (rw [if_neg (by omega), if_neg (by omega), if_pos (by omega)]; exact hC64.2.2.1) | (rw [if_neg (by omega), if_neg (by omega), if_neg (by omega)]; exact hC64.2.2.2 _ (by omega))⟩, hF64.q⟩
          · refine wp_n 3 (pc' := 98) (L' := [(2, 0), (0, w), (0, p), (0, s), (0, d), (0, u), (0, x), (0, 0)]) (st' := [(0, (g64 52 5))]) (g' := g64) rfl ?_
            exact wp_ret rfl rfl rfl ⟨_, _, rfl, Or.inl ⟨by unfold DrD; omega, by unfold drV; first | (rw [if_pos (by omega)]; exact hC64.1) | (rw [if_neg (by omega), if_pos (by omega)]; exact hC64.2.1) | (rw [if_neg (by omega), if_neg (by omega), if_pos (by omega)]; exact hC64.2.2.1) | (rw [if_neg (by omega), if_neg (by omega), if_neg (by omega)]; exact hC64.2.2.2 _ (by omega))⟩, hF64.q⟩
        · refine wp_eq (L' := [(2, 0), (0, w), (0, p), (0, s), (0, d), (0, u), (0, x), (0, 0)]) (st' := [(0, 0)]) (g' := g) ?_
          refine wp_n 4 (pc' := 52) (L' := [(2, 0), (0, w), (0, p), (0, s), (0, d), (0, u), (0, x), (0, 0)]) (st' := [(0, (-1))]) (g' := g) rfl ?_
          exact wp_ret rfl rfl rfl ⟨_, _, rfl, Or.inr ⟨by unfold DrD; omega, rfl⟩, FrQ.rfl⟩
      · refine wp_eq (L' := [(2, 0), (0, w), (0, p), (0, s), (0, d), (0, u), (0, x), (0, 0)]) (st' := [(0, 0)]) (g' := g) ?_
        refine wp_n 2 (pc' := 52) (L' := [(2, 0), (0, w), (0, p), (0, s), (0, d), (0, u), (0, x), (0, 0)]) (st' := [(0, (-1))]) (g' := g) rfl ?_
        exact wp_ret rfl rfl rfl ⟨_, _, rfl, Or.inr ⟨by unfold DrD; omega, rfl⟩, FrQ.rfl⟩
    · refine wp_eq (L' := [(2, 0), (0, w), (0, p), (0, s), (0, d), (0, u), (0, x), (0, 0)]) (st' := [(0, 0)]) (g' := g) ?_
      refine wp_n 2 (pc' := 52) (L' := [(2, 0), (0, w), (0, p), (0, s), (0, d), (0, u), (0, x), (0, 0)]) (st' := [(0, (-1))]) (g' := g) rfl ?_
      exact wp_ret rfl rfl rfl ⟨_, _, rfl, Or.inr ⟨by unfold DrD; omega, rfl⟩, FrQ.rfl⟩
set_option maxHeartbeats 400000 in
set_option maxRecDepth 20000 in
theorem m_drop {sn : Nat} {sx : Nat → Int} {b : Nat} {g : am_G} {c : am_G} {P : Nat} {w p s d u x : Int} (h_w : R32 w) (h_p : R32 p) (h_s : R32 s) (h_d : R32 d) (h_u : R32 u) (h_x : R32 x) (hI : CInv P c) (hM : MRel c g) : Ev sn sx 5 198 [(2, 127), (0, w), (0, p), (0, s), (0, d), (0, u), (0, x)] (SH b) g (fun y => ∃ g' v, y = (some (0, v), SH b, g') ∧ DrA c P w p s d u x v ∧ FrN g g') := by
  have h5 := hI.ck.1
  have hP : g 127 0 = (P : Int) := hM.n.trans hI.ck.2.1
  refine ev_of (K := 4) T198 (by decide) rfl rfl (Nat.le_of_ble_eq_true rfl) ?_
  refine wp_eq (L' := [(2, 127), (0, w), (0, p), (0, s), (0, d), (0, u), (0, x)]) (st' := []) (g' := g) ?_
  refine wp_n 6 (pc' := 8) (L' := [(2, 127), (0, w), (0, p), (0, s), (0, d), (0, u), (0, x)]) (st' := [(0, u), (0, d), (0, s), (0, p), (0, w), (2, 127)]) (g' := g) rfl ?_
  refine wp_cv (as := [(2, 127), (0, w), (0, p), (0, s), (0, d), (0, u)]) (rest := []) rfl rfl rfl (Nat.le_of_ble_eq_true rfl) rfl (m_isDrop (by omega) (by omega) (by omega) (by omega) (by omega) hP h5) (by decide) (fun r1 h2 => ?_)
  rcases h2 with ⟨rfl, p8⟩ | ⟨rfl, p8⟩
  · refine wp_eq (L' := [(2, 127), (0, w), (0, p), (0, s), (0, d), (0, u), (0, x)]) (st' := [(0, 1)]) (g' := g) ?_
    refine wp_n 4 (pc' := 18) (L' := [(2, 127), (0, w), (0, p), (0, s), (0, d), (0, u), (0, x)]) (st' := [(0, 2), (0, 0), (0, x)]) (g' := g) rfl ?_
    refine wp_cs (as := [(0, x), (0, 0), (0, 2)]) (rest := []) rfl (by decide) rfl (Nat.le_of_ble_eq_true rfl) (e_isIn (by omega) (by omega) (by omega)) (by decide) (fun r4 h5 => ?_)
    rcases h5 with ⟨rfl, p3⟩ | ⟨rfl, p3⟩
    · refine wp_eq (L' := [(2, 127), (0, w), (0, p), (0, s), (0, d), (0, u), (0, x)]) (st' := [(0, 1)]) (g' := g) ?_
      refine wp_n 3 (pc' := 40) (L' := [(2, 127), (0, w), (0, p), (0, s), (0, d), (0, u), (0, x)]) (st' := [(0, w), (2, 127)]) (g' := g) rfl ?_
      refine wp_eq (L' := [(2, 127), (0, w), (0, p), (0, s), (0, d), (0, u), (0, x)]) (st' := [(0, ((w.toNat : Nat) : Int)), (2, 127)]) (g' := g) ?_ (by rfl) (by rw [Int.toNat_of_nonneg (by omega)]) (by rfl)
      refine wp_n 4 (pc' := 46) (L' := [(2, 127), (0, w), (0, p), (0, s), (0, d), (0, u), (0, x)]) (st' := [(0, u), (0, d), (0, s), (0, p), (0, ((w.toNat : Nat) : Int)), (2, 127)]) (g' := g) rfl ?_
      refine wp_cv (as := [(2, 127), (0, ((w.toNat : Nat) : Int)), (0, p), (0, s), (0, d), (0, u)]) (rest := []) rfl rfl rfl (Nat.le_of_ble_eq_true rfl) rfl (m_roll (c := c) (w := (w.toNat)) hI hM (by omega) (by omega) (by omega) (by omega) (by omega)) (by decide) (fun r6 h7 => ?_)
      obtain ⟨g46, rfl, hC46, hF46, hO46⟩ := h7
      refine wp_eq (L' := [(2, 127), (0, w), (0, p), (0, s), (0, d), (0, u), (0, x)]) (st' := []) (g' := g46) ?_
      refine wp_n 2 (pc' := 52) (L' := [(2, 127), (0, w), (0, p), (0, s), (0, d), (0, u), (0, x)]) (st' := [(0, 3), (0, x)]) (g' := g46) rfl ?_
      refine wp_ic_ge rfl (fun c8 => ?_) (fun c8 => ?_)
      · refine wp_n 1 (pc' := 86) (L' := [(2, 127), (0, w), (0, p), (0, s), (0, d), (0, u), (0, x)]) (st' := [(2, 127)]) (g' := g46) rfl ?_
        refine wp_cv (as := [(2, 127)]) (rest := []) rfl rfl rfl (Nat.le_of_ble_eq_true rfl) rfl (m_clearOdds) (by decide) (fun r9 h10 => ?_)
        obtain ⟨g86, rfl, hZ86, hF86⟩ := h10
        have hM86 := (hM.g_same hF46).g_same (hF86.n (by decide))
        refine wp_eq (L' := [(2, 127), (0, w), (0, p), (0, s), (0, d), (0, u), (0, x)]) (st' := []) (g' := g86) ?_
        refine wp_n 2 (pc' := 91) (L' := [(2, 127), (0, w), (0, p), (0, s), (0, d), (0, u), (0, x)]) (st' := [(0, w), (2, 127)]) (g' := g86) rfl ?_
        refine wp_eq (L' := [(2, 127), (0, w), (0, p), (0, s), (0, d), (0, u), (0, x)]) (st' := [(0, ((w.toNat : Nat) : Int)), (2, 127)]) (g' := g86) ?_ (by rfl) (by rw [Int.toNat_of_nonneg (by omega)]) (by rfl)
        refine wp_n 1 (pc' := 92) (L' := [(2, 127), (0, w), (0, p), (0, s), (0, d), (0, u), (0, x)]) (st' := [(0, 1), (0, ((w.toNat : Nat) : Int)), (2, 127)]) (g' := g86) rfl ?_
        refine wp_cv (as := [(2, 127), (0, ((w.toNat : Nat) : Int)), (0, 1)]) (rest := []) rfl rfl rfl (Nat.le_of_ble_eq_true rfl) rfl (m_addOdds (c := c) (w := (w.toNat)) (st := (rStud c P w.toNat p s)) (pk := (rPkt c P w.toNat p s d u)) hI hM86 (by omega) (by rw [hF86 _ _ (by decide)]; exact hC46.2.1) (by rw [hF86 _ _ (by decide)]; exact hC46.2.2) (rStud_in _ _ _ _ _) (rPkt_in h5)) (by decide) (fun r11 h12 => ?_)
        obtain ⟨g92, rfl, hA92, hF92⟩ := h12
        refine wp_eq (L' := [(2, 127), (0, w), (0, p), (0, s), (0, d), (0, u), (0, x)]) (st' := []) (g' := g92) ?_
        refine wp_n 5 (pc' := 104) (L' := [(2, 127), (0, w), (0, p), (0, s), (0, d), (0, u), (0, x)]) (st' := [(0, (x - 100)), (2, 135)]) (g' := g92) rfl ?_
        refine wp_iald (k := 135) ((x - 100).toNat) rfl rfl (by omega) (by omega) (by decide) ?_
        exact wp_ret rfl rfl rfl ⟨_, _, rfl, Or.inl ⟨by unfold DrD; omega, by unfold drV; first | (rw [if_pos (by omega)]; exact hC46.1) | (rw [if_neg (by omega), if_pos (by omega)]; exact hC46.2.1) | (rw [if_neg (by omega), if_neg (by omega), if_pos (by omega)]; exact hC46.2.2) | (rw [if_neg (by omega), if_neg (by omega), if_neg (by omega), hA92 _ (by omega), hZ86 _ (by omega), Int.zero_add, Int.one_mul]; rfl)⟩, (hF46.trans (hF86.n (by decide))).trans (hF92.n (by decide))⟩
      · refine wp_n 1 (pc' := 57) (L' := [(2, 127), (0, w), (0, p), (0, s), (0, d), (0, u), (0, x)]) (st' := [(0, x)]) (g' := g46) rfl ?_
        refine wp_if_ne rfl (fun c13 => ?_) (fun c13 => ?_)
        · refine wp_n 2 (pc' := 70) (L' := [(2, 127), (0, w), (0, p), (0, s), (0, d), (0, u), (0, x)]) (st' := [(0, 1), (0, x)]) (g' := g46) rfl ?_
          refine wp_ic_ne rfl (fun c14 => ?_) (fun c14 => ?_)
          · refine wp_n 2 (pc' := 84) (L' := [(2, 127), (0, w), (0, p), (0, s), (0, d), (0, u), (0, x)]) (st' := [(0, (g46 127 26))]) (g' := g46) rfl ?_
            exact wp_ret rfl rfl rfl ⟨_, _, rfl, Or.inl ⟨by unfold DrD; omega, by unfold drV; first | (rw [if_pos (by omega)]; exact hC46.1) | (rw [if_neg (by omega), if_pos (by omega)]; exact hC46.2.1) | (rw [if_neg (by omega), if_neg (by omega), if_pos (by omega)]; exact hC46.2.2) | (rw [if_neg (by omega), if_neg (by omega), if_neg (by omega), hA92 _ (by omega), hZ86 _ (by omega), Int.zero_add, Int.one_mul]; rfl)⟩, hF46⟩
          · refine wp_n 3 (pc' := 84) (L' := [(2, 127), (0, w), (0, p), (0, s), (0, d), (0, u), (0, x)]) (st' := [(0, (g46 127 25))]) (g' := g46) rfl ?_
            exact wp_ret rfl rfl rfl ⟨_, _, rfl, Or.inl ⟨by unfold DrD; omega, by unfold drV; first | (rw [if_pos (by omega)]; exact hC46.1) | (rw [if_neg (by omega), if_pos (by omega)]; exact hC46.2.1) | (rw [if_neg (by omega), if_neg (by omega), if_pos (by omega)]; exact hC46.2.2) | (rw [if_neg (by omega), if_neg (by omega), if_neg (by omega), hA92 _ (by omega), hZ86 _ (by omega), Int.zero_add, Int.one_mul]; rfl)⟩, hF46⟩
        · refine wp_n 3 (pc' := 84) (L' := [(2, 127), (0, w), (0, p), (0, s), (0, d), (0, u), (0, x)]) (st' := [(0, (g46 127 24))]) (g' := g46) rfl ?_
          exact wp_ret rfl rfl rfl ⟨_, _, rfl, Or.inl ⟨by unfold DrD; omega, by unfold drV; first | (rw [if_pos (by omega)]; exact hC46.1) | (rw [if_neg (by omega), if_pos (by omega)]; exact hC46.2.1) | (rw [if_neg (by omega), if_neg (by omega), if_pos (by omega)]; exact hC46.2.2) | (rw [if_neg (by omega), if_neg (by omega), if_neg (by omega), hA92 _ (by omega), hZ86 _ (by omega), Int.zero_add, Int.one_mul]; rfl)⟩, hF46⟩
    · refine wp_eq (L' := [(2, 127), (0, w), (0, p), (0, s), (0, d), (0, u), (0, x)]) (st' := [(0, 0)]) (g' := g) ?_
      refine wp_n 5 (pc' := 30) (L' := [(2, 127), (0, w), (0, p), (0, s), (0, d), (0, u), (0, x)]) (st' := [(0, (x - 100)), (2, 127)]) (g' := g) rfl ?_
      refine wp_cv (as := [(2, 127), (0, (x - 100))]) (rest := []) rfl rfl rfl (Nat.le_of_ble_eq_true rfl) rfl (m_isPocketW (by omega) hP h5) (by decide) (fun r15 h16 => ?_)
      rcases h16 with ⟨rfl, p30⟩ | ⟨rfl, p30⟩
      · refine wp_eq (L' := [(2, 127), (0, w), (0, p), (0, s), (0, d), (0, u), (0, x)]) (st' := [(0, 1)]) (g' := g) ?_
        refine wp_n 3 (pc' := 40) (L' := [(2, 127), (0, w), (0, p), (0, s), (0, d), (0, u), (0, x)]) (st' := [(0, w), (2, 127)]) (g' := g) rfl ?_
        refine wp_eq (L' := [(2, 127), (0, w), (0, p), (0, s), (0, d), (0, u), (0, x)]) (st' := [(0, ((w.toNat : Nat) : Int)), (2, 127)]) (g' := g) ?_ (by rfl) (by rw [Int.toNat_of_nonneg (by omega)]) (by rfl)
        refine wp_n 4 (pc' := 46) (L' := [(2, 127), (0, w), (0, p), (0, s), (0, d), (0, u), (0, x)]) (st' := [(0, u), (0, d), (0, s), (0, p), (0, ((w.toNat : Nat) : Int)), (2, 127)]) (g' := g) rfl ?_
        refine wp_cv (as := [(2, 127), (0, ((w.toNat : Nat) : Int)), (0, p), (0, s), (0, d), (0, u)]) (rest := []) rfl rfl rfl (Nat.le_of_ble_eq_true rfl) rfl (m_roll (c := c) (w := (w.toNat)) hI hM (by omega) (by omega) (by omega) (by omega) (by omega)) (by decide) (fun r17 h18 => ?_)
        obtain ⟨g46, rfl, hC46, hF46, hO46⟩ := h18
        refine wp_eq (L' := [(2, 127), (0, w), (0, p), (0, s), (0, d), (0, u), (0, x)]) (st' := []) (g' := g46) ?_
        refine wp_n 2 (pc' := 52) (L' := [(2, 127), (0, w), (0, p), (0, s), (0, d), (0, u), (0, x)]) (st' := [(0, 3), (0, x)]) (g' := g46) rfl ?_
        refine wp_ic_ge rfl (fun c19 => ?_) (fun c19 => ?_)
        · refine wp_n 1 (pc' := 86) (L' := [(2, 127), (0, w), (0, p), (0, s), (0, d), (0, u), (0, x)]) (st' := [(2, 127)]) (g' := g46) rfl ?_
          refine wp_cv (as := [(2, 127)]) (rest := []) rfl rfl rfl (Nat.le_of_ble_eq_true rfl) rfl (m_clearOdds) (by decide) (fun r20 h21 => ?_)
          obtain ⟨g86, rfl, hZ86, hF86⟩ := h21
          have hM86 := (hM.g_same hF46).g_same (hF86.n (by decide))
          refine wp_eq (L' := [(2, 127), (0, w), (0, p), (0, s), (0, d), (0, u), (0, x)]) (st' := []) (g' := g86) ?_
          refine wp_n 2 (pc' := 91) (L' := [(2, 127), (0, w), (0, p), (0, s), (0, d), (0, u), (0, x)]) (st' := [(0, w), (2, 127)]) (g' := g86) rfl ?_
          refine wp_eq (L' := [(2, 127), (0, w), (0, p), (0, s), (0, d), (0, u), (0, x)]) (st' := [(0, ((w.toNat : Nat) : Int)), (2, 127)]) (g' := g86) ?_ (by rfl) (by rw [Int.toNat_of_nonneg (by omega)]) (by rfl)
          refine wp_n 1 (pc' := 92) (L' := [(2, 127), (0, w), (0, p), (0, s), (0, d), (0, u), (0, x)]) (st' := [(0, 1), (0, ((w.toNat : Nat) : Int)), (2, 127)]) (g' := g86) rfl ?_
          refine wp_cv (as := [(2, 127), (0, ((w.toNat : Nat) : Int)), (0, 1)]) (rest := []) rfl rfl rfl (Nat.le_of_ble_eq_true rfl) rfl (m_addOdds (c := c) (w := (w.toNat)) (st := (rStud c P w.toNat p s)) (pk := (rPkt c P w.toNat p s d u)) hI hM86 (by omega) (by rw [hF86 _ _ (by decide)]; exact hC46.2.1) (by rw [hF86 _ _ (by decide)]; exact hC46.2.2) (rStud_in _ _ _ _ _) (rPkt_in h5)) (by decide) (fun r22 h23 => ?_)
          obtain ⟨g92, rfl, hA92, hF92⟩ := h23
          refine wp_eq (L' := [(2, 127), (0, w), (0, p), (0, s), (0, d), (0, u), (0, x)]) (st' := []) (g' := g92) ?_
          refine wp_n 5 (pc' := 104) (L' := [(2, 127), (0, w), (0, p), (0, s), (0, d), (0, u), (0, x)]) (st' := [(0, (x - 100)), (2, 135)]) (g' := g92) rfl ?_
          refine wp_iald (k := 135) ((x - 100).toNat) rfl rfl (by omega) (by omega) (by decide) ?_
          exact wp_ret rfl rfl rfl ⟨_, _, rfl, Or.inl ⟨by unfold DrD; omega, by unfold drV; first | (rw [if_pos (by omega)]; exact hC46.1) | (rw [if_neg (by omega), if_pos (by omega)]; exact hC46.2.1) | (rw [if_neg (by omega), if_neg (by omega), if_pos (by omega)]; exact hC46.2.2) | (rw [if_neg (by omega), if_neg (by omega), if_neg (by omega), hA92 _ (by omega), hZ86 _ (by omega), Int.zero_add, Int.one_mul]; rfl)⟩, (hF46.trans (hF86.n (by decide))).trans (hF92.n (by decide))⟩
        · refine wp_n 1 (pc' := 57) (L' := [(2, 127), (0, w), (0, p), (0, s), (0, d), (0, u), (0, x)]) (st' := [(0, x)]) (g' := g46) rfl ?_
          refine wp_if_ne rfl (fun c24 => ?_) (fun c24 => ?_)
          · refine wp_n 2 (pc' := 70) (L' := [(2, 127), (0, w), (0, p), (0, s), (0, d), (0, u), (0, x)]) (st' := [(0, 1), (0, x)]) (g' := g46) rfl ?_
            refine wp_ic_ne rfl (fun c25 => ?_) (fun c25 => ?_)
            · refine wp_n 2 (pc' := 84) (L' := [(2, 127), (0, w), (0, p), (0, s), (0, d), (0, u), (0, x)]) (st' := [(0, (g46 127 26))]) (g' := g46) rfl ?_
              exact wp_ret rfl rfl rfl ⟨_, _, rfl, Or.inl ⟨by unfold DrD; omega, by unfold drV; first | (rw [if_pos (by omega)]; exact hC46.1) | (rw [if_neg (by omega), if_pos (by omega)]; exact hC46.2.1) | (rw [if_neg (by omega), if_neg (by omega), if_pos (by omega)]; exact hC46.2.2) | (rw [if_neg (by omega), if_neg (by omega), if_neg (by omega), hA92 _ (by omega), hZ86 _ (by omega), Int.zero_add, Int.one_mul]; rfl)⟩, hF46⟩
            · refine wp_n 3 (pc' := 84) (L' := [(2, 127), (0, w), (0, p), (0, s), (0, d), (0, u), (0, x)]) (st' := [(0, (g46 127 25))]) (g' := g46) rfl ?_
              exact wp_ret rfl rfl rfl ⟨_, _, rfl, Or.inl ⟨by unfold DrD; omega, by unfold drV; first | (rw [if_pos (by omega)]; exact hC46.1) | (rw [if_neg (by omega), if_pos (by omega)]; exact hC46.2.1) | (rw [if_neg (by omega), if_neg (by omega), if_pos (by omega)]; exact hC46.2.2) | (rw [if_neg (by omega), if_neg (by omega), if_neg (by omega), hA92 _ (by omega), hZ86 _ (by omega), Int.zero_add, Int.one_mul]; rfl)⟩, hF46⟩
          · refine wp_n 3 (pc' := 84) (L' := [(2, 127), (0, w), (0, p), (0, s), (0, d), (0, u), (0, x)]) (st' := [(0, (g46 127 24))]) (g' := g46) rfl ?_
            exact wp_ret rfl rfl rfl ⟨_, _, rfl, Or.inl ⟨by unfold DrD; omega, by unfold drV; first | (rw [if_pos (by omega)]; exact hC46.1) | (rw [if_neg (by omega), if_pos (by omega)]; exact hC46.2.1) | (rw [if_neg (by omega), if_neg (by omega), if_pos (by omega)]; exact hC46.2.2) | (rw [if_neg (by omega), if_neg (by omega), if_neg (by omega), hA92 _ (by omega), hZ86 _ (by omega), Int.zero_add, Int.one_mul]; rfl)⟩, hF46⟩
      · refine wp_eq (L' := [(2, 127), (0, w), (0, p), (0, s), (0, d), (0, u), (0, x)]) (st' := [(0, 0)]) (g' := g) ?_
        refine wp_n 2 (pc' := 37) (L' := [(2, 127), (0, w), (0, p), (0, s), (0, d), (0, u), (0, x)]) (st' := [(0, (-1))]) (g' := g) rfl ?_
        exact wp_ret rfl rfl rfl ⟨_, _, rfl, Or.inr ⟨by unfold DrD; omega, rfl⟩, FrN.rfl⟩
  · refine wp_eq (L' := [(2, 127), (0, w), (0, p), (0, s), (0, d), (0, u), (0, x)]) (st' := [(0, 0)]) (g' := g) ?_
    refine wp_n 2 (pc' := 37) (L' := [(2, 127), (0, w), (0, p), (0, s), (0, d), (0, u), (0, x)]) (st' := [(0, (-1))]) (g' := g) rfl ?_
    exact wp_ret rfl rfl rfl ⟨_, _, rfl, Or.inr ⟨by unfold DrD; omega, rfl⟩, FrN.rfl⟩
theorem C_drop {sn : Nat} {sx : Nat → Int} {b : Nat} {g : am_G} {P : Nat} {w p s d u x : Int} (h_w : R32 w) (h_p : R32 p) (h_s : R32 s) (h_d : R32 d) (h_u : R32 u) (h_x : R32 x) (hI : CInv P g) : Ev sn sx 7 106 [(2, 0), (0, w), (0, p), (0, s), (0, d), (0, u), (0, x)] (SH b) g (CPost P g (fun c1 v1 => DrA g P w p s d u x v1 ∧ CoE g c1)) := (e_drop h_w h_p h_s h_d h_u h_x hI).mono fun r hh => cpost_q (A := DrA g P w p s d u x) hI hh
theorem M_drop {sn : Nat} {sx : Nat → Int} {b : Nat} {g c : am_G} {P : Nat} {w p s d u x : Int} (h_w : R32 w) (h_p : R32 p) (h_s : R32 s) (h_d : R32 d) (h_u : R32 u) (h_x : R32 x) (hI : CInv P c) (hM : MRel c g) : Ev sn sx 5 198 [(2, 127), (0, w), (0, p), (0, s), (0, d), (0, u), (0, x)] (SH b) g (MPost b g (fun c1 v1 => DrA c P w p s d u x v1 ∧ CoE c c1)) := (m_drop h_w h_p h_s h_d h_u h_x hI hM).mono fun r hh => mpost_n (A := DrA c P w p s d u x) hM (fun x y h h' => by
  rcases h with h | h <;> rcases h' with h' | h'
  · exact h.2.trans h'.2.symm
  · exact absurd h.1 h'.1
  · exact absurd h'.1 h.1
  · exact h.2.trans h'.2.symm) hh
theorem mulk {x m : Int} {k : Nat} (hx : 0 ≤ x ∧ x ≤ m) (hk : k ≤ 4) : 0 ≤ x * (k : Int) ∧ x * (k : Int) ≤ m * 4 := ⟨Int.mul_nonneg hx.1 (by omega), Int.mul_le_mul hx.2 (by omega) (by omega) (by omega)⟩
set_option maxHeartbeats 400000 in
set_option maxRecDepth 20000 in
theorem e_foresee {sn : Nat} {sx : Nat → Int} {b : Nat} {g : am_G} {P w : Nat} {p s d u : Int} (hI : CInv P g) (hw : w < 4) (hp : 0 ≤ p ∧ p < 8 * (P : Int)) (hs : 1 ≤ s ∧ s ≤ 999) (hd : 0 ≤ d ∧ d < 8 * (P : Int)) (hu : 0 ≤ u ∧ u ≤ 99) : Ev sn sx 7 141 [(2, 0), (0, ((w : Nat) : Int)), (0, p), (0, s), (0, d), (0, u)] (SH b) g (fun r => ∃ g', r = (none, SH b, g') ∧ (∀ j, j < P → g' 126 j = fore g P w p s d u j 5) ∧ FrQ g g') := by
  have hP := hI.ck.2.1
  have h5 := hI.ck.1
  refine ev_of (K := 6) T141 (by decide) rfl rfl (Nat.le_of_ble_eq_true rfl) ?_
  refine wp_eq (L' := [(2, 0), (0, ((w : Nat) : Int)), (0, p), (0, s), (0, d), (0, u), (9, 0), (9, 0), (9, 0), (9, 0)]) (st' := []) (g' := g) ?_
  refine wp_n 3 (pc' := 6) (L' := [(2, 0), (0, ((w : Nat) : Int)), (0, p), (0, s), (0, d), (0, u), (9, 0), (9, 0), (9, 0), (9, 0)]) (st' := [(0, (g 0 0)), (0, 8)]) (g' := g) rfl ?_
  refine wp_eq (L' := [(2, 0), (0, ((w : Nat) : Int)), (0, p), (0, s), (0, d), (0, u), (9, 0), (9, 0), (9, 0), (9, 0)]) (st' := [(0, ((P : Nat) : Int)), (0, 8)]) (g' := g) ?_ (by rfl) (by rw [hP]) (by rfl)
  refine wp_n 5 (pc' := 14) (L' := [(2, 0), (0, ((w : Nat) : Int)), (0, p), (0, s), (0, d), (0, u), (0, (8 * ((P : Nat) : Int))), (9, 0), (9, 0), (9, 0)]) (st' := [(0, 0), (2, 126)]) (g' := g) rfl ?_
  refine wp_cs (as := [(2, 126), (0, 0)]) (rest := []) rfl (by decide) rfl (Nat.le_of_ble_eq_true rfl) (e_fill (k := 126) rfl) (by decide) (fun r1 h2 => ?_)
  obtain ⟨g14, rfl, hZ14, hF14⟩ := h2
  refine wp_eq (L' := [(2, 0), (0, ((w : Nat) : Int)), (0, p), (0, s), (0, d), (0, u), (0, (8 * ((P : Nat) : Int))), (9, 0), (9, 0), (9, 0)]) (st' := []) (g' := g14) ?_
  refine wp_n 2 (pc' := 20) (L' := [(2, 0), (0, ((w : Nat) : Int)), (0, p), (0, s), (0, d), (0, u), (0, (8 * ((P : Nat) : Int))), (0, 0), (9, 0), (9, 0)]) (st' := []) (g' := g14) rfl ?_
  have L20 : ∀ (lf : Nat) (k : Nat) (h : am_G) (w8 w9 : am_V), 5 - k < lf → (k ≤ 5) → (∀ j, j < P → h 126 j = fore g P w p s d u j k) → (FrQ g h) → Wp sn sx 6 T141 20 [(2, 0), (0, ((w : Nat) : Int)), (0, p), (0, s), (0, d), (0, u), (0, (8 * ((P : Nat) : Int))), (0, ((k : Nat) : Int)), w8, w9] [] (SH b) h (fun r => ∃ g', r = (none, SH b, g') ∧ (∀ j, j < P → g' 126 j = fore g P w p s d u j 5) ∧ FrQ g g') := by
    intro lf
    induction lf with
    | zero => intro k h w8 w9 hlf; exact absurd hlf (Nat.not_lt_zero _)
    | succ lf ih20 =>
      intro k h w8 w9 hlf hk hH hF
      refine wp_n 2 (pc' := 23) (L' := [(2, 0), (0, ((w : Nat) : Int)), (0, p), (0, s), (0, d), (0, u), (0, (8 * ((P : Nat) : Int))), (0, ((k : Nat) : Int)), w8, w9]) (st' := [(0, 5), (0, ((k : Nat) : Int))]) (g' := h) rfl ?_
      refine wp_ic_ge rfl (fun c3 => ?_) (fun c3 => ?_)
      · have hk5 : k = 5 := by omega
        exact wp_ret rfl rfl rfl ⟨_, rfl, fun j hj => by rw [hH j hj, hk5], hF⟩
      · have hsk := mulk (x := s) (m := 999) (k := k) (by omega) (by omega)
        have huk := mulk (x := u) (m := 99) (k := k) (by omega) (by omega)
        have hlt := hI.rg.r23_26 k (by omega)
        have e1 := Int.emod_nonneg (p + s * (k : Int)) (show 8 * (P : Int) ≠ 0 by omega)
        have e2 := Int.emod_lt_of_pos (p + s * (k : Int)) (show (0 : Int) < 8 * (P : Int) by omega)
        have e3 := Int.emod_nonneg (d - u * (k : Int)) (show 8 * (P : Int) ≠ 0 by omega)
        have e4 := Int.emod_lt_of_pos (d - u * (k : Int)) (show (0 : Int) < 8 * (P : Int) by omega)
        have hIh := hI.keepQ hF
        refine wp_n 4 (pc' := 35) (L' := [(2, 0), (0, ((w : Nat) : Int)), (0, p), (0, s), (0, d), (0, u), (0, (8 * ((P : Nat) : Int))), (0, ((k : Nat) : Int)), w8, w9]) (st' := [(0, ((k : Nat) : Int)), (2, 23)]) (g' := h) rfl ?_
        refine wp_iald (k := 23) (k) rfl rfl (by omega) (by omega) (by decide) ?_
        refine wp_eq (L' := [(2, 0), (0, ((w : Nat) : Int)), (0, p), (0, s), (0, d), (0, u), (0, (8 * ((P : Nat) : Int))), (0, ((k : Nat) : Int)), w8, w9]) (st' := [(0, (g 23 k))]) (g' := h) ?_ (by rfl) (by rw [hF 23 k (by unfold Sq; omega)]) (by rfl)
        refine wp_n 2 (pc' := 40) (L' := [(2, 0), (0, ((w : Nat) : Int)), (0, p), (0, s), (0, d), (0, u), (0, (8 * ((P : Nat) : Int))), (0, ((k : Nat) : Int)), (0, (g 23 k)), w9]) (st' := [(0, (g 23 k))]) (g' := h) rfl ?_
        refine wp_if_le rfl (fun c4 => ?_) (fun c4 => ?_)
        · refine wp_n 2 (pc' := 20) (L' := [(2, 0), (0, ((w : Nat) : Int)), (0, p), (0, s), (0, d), (0, u), (0, (8 * ((P : Nat) : Int))), (0, (((k : Nat) : Int) + 1)), (0, (g 23 k)), w9]) (st' := []) (g' := h) rfl ?_
          refine wp_eq (ih20 (k + 1) (h) ((0, (g 23 k))) (w9) ?_ ?_ ?_ ?_) (by first | rfl | (simp; done) | (simp; omega)) (by rfl) (by rfl)
          · omega
          · omega
          · first
            | (intro j hj; rw [fore, hf j hj, if_pos (by omega)])
            | (intro j hj; rw [fore, hH j hj, show g 23 k = 0 by omega, Int.zero_mul, Int.add_zero])
          · first | exact hFf | exact hF
        · refine wp_n 9 (pc' := 56) (L' := [(2, 0), (0, ((w : Nat) : Int)), (0, p), (0, s), (0, d), (0, u), (0, (8 * ((P : Nat) : Int))), (0, ((k : Nat) : Int)), (0, (g 23 k)), w9]) (st' := [(0, (8 * ((P : Nat) : Int))), (0, (p + (s * ((k : Nat) : Int)))), (0, ((w : Nat) : Int)), (2, 52)]) (g' := h) rfl ?_
          refine wp_irem rfl (by omega) (by omega) (by omega) ?_
          refine wp_eq (L' := [(2, 0), (0, ((w : Nat) : Int)), (0, p), (0, s), (0, d), (0, u), (0, (8 * ((P : Nat) : Int))), (0, ((k : Nat) : Int)), (0, (g 23 k)), w9]) (st' := [(0, ((p + (s * ((k : Nat) : Int))) % (8 * ((P : Nat) : Int)))), (0, ((w : Nat) : Int)), (2, 52)]) (g' := h) ?_ (by rfl) (by rw [Int.tmod_eq_emod_of_nonneg (show 0 ≤ p + s * (k : Int) by omega)]) (by rfl)
          refine wp_n 7 (pc' := 68) (L' := [(2, 0), (0, ((w : Nat) : Int)), (0, p), (0, s), (0, d), (0, u), (0, (8 * ((P : Nat) : Int))), (0, ((k : Nat) : Int)), (0, (g 23 k)), w9]) (st' := [(0, (8 * ((P : Nat) : Int))), (0, (d - (u * ((k : Nat) : Int)))), (0, s), (0, ((p + (s * ((k : Nat) : Int))) % (8 * ((P : Nat) : Int)))), (0, ((w : Nat) : Int)), (2, 52)]) (g' := h) rfl ?_
          refine wp_cs (as := [(0, (d - (u * ((k : Nat) : Int)))), (0, (8 * ((P : Nat) : Int)))]) (rest := [(0, s), (0, ((p + (s * ((k : Nat) : Int))) % (8 * ((P : Nat) : Int)))), (0, ((w : Nat) : Int)), (2, 52)]) rfl (by decide) rfl (Nat.le_of_ble_eq_true rfl) (e_floorMod (by omega) (by omega)) (by decide) (fun r5 h6 => ?_)
          obtain rfl := h6
          refine wp_eq (L' := [(2, 0), (0, ((w : Nat) : Int)), (0, p), (0, s), (0, d), (0, u), (0, (8 * ((P : Nat) : Int))), (0, ((k : Nat) : Int)), (0, (g 23 k)), w9]) (st' := [(0, ((d - (u * ((k : Nat) : Int))) % (8 * ((P : Nat) : Int)))), (0, s), (0, ((p + (s * ((k : Nat) : Int))) % (8 * ((P : Nat) : Int)))), (0, ((w : Nat) : Int)), (2, 52)]) (g' := h) ?_
          refine wp_n 1 (pc' := 73) (L' := [(2, 0), (0, ((w : Nat) : Int)), (0, p), (0, s), (0, d), (0, u), (0, (8 * ((P : Nat) : Int))), (0, ((k : Nat) : Int)), (0, (g 23 k)), w9]) (st' := [(0, u), (0, ((d - (u * ((k : Nat) : Int))) % (8 * ((P : Nat) : Int)))), (0, s), (0, ((p + (s * ((k : Nat) : Int))) % (8 * ((P : Nat) : Int)))), (0, ((w : Nat) : Int)), (2, 52)]) (g' := h) rfl ?_
          refine wp_cv (as := [(2, 52), (0, ((w : Nat) : Int)), (0, ((p + (s * ((k : Nat) : Int))) % (8 * ((P : Nat) : Int)))), (0, s), (0, ((d - (u * ((k : Nat) : Int))) % (8 * ((P : Nat) : Int)))), (0, u)]) (rest := []) rfl rfl rfl (Nat.le_of_ble_eq_true rfl) rfl (e_roll (P := P) (w := w) hIh (by omega) (by omega) (by omega) (by omega) (by omega)) (by decide) (fun r7 h8 => ?_)
          obtain ⟨g73, rfl, hC73, hF73⟩ := h8
          have hF73q := hF73.q
          refine wp_eq (L' := [(2, 0), (0, ((w : Nat) : Int)), (0, p), (0, s), (0, d), (0, u), (0, (8 * ((P : Nat) : Int))), (0, ((k : Nat) : Int)), (0, (g 23 k)), w9]) (st' := []) (g' := g73) ?_
          refine wp_n 2 (pc' := 79) (L' := [(2, 0), (0, ((w : Nat) : Int)), (0, p), (0, s), (0, d), (0, u), (0, (8 * ((P : Nat) : Int))), (0, ((k : Nat) : Int)), (0, (g 23 k)), (0, 0)]) (st' := []) (g' := g73) rfl ?_
          have L79 : ∀ (lf : Nat) (i : Nat) (f : am_G), P - i < lf → (i ≤ P) → (∀ j, j < P → f 126 j = (fore g P w p s d u j k + (if j < i then g 23 k * odR g P w (p + s * (k : Int)) s (d - u * (k : Int)) u j else 0))) → (∀ j, j < 37 → f 53 j = odR g P w (p + s * (k : Int)) s (d - u * (k : Int)) u j) → (FrQ g f) → Wp sn sx 6 T141 79 [(2, 0), (0, ((w : Nat) : Int)), (0, p), (0, s), (0, d), (0, u), (0, (8 * ((P : Nat) : Int))), (0, ((k : Nat) : Int)), (0, (g 23 k)), (0, ((i : Nat) : Int))] [] (SH b) f (fun r => ∃ g', r = (none, SH b, g') ∧ (∀ j, j < P → g' 126 j = fore g P w p s d u j 5) ∧ FrQ g g') := by
            intro lf
            induction lf with
            | zero => intro i f hlf; exact absurd hlf (Nat.not_lt_zero _)
            | succ lf ih79 =>
              intro i f hlf hi hf hf53 hFf
              refine wp_n 3 (pc' := 85) (L' := [(2, 0), (0, ((w : Nat) : Int)), (0, p), (0, s), (0, d), (0, u), (0, (8 * ((P : Nat) : Int))), (0, ((k : Nat) : Int)), (0, (g 23 k)), (0, ((i : Nat) : Int))]) (st' := [(0, (f 0 0)), (0, ((i : Nat) : Int))]) (g' := f) rfl ?_
              refine wp_eq (L' := [(2, 0), (0, ((w : Nat) : Int)), (0, p), (0, s), (0, d), (0, u), (0, (8 * ((P : Nat) : Int))), (0, ((k : Nat) : Int)), (0, (g 23 k)), (0, ((i : Nat) : Int))]) (st' := [(0, ((P : Nat) : Int)), (0, ((i : Nat) : Int))]) (g' := f) ?_ (by rfl) (by rw [hFf 0 0 (by unfold Sq; omega), hP]) (by rfl)
              refine wp_ic_ge rfl (fun c9 => ?_) (fun c9 => ?_)
              · refine wp_n 2 (pc' := 20) (L' := [(2, 0), (0, ((w : Nat) : Int)), (0, p), (0, s), (0, d), (0, u), (0, (8 * ((P : Nat) : Int))), (0, (((k : Nat) : Int) + 1)), (0, (g 23 k)), (0, ((i : Nat) : Int))]) (st' := []) (g' := f) rfl ?_
                refine wp_eq (ih20 (k + 1) (f) ((0, (g 23 k))) ((0, ((i : Nat) : Int))) ?_ ?_ ?_ ?_) (by first | rfl | (simp; done) | (simp; omega)) (by rfl) (by rfl)
                · omega
                · omega
                · first
                  | (intro j hj; rw [fore, hf j hj, if_pos (by omega)])
                  | (intro j hj; rw [fore, hH j hj, show g 23 k = 0 by omega, Int.zero_mul, Int.add_zero])
                · first | exact hFf | exact hF
              · refine wp_n 4 (pc' := 95) (L' := [(2, 0), (0, ((w : Nat) : Int)), (0, p), (0, s), (0, d), (0, u), (0, (8 * ((P : Nat) : Int))), (0, ((k : Nat) : Int)), (0, (g 23 k)), (0, ((i : Nat) : Int))]) (st' := [(0, ((i : Nat) : Int)), (2, 126), (0, ((i : Nat) : Int)), (2, 126)]) (g' := f) rfl ?_
                refine wp_iald (k := 126) (i) rfl rfl (by omega) (by omega) (by decide) ?_
                refine wp_n 5 (pc' := 107) (L' := [(2, 0), (0, ((w : Nat) : Int)), (0, p), (0, s), (0, d), (0, u), (0, (8 * ((P : Nat) : Int))), (0, ((k : Nat) : Int)), (0, (g 23 k)), (0, ((i : Nat) : Int))]) (st' := [(0, ((i : Nat) : Int)), (2, 53), (0, (g 23 k)), (0, (f 126 i)), (0, ((i : Nat) : Int)), (2, 126)]) (g' := f) rfl ?_
                refine wp_iald (k := 53) (i) rfl rfl (by omega) (by omega) (by decide) ?_
                refine wp_eq (L' := [(2, 0), (0, ((w : Nat) : Int)), (0, p), (0, s), (0, d), (0, u), (0, (8 * ((P : Nat) : Int))), (0, ((k : Nat) : Int)), (0, (g 23 k)), (0, ((i : Nat) : Int))]) (st' := [(0, (odR g P w (p + s * (k : Int)) s (d - u * (k : Int)) u i)), (0, (g 23 k)), (0, (f 126 i)), (0, ((i : Nat) : Int)), (2, 126)]) (g' := f) ?_ (by rfl) (by rw [hf53 _ (by omega)]) (by rfl)
                refine wp_n 2 (pc' := 110) (L' := [(2, 0), (0, ((w : Nat) : Int)), (0, p), (0, s), (0, d), (0, u), (0, (8 * ((P : Nat) : Int))), (0, ((k : Nat) : Int)), (0, (g 23 k)), (0, ((i : Nat) : Int))]) (st' := [(0, ((f 126 i) + ((g 23 k) * (odR g P w (p + s * (k : Int)) s (d - u * (k : Int)) u i)))), (0, ((i : Nat) : Int)), (2, 126)]) (g' := f) rfl ?_
                refine wp_iast (k := 126) (i) rfl rfl (by omega) (by omega) (by decide) ?_
                refine wp_n 2 (pc' := 79) (L' := [(2, 0), (0, ((w : Nat) : Int)), (0, p), (0, s), (0, d), (0, u), (0, (8 * ((P : Nat) : Int))), (0, ((k : Nat) : Int)), (0, (g 23 k)), (0, (((i : Nat) : Int) + 1))]) (st' := []) (g' := (am_up f 126 i ((f 126 i) + ((g 23 k) * (odR g P w (p + s * (k : Int)) s (d - u * (k : Int)) u i))))) rfl ?_
                refine wp_eq (ih79 (i + 1) ((am_up f 126 i ((f 126 i) + ((g 23 k) * (odR g P w (p + s * (k : Int)) s (d - u * (k : Int)) u i))))) ?_ ?_ ?_ ?_ ?_) (by first | rfl | (simp; done) | (simp; omega)) (by rfl) (by rfl)
                · omega
                · omega
                · intro j hj
                  by_cases e : j = i
                  · subst e; rw [up_eq, hf _ hj, if_neg (by omega), if_pos (by omega), Int.add_zero]
                  · rw [up_nj e, hf j hj]
                    by_cases e2 : j < i
                    · rw [if_pos e2, if_pos (by omega)]
                    · rw [if_neg e2, if_neg (by omega)]
                · exact fun j hj => by rw [up_ne (by decide)]; exact hf53 j hj
                · exact hFf.up (by unfold Sq; omega)
          refine wp_eq (L79 (_ + 1) (0) (g73) (Nat.lt_succ_self _) ?_ ?_ ?_ ?_) (by first | rfl | (simp; done) | (simp; omega)) (by rfl) (by rfl)
          · exact Nat.zero_le _
          · intro j hj; rw [if_neg (by omega), Int.add_zero, hF73 126 j (by unfold Sd; omega)]; exact hH j hj
          · exact fun j hj => ((hC73.of (fun a j q1 q2 => hF a j (by unfold Sq; omega))).2.2.2 j hj).trans odR_em
          · exact hF.trans hF73q
  refine wp_eq (L20 (_ + 1) (0) (g14) ((9, 0)) ((9, 0)) (Nat.lt_succ_self _) ?_ ?_ ?_) (by first | rfl | (simp; done) | (simp; omega)) (by rfl) (by rfl)
  · exact Nat.zero_le _
  · exact fun j hj => hZ14 j (by omega)
  · exact hF14.q (by decide)
