/-! A DROP: pure rows, then both sides -/
theorem tmod_em {x y m : Int} (hy : 0 < y) (hm : m = Int.tmod x y) : (0 ≤ x → m = x % y ∧ 0 ≤ m ∧ m < y) ∧ (x < 0 → (m = 0 ∧ x % y = 0) ∨ (-y < m ∧ m < 0 ∧ x % y = m + y)) := by
  constructor
  · intro h
    rw [hm, Int.tmod_eq_emod_of_nonneg h]
    exact ⟨rfl, Int.emod_nonneg x (by omega), Int.emod_lt_of_pos x hy⟩
  · intro h
    have e1 : m = -((-x) % y) := by
      rw [hm, ← Int.tmod_eq_emod_of_nonneg (show 0 ≤ -x by omega), Int.neg_tmod, Int.neg_neg]
    have e2 := Int.emod_nonneg (-x) (show y ≠ 0 by omega)
    have e3 := Int.emod_lt_of_pos (-x) hy
    have e4 : x % y = m % y := by
      have e5 := Int.tmod_add_mul_tdiv x y
      rw [← hm] at e5
      rw [← e5, Int.add_mul_emod_self_left]
    by_cases h0 : m = 0
    · rw [h0] at e4
      exact Or.inl ⟨h0, by rw [e4]; exact Int.zero_emod y⟩
    · refine Or.inr ⟨by omega, by omega, ?_⟩
      rw [e4, ← Int.add_emod_right m y]
      exact Int.emod_eq_of_lt (by omega) (by omega)
theorem xor_neg {x y : Int} (hx : R32 x) (hy : 0 ≤ y ∧ y < 2147483648) : R32 (Int32.ofInt x ^^^ Int32.ofInt y).toInt ∧ ((Int32.ofInt x ^^^ Int32.ofInt y).toInt < 0 ↔ x < 0) := by
  have hr : R32 (Int32.ofInt x ^^^ Int32.ofInt y).toInt := ⟨Int32.le_toInt _, Int32.toInt_lt _⟩
  refine ⟨hr, ?_⟩
  have m (a : Int32) : a.toBitVec.msb = decide (a.toInt < 0) := BitVec.msb_eq_toInt
  have e1 := m (Int32.ofInt x ^^^ Int32.ofInt y)
  rw [Int32.toBitVec_xor, BitVec.msb_xor, m, m, w32_toInt, w32_toInt, w32_id hx.1 hx.2, w32_id (by omega) hy.2] at e1
  have e2 : decide (y < 0) = false := decide_eq_false (by omega)
  rw [e2, Bool.xor_false] at e1
  constructor
  · intro h
    rw [decide_eq_true h] at e1
    exact of_decide_eq_true e1
  · intro h
    rw [decide_eq_true h] at e1
    exact of_decide_eq_true e1.symm
/-- the names in loss and off -/
def NL (P : Nat) (tl v p t : Int) (i : Nat) : Int := if i = 0 then v else if i = 1 then p else if i = 2 then t else if i = 3 then tl else p / (P : Int)
theorem evl_nm {k : Nat} {f N N' : Nat → Int} {a n : Nat} (h : ClW k f a n) (hN : ∀ i, (k < 2 ∧ i ≤ 4) ∨ (2 ≤ k ∧ 5 ≤ i ∧ i ≤ 10) → N' i = N i) : ∀ i, i ≤ n → evl f N' a i = evl f N a i := by
  intro i
  induction i with
  | zero => intro _; rfl
  | succ i ih =>
    intro hi
    rw [evl_s, evl_s, ih (by omega)]
    have hc := (h.2.1 i (by omega)).1
    unfold stp
    split
    · rfl
    split
    · rw [hN _ (by unfold codeOk at hc; omega)]
    rfl
theorem tv_nm {g : am_G} {N N' : Nat → Int} {t : Int} {k : Nat} {w : Int} (hT : TxW 0 g) (ht : -1 ≤ t ∧ t < g 6 3) (hk : k < 4) (hN : ∀ i, (k < 2 ∧ i ≤ 4) ∨ (2 ≤ k ∧ 5 ≤ i ∧ i ≤ 10) → N' i = N i) : tv g N' t k w = tv g N t k w := by
  by_cases h : t = -1
  · subst h; rfl
  · obtain ⟨q, rfl⟩ : ∃ q : Nat, t = (q : Int) := ⟨t.toNat, by omega⟩
    rcases hT.at ht.2 hk with e | ⟨a, n, e1, e2, e3, e4, e5⟩
    · rw [tv_no e, tv_no e]
    · obtain ⟨v, hv⟩ := evl_top (N := N) e5
      rw [tv_ev e1 e2 hv, tv_ev e1 e2 ((evl_nm e5 hN n (Nat.le_refl _)).trans hv)]
theorem tv_in {g : am_G} {N : Nat → Int} {t : Int} {k : Nat} {w : Int} (hT : TxW 0 g) (ht : -1 ≤ t ∧ t < g 6 3) (hk : k < 4) (hN : NB k N) (hw : MB w) : MB (tv g N t k w) := by
  by_cases h : t = -1
  · subst h; exact hw
  · obtain ⟨q, rfl⟩ : ∃ q : Nat, t = (q : Int) := ⟨t.toNat, by omega⟩
    rcases hT.at ht.2 hk with e | ⟨a, n, e1, e2, e3, e4, e5⟩
    · rw [tv_no e]; exact hw
    · obtain ⟨v, hv⟩ := evl_top (N := N) e5
      rw [tv_ev e1 e2 hv]
      have := evl_lb e5 hN n (Nat.le_refl _)
      rw [hv] at this
      exact this v (List.mem_singleton.mpr rfl)
theorem tv_c {g g' : am_G} {N : Nat → Int} {t : Int} {k : Nat} {w : Int} (h7 : g' 7 = g 7) (h8 : g' 8 = g 8) (h9 : g' 9 = g 9) : tv g' N t k w = tv g N t k w := by
  unfold tv
  rw [h7, h8, h9]
def clL (x : Int) : Int := if x < 1 then 1 else if 999 < x then 999 else x
/-- tenths go on: the fuel is what is left of 600 -/
def rollF (c : am_G) (P : Nat) (tl : Int) : Nat → Int → Int → Int → Int × Int
  | 0, p, _, t => (p, t)
  | n + 1, p, v, t => if v < 1 ∨ v ≤ tv c (NL P tl v p t) (c 6 4) 1 8 then (p, t) else rollF c P tl n ((p + v) % (8 * (P : Int))) (v - clL (tv c (NL P tl v p t) (c 6 4) 0 1)) (t + 1)
theorem rollF_stop {c : am_G} {P : Nat} {tl p v t : Int} {n : Nat} (h : n = 0 ∨ v < 1 ∨ v ≤ tv c (NL P tl v p t) (c 6 4) 1 8) : rollF c P tl n p v t = (p, t) := by
  cases n with
  | zero => rfl
  | succ n =>
    rw [rollF, if_pos]
    rcases h with h | h
    · exact absurd h (by omega)
    · exact h
theorem rollF_go {c : am_G} {P : Nat} {tl p v t : Int} {n : Nat} (h1 : ¬ v < 1) (h : ¬ v ≤ tv c (NL P tl v p t) (c 6 4) 1 8) : rollF c P tl (n + 1) p v t = rollF c P tl n ((p + v) % (8 * (P : Int))) (v - clL (tv c (NL P tl v p t) (c 6 4) 0 1)) (t + 1) := by
  rw [rollF, if_neg]
  rintro (e | e)
  · exact h1 e
  · exact h e
def rOff (c : am_G) (P w : Nat) (p s : Int) : Int := (rollF c P (c 5 w) 600 (p % (8 * (P : Int))) s 0).2
def rStud (c : am_G) (P w : Nat) (p s : Int) : Int := ((rollF c P (c 5 w) 600 (p % (8 * (P : Int))) s 0).1 / (P : Int) + 1) % 8
def rPkt (c : am_G) (P w : Nat) (p s d u : Int) : Int := (rStud c P w p s * (P : Int) - (d - u * rOff c P w p s) % (8 * (P : Int))) % (8 * (P : Int)) / 8
/-- odds by skips below k -/
def odA (c : am_G) (P w : Nat) (st pk : Int) (k : Nat) : Int := c 4 (32 * w + 4 * st.toNat + k) * c 2 (37 * w + ((pk + (k : Int)) % (P : Int)).toNat) * 10
def odB (c : am_G) (P w : Nat) (st pk : Int) (k : Nat) : Int := c 4 (32 * w + 4 * st.toNat + k) * (10 - c 2 (37 * w + ((pk + (k : Int)) % (P : Int)).toNat)) * c 2 (37 * w + (((pk + (k : Int)) % (P : Int) + 1) % (P : Int)).toNat)
def odC (c : am_G) (P w : Nat) (st pk : Int) (k : Nat) : Int := c 4 (32 * w + 4 * st.toNat + k) * (10 - c 2 (37 * w + ((pk + (k : Int)) % (P : Int)).toNat)) * (10 - c 2 (37 * w + (((pk + (k : Int)) % (P : Int) + 1) % (P : Int)).toNat))
def od (c : am_G) (P w : Nat) (st pk : Int) (j : Nat) : Nat → Int
  | 0 => 0
  | k + 1 => od c P w st pk j k + (if j = ((pk + (k : Int)) % (P : Int)).toNat then odA c P w st pk k else 0) + (if j = (((pk + (k : Int)) % (P : Int) + 1) % (P : Int)).toNat then odB c P w st pk k else 0) + (if j = (((pk + (k : Int)) % (P : Int) + 2) % (P : Int)).toNat then odC c P w st pk k else 0)
theorem add3 {h : am_G} {a p q r j : Nat} {A B C : Int} : am_up (am_up (am_up h a p (h a p + A)) a q ((am_up h a p (h a p + A)) a q + B)) a r ((am_up (am_up h a p (h a p + A)) a q ((am_up h a p (h a p + A)) a q + B)) a r + C) a j = h a j + (if j = p then A else 0) + (if j = q then B else 0) + (if j = r then C else 0) := by
  have e (f : am_G) (i : Nat) (x : Int) (m : Nat) : am_up f a i (f a i + x) a m = f a m + (if m = i then x else 0) := by
    by_cases q : m = i
    · subst q; rw [up_eq, if_pos rfl]
    · rw [up_nj q, if_neg q, Int.add_zero]
  rw [e, e, e]
theorem p3_in {x y : Int} (hx : 0 ≤ x ∧ x ≤ 10) (hy : 0 ≤ y ∧ y ≤ 10) {z : Int} (hz : 0 ≤ z ∧ z ≤ 10) : 0 ≤ x * y * z ∧ x * y * z ≤ 1000 := by
  have h1 := Int.mul_nonneg hx.1 hy.1
  have h2 : x * y ≤ 10 * 10 := Int.mul_le_mul hx.2 hy.2 hy.1 (by decide)
  exact ⟨Int.mul_nonneg h1 hz.1, Int.le_trans (Int.mul_le_mul h2 hz.2 hz.1 (by decide)) (by decide)⟩
theorem od_in {c : am_G} {P w : Nat} {st pk : Int} {j : Nat} (hR : Rng P 0 c) (h5 : 5 ≤ P ∧ P ≤ 37) (hw : w < 4) (hs : 0 ≤ st ∧ st ≤ 7) : ∀ k, k ≤ 4 → 0 ≤ od c P w st pk j k ∧ od c P w st pk j k ≤ 3000 * (k : Int) := by
  intro k
  induction k with
  | zero => intro _; exact ⟨Int.le_refl _, Int.le_refl _⟩
  | succ k ih =>
    intro hk
    have h0 := ih (by omega)
    have hP : (0 : Int) < (P : Int) := by omega
    have e1 := Int.emod_nonneg (pk + (k : Int)) (show (P : Int) ≠ 0 by omega)
    have e2 := Int.emod_lt_of_pos (pk + (k : Int)) hP
    have e3 := Int.emod_nonneg ((pk + (k : Int)) % (P : Int) + 1) (show (P : Int) ≠ 0 by omega)
    have e4 := Int.emod_lt_of_pos ((pk + (k : Int)) % (P : Int) + 1) hP
    have r1 := hR.r4_2 (32 * w + 4 * st.toNat + k) (by omega)
    have r2 := hR.r2_0 (37 * w + ((pk + (k : Int)) % (P : Int)).toNat) (by omega)
    have r3 := hR.r2_0 (37 * w + (((pk + (k : Int)) % (P : Int) + 1) % (P : Int)).toNat) (by omega)
    have a : 0 ≤ odA c P w st pk k ∧ odA c P w st pk k ≤ 1000 := p3_in r1 (by omega) (by decide)
    have b : 0 ≤ odB c P w st pk k ∧ odB c P w st pk k ≤ 1000 := p3_in r1 (by omega) (by omega)
    have d : 0 ≤ odC c P w st pk k ∧ odC c P w st pk k ≤ 1000 := p3_in r1 (by omega) (by omega)
    rw [od]
    split <;> split <;> split <;> omega
set_option maxHeartbeats 400000 in
set_option maxRecDepth 20000 in
theorem e_floorMod {sn : Nat} {sx : Nat → Int} {g : am_G} {sh : am_Sh} {x y : Int} (hx : R32 x) (hy : 0 < y ∧ y < 2147483648) : Ev sn sx 1 253 [(0, x), (0, y)] sh g (fun r => r = (some (0, x % y), sh, g)) := by
  have hm := tmod_em (x := x) hy.1 rfl
  have hxr := xor_neg hx (y := y) (by omega)
  obtain ⟨X, hX⟩ : ∃ X, (Int32.ofInt x ^^^ Int32.ofInt y).toInt = X := ⟨_, rfl⟩
  obtain ⟨m, hmm⟩ : ∃ m, Int.tmod x y = m := ⟨_, rfl⟩
  rw [hX] at hxr
  rw [hmm] at hm
  refine ev_of (K := 0) T253 (by decide) rfl rfl (Nat.le_of_ble_eq_true rfl) ?_
  refine wp_eq (L' := [(0, x), (0, y), (9, 0)]) (st' := []) (g' := g) ?_
  refine wp_n 2 (pc' := 2) (L' := [(0, x), (0, y), (9, 0)]) (st' := [(0, y), (0, x)]) (g' := g) rfl ?_
  refine wp_irem rfl (by omega) (by omega) (by omega) ?_
  refine wp_eq (L' := [(0, x), (0, y), (9, 0)]) (st' := [(0, m)]) (g' := g) ?_ (by rfl) (by rw [hmm]) (by rfl)
  refine wp_n 4 (pc' := 7) (L' := [(0, x), (0, y), (0, m)]) (st' := [(0, (Int32.ofInt x ^^^ Int32.ofInt y).toInt)]) (g' := g) rfl ?_
  refine wp_eq (L' := [(0, x), (0, y), (0, m)]) (st' := [(0, X)]) (g' := g) ?_ (by rfl) (by rw [hX]) (by rfl)
  refine wp_if_ge rfl (fun c1 => ?_) (fun c1 => ?_)
  · refine wp_n 1 (pc' := 19) (L' := [(0, x), (0, y), (0, m)]) (st' := [(0, m)]) (g' := g) rfl ?_
    exact wp_ret rfl rfl rfl (by rw [(hm.1 (by omega)).1])
  · refine wp_n 1 (pc' := 11) (L' := [(0, x), (0, y), (0, m)]) (st' := [(0, m)]) (g' := g) rfl ?_
    refine wp_if_eq rfl (fun c2 => ?_) (fun c2 => ?_)
    · refine wp_n 1 (pc' := 19) (L' := [(0, x), (0, y), (0, m)]) (st' := [(0, m)]) (g' := g) rfl ?_
      exact wp_ret rfl rfl rfl (by rcases hm.2 (by omega) with e | e; rw [e.1, e.2]; exact absurd e.2.1 (by omega))
    · refine wp_n 3 (pc' := 17) (L' := [(0, x), (0, y), (0, m)]) (st' := [(0, (m + y))]) (g' := g) rfl ?_
      exact wp_ret rfl rfl rfl (by rcases hm.2 (by omega) with e | e; exact absurd e.1 (by omega); rw [e.2.2])
set_option maxHeartbeats 400000 in
set_option maxRecDepth 20000 in
theorem e_fill {sn : Nat} {sx : Nat → Int} {b : Nat} {g : am_G} {k : Nat} (hk : (SH b)[k]? = some (0, 37, [])) {v : Int} : Ev sn sx 1 259 [(2, ((k : Nat) : Int)), (0, v)] (SH b) g (fun r => ∃ g', r = (none, SH b, g') ∧ (∀ j, j < 37 → g' k j = v) ∧ FrA k g g') := by
  refine ev_of (K := 0) T259 (by decide) rfl rfl (Nat.le_of_ble_eq_true rfl) ?_
  refine wp_eq (L' := [(2, ((k : Nat) : Int)), (0, v), (9, 0), (9, 0)]) (st' := []) (g' := g) ?_
  refine wp_n 3 (pc' := 3) (L' := [(2, ((k : Nat) : Int)), (0, v), (0, 0), (9, 0)]) (st' := [(2, ((k : Nat) : Int))]) (g' := g) rfl ?_
  refine wp_alen (k := k) rfl hk (by decide) ?_
  refine wp_n 1 (pc' := 5) (L' := [(2, ((k : Nat) : Int)), (0, v), (0, 0), (0, 37)]) (st' := []) (g' := g) rfl ?_
  have L5 : ∀ (lf : Nat) (i : Nat) (h : am_G), 37 - i < lf → (i ≤ 37) → (∀ j, j < i → h k j = v) → (FrA k g h) → Wp sn sx 0 T259 5 [(2, ((k : Nat) : Int)), (0, v), (0, ((i : Nat) : Int)), (0, 37)] [] (SH b) h (fun r => ∃ g', r = (none, SH b, g') ∧ (∀ j, j < 37 → g' k j = v) ∧ FrA k g g') := by
    intro lf
    induction lf with
    | zero => intro i h hlf; exact absurd hlf (Nat.not_lt_zero _)
    | succ lf ih5 =>
      intro i h hlf hi hH hF
      refine wp_n 2 (pc' := 7) (L' := [(2, ((k : Nat) : Int)), (0, v), (0, ((i : Nat) : Int)), (0, 37)]) (st' := [(0, 37), (0, ((i : Nat) : Int))]) (g' := h) rfl ?_
      refine wp_ic_ge rfl (fun c1 => ?_) (fun c1 => ?_)
      · exact wp_ret rfl rfl rfl ⟨_, rfl, fun j hj => hH j (by omega), hF⟩
      · refine wp_n 3 (pc' := 13) (L' := [(2, ((k : Nat) : Int)), (0, v), (0, ((i : Nat) : Int)), (0, 37)]) (st' := [(0, v), (0, ((i : Nat) : Int)), (2, ((k : Nat) : Int))]) (g' := h) rfl ?_
        refine wp_iast (k := k) (i) rfl hk (by omega) (by omega) (by decide) ?_
        refine wp_n 2 (pc' := 5) (L' := [(2, ((k : Nat) : Int)), (0, v), (0, (((i : Nat) : Int) + 1)), (0, 37)]) (st' := []) (g' := (am_up h k i v)) rfl ?_
        refine wp_eq (ih5 (i + 1) ((am_up h k i v)) ?_ ?_ ?_ ?_) (by first | rfl | (simp; done) | (simp; omega)) (by rfl) (by rfl)
        · omega
        · omega
        · intro j hj
          by_cases e : j = i
          · subst e; exact up_eq
          · rw [up_nj e]; exact hH j (by omega)
        · exact fun c j hc => by rw [up_ne hc]; exact hF c j hc
  refine wp_eq (L5 (_ + 1) (0) (g) (Nat.lt_succ_self _) ?_ ?_ ?_) (by first | rfl | (simp; done) | (simp; omega)) (by rfl) (by rfl)
  · exact Nat.zero_le _
  · exact fun j hj => absurd hj (Nat.not_lt_zero _)
  · exact fun _ _ _ => rfl
set_option maxHeartbeats 400000 in
set_option maxRecDepth 20000 in
theorem e_see {sn : Nat} {sx : Nat → Int} {b : Nat} {g : am_G} {P : Nat} {v p t : Int} (h3 : g 52 3 = (P : Int)) (h5 : 5 ≤ P ∧ P ≤ 37) (hp : 0 ≤ p ∧ p < 1000) : Ev sn sx 1 2 [(2, 52), (0, v), (0, p), (0, t)] (SH b) g (fun r => ∃ g', r = (none, SH b, g') ∧ g' 50 0 = v ∧ g' 50 1 = p ∧ g' 50 2 = t ∧ g' 50 4 = p / (P : Int) ∧ (∀ c j, (c ≠ 50 ∨ j = 3) → g' c j = g c j)) := by
  refine ev_of (K := 0) T2 (by decide) rfl rfl (Nat.le_of_ble_eq_true rfl) ?_
  refine wp_eq (L' := [(2, 52), (0, v), (0, p), (0, t)]) (st' := []) (g' := g) ?_
  refine wp_n 5 (pc' := 9) (L' := [(2, 52), (0, v), (0, p), (0, t)]) (st' := [(0, v), (0, 0), (2, 50)]) (g' := g) rfl ?_
  refine wp_iast (k := 50) (0) rfl rfl (by omega) (by omega) (by decide) ?_
  refine wp_n 5 (pc' := 19) (L' := [(2, 52), (0, v), (0, p), (0, t)]) (st' := [(0, p), (0, 1), (2, 50)]) (g' := (am_up g 50 0 v)) rfl ?_
  refine wp_iast (k := 50) (1) rfl rfl (by omega) (by omega) (by decide) ?_
  refine wp_n 5 (pc' := 29) (L' := [(2, 52), (0, v), (0, p), (0, t)]) (st' := [(0, t), (0, 2), (2, 50)]) (g' := (am_up (am_up g 50 0 v) 50 1 p)) rfl ?_
  refine wp_iast (k := 50) (2) rfl rfl (by omega) (by omega) (by decide) ?_
  refine wp_n 7 (pc' := 43) (L' := [(2, 52), (0, v), (0, p), (0, t)]) (st' := [(0, (g 52 3)), (0, p), (0, 4), (2, 50)]) (g' := (am_up (am_up (am_up g 50 0 v) 50 1 p) 50 2 t)) rfl ?_
  refine wp_eq (L' := [(2, 52), (0, v), (0, p), (0, t)]) (st' := [(0, ((P : Nat) : Int)), (0, p), (0, 4), (2, 50)]) (g' := (am_up (am_up (am_up g 50 0 v) 50 1 p) 50 2 t)) ?_ (by rfl) (by rw [h3]) (by rfl)
  refine wp_idiv rfl (by omega) (by omega) (by omega) ?_
  refine wp_eq (L' := [(2, 52), (0, v), (0, p), (0, t)]) (st' := [(0, (p / ((P : Nat) : Int))), (0, 4), (2, 50)]) (g' := (am_up (am_up (am_up g 50 0 v) 50 1 p) 50 2 t)) ?_ (by rfl) (by rw [Int.tdiv_eq_ediv_of_nonneg hp.1]) (by rfl)
  refine wp_iast (k := 50) (4) rfl rfl (by omega) (by omega) (by decide) ?_
  exact wp_ret rfl rfl rfl ⟨_, rfl, by rw [up_nj (by decide), up_nj (by decide), up_nj (by decide), up_eq], by rw [up_nj (by decide), up_nj (by decide), up_eq], by rw [up_nj (by decide), up_eq], up_eq, fun c j hc => by rw [up_no (by omega), up_no (by omega), up_no (by omega), up_no (by omega)]⟩
set_option maxHeartbeats 400000 in
set_option maxRecDepth 20000 in
theorem e_skip {sn : Nat} {sx : Nat → Int} {b : Nat} {g : am_G} {P w : Nat} {st pk : Int} (h3 : g 52 3 = (P : Int)) (h5 : 5 ≤ P ∧ P ≤ 37) (hR : Rng P 0 g) (hw : w < 4) (h6 : g 52 6 = st) (h7 : g 52 7 = pk) (hs : 0 ≤ st ∧ st ≤ 7) (hp : 0 ≤ pk ∧ pk ≤ 37) : Ev sn sx 2 3 [(2, 52), (0, ((w : Nat) : Int))] (SH b) g (fun r => ∃ g', r = (none, SH b, g') ∧ (∀ j, j < 37 → g' 53 j = od g P w st pk j 4) ∧ FrA 53 g g') := by
  refine ev_of (K := 1) T3 (by decide) rfl rfl (Nat.le_of_ble_eq_true rfl) ?_
  refine wp_eq (L' := [(2, 52), (0, ((w : Nat) : Int)), (9, 0), (9, 0), (9, 0), (9, 0), (9, 0), (9, 0), (9, 0)]) (st' := []) (g' := g) ?_
  refine wp_n 3 (pc' := 5) (L' := [(2, 52), (0, ((w : Nat) : Int)), (9, 0), (9, 0), (9, 0), (9, 0), (9, 0), (9, 0), (9, 0)]) (st' := [(0, 0), (2, 53)]) (g' := g) rfl ?_
  refine wp_cs (as := [(2, 53), (0, 0)]) (rest := []) rfl (by decide) rfl (Nat.le_of_ble_eq_true rfl) (e_fill (k := 53) rfl) (by decide) (fun r1 h2 => ?_)
  obtain ⟨g5, rfl, hZ5, hF5⟩ := h2
  refine wp_eq (L' := [(2, 52), (0, ((w : Nat) : Int)), (9, 0), (9, 0), (9, 0), (9, 0), (9, 0), (9, 0), (9, 0)]) (st' := []) (g' := g5) ?_
  refine wp_n 2 (pc' := 10) (L' := [(2, 52), (0, ((w : Nat) : Int)), (0, 0), (9, 0), (9, 0), (9, 0), (9, 0), (9, 0), (9, 0)]) (st' := []) (g' := g5) rfl ?_
  have L10 : ∀ (lf : Nat) (k : Nat) (h : am_G) (w3 w4 w5 w6 w7 w8 : am_V), 4 - k < lf → (k ≤ 4) → (∀ j, j < 37 → h 53 j = od g P w st pk j k) → (FrA 53 g h) → Wp sn sx 1 T3 10 [(2, 52), (0, ((w : Nat) : Int)), (0, ((k : Nat) : Int)), w3, w4, w5, w6, w7, w8] [] (SH b) h (fun r => ∃ g', r = (none, SH b, g') ∧ (∀ j, j < 37 → g' 53 j = od g P w st pk j 4) ∧ FrA 53 g g') := by
    intro lf
    induction lf with
    | zero => intro k h w3 w4 w5 w6 w7 w8 hlf; exact absurd hlf (Nat.not_lt_zero _)
    | succ lf ih10 =>
      intro k h w3 w4 w5 w6 w7 w8 hlf hk hH hF
      refine wp_n 2 (pc' := 12) (L' := [(2, 52), (0, ((w : Nat) : Int)), (0, ((k : Nat) : Int)), w3, w4, w5, w6, w7, w8]) (st' := [(0, 4), (0, ((k : Nat) : Int))]) (g' := h) rfl ?_
      refine wp_ic_ge rfl (fun c3 => ?_) (fun c3 => ?_)
      · have hk4 : k = 4 := by omega
        exact wp_ret rfl rfl rfl ⟨_, rfl, fun j hj => by rw [hH j hj, hk4], hF⟩
      · have e1 := Int.emod_nonneg (pk + (k : Int)) (show (P : Int) ≠ 0 by omega)
        have e2 := Int.emod_lt_of_pos (pk + (k : Int)) (show (0 : Int) < (P : Int) by omega)
        have e3 := Int.emod_nonneg ((pk + (k : Int)) % (P : Int) + 1) (show (P : Int) ≠ 0 by omega)
        have e4 := Int.emod_lt_of_pos ((pk + (k : Int)) % (P : Int) + 1) (show (0 : Int) < (P : Int) by omega)
        have e5 := Int.emod_nonneg (((pk + (k : Int)) % (P : Int) + 1) % (P : Int) + 1) (show (P : Int) ≠ 0 by omega)
        have e6 := Int.emod_lt_of_pos (((pk + (k : Int)) % (P : Int) + 1) % (P : Int) + 1) (show (0 : Int) < (P : Int) by omega)
        have hC2 : ((pk + (k : Int)) % (P : Int) + 2) % (P : Int) = (((pk + (k : Int)) % (P : Int) + 1) % (P : Int) + 1) % (P : Int) := by rw [show (pk + (k : Int)) % (P : Int) + 2 = ((pk + (k : Int)) % (P : Int) + 1) + 1 by omega, Int.add_emod, Int.add_emod (((pk + (k : Int)) % (P : Int) + 1) % (P : Int)) 1, Int.emod_emod]
        refine wp_n 8 (pc' := 30) (L' := [(2, 52), (0, ((w : Nat) : Int)), (0, ((k : Nat) : Int)), w3, w4, w5, w6, w7, w8]) (st' := [(0, (h 52 6)), (0, (((w : Nat) : Int) * 8)), (2, 4)]) (g' := h) rfl ?_
        refine wp_eq (L' := [(2, 52), (0, ((w : Nat) : Int)), (0, ((k : Nat) : Int)), w3, w4, w5, w6, w7, w8]) (st' := [(0, st), (0, (((w : Nat) : Int) * 8)), (2, 4)]) (g' := h) ?_ (by rfl) (by rw [hF _ _ (by decide), h6]) (by rfl)
        refine wp_n 5 (pc' := 35) (L' := [(2, 52), (0, ((w : Nat) : Int)), (0, ((k : Nat) : Int)), w3, w4, w5, w6, w7, w8]) (st' := [(0, ((((((w : Nat) : Int) * 8) + st) * 4) + ((k : Nat) : Int))), (2, 4)]) (g' := h) rfl ?_
        refine wp_iald (k := 4) ((32 * w + 4 * st.toNat + k)) rfl rfl (by omega) (by omega) (by decide) ?_
        refine wp_eq (L' := [(2, 52), (0, ((w : Nat) : Int)), (0, ((k : Nat) : Int)), w3, w4, w5, w6, w7, w8]) (st' := [(0, (g 4 (32 * w + 4 * st.toNat + k)))]) (g' := h) ?_ (by rfl) (by rw [hF 4 _ (by decide)]) (by rfl)
        refine wp_n 3 (pc' := 41) (L' := [(2, 52), (0, ((w : Nat) : Int)), (0, ((k : Nat) : Int)), (0, (g 4 (32 * w + 4 * st.toNat + k))), w4, w5, w6, w7, w8]) (st' := [(0, (h 52 7))]) (g' := h) rfl ?_
        refine wp_eq (L' := [(2, 52), (0, ((w : Nat) : Int)), (0, ((k : Nat) : Int)), (0, (g 4 (32 * w + 4 * st.toNat + k))), w4, w5, w6, w7, w8]) (st' := [(0, pk)]) (g' := h) ?_ (by rfl) (by rw [hF _ _ (by decide), h7]) (by rfl)
        refine wp_n 4 (pc' := 47) (L' := [(2, 52), (0, ((w : Nat) : Int)), (0, ((k : Nat) : Int)), (0, (g 4 (32 * w + 4 * st.toNat + k))), w4, w5, w6, w7, w8]) (st' := [(0, (h 52 3)), (0, (pk + ((k : Nat) : Int)))]) (g' := h) rfl ?_
        refine wp_eq (L' := [(2, 52), (0, ((w : Nat) : Int)), (0, ((k : Nat) : Int)), (0, (g 4 (32 * w + 4 * st.toNat + k))), w4, w5, w6, w7, w8]) (st' := [(0, ((P : Nat) : Int)), (0, (pk + ((k : Nat) : Int)))]) (g' := h) ?_ (by rfl) (by rw [hF _ _ (by decide), h3]) (by rfl)
        refine wp_irem rfl (by omega) (by omega) (by omega) ?_
        refine wp_eq (L' := [(2, 52), (0, ((w : Nat) : Int)), (0, ((k : Nat) : Int)), (0, (g 4 (32 * w + 4 * st.toNat + k))), w4, w5, w6, w7, w8]) (st' := [(0, ((pk + ((k : Nat) : Int)) % ((P : Nat) : Int)))]) (g' := h) ?_ (by rfl) (by rw [Int.tmod_eq_emod_of_nonneg (show 0 ≤ pk + (k : Int) by omega)]) (by rfl)
        refine wp_n 6 (pc' := 58) (L' := [(2, 52), (0, ((w : Nat) : Int)), (0, ((k : Nat) : Int)), (0, (g 4 (32 * w + 4 * st.toNat + k))), (0, ((pk + ((k : Nat) : Int)) % ((P : Nat) : Int))), w5, w6, w7, w8]) (st' := [(0, (h 52 3)), (0, (((pk + ((k : Nat) : Int)) % ((P : Nat) : Int)) + 1))]) (g' := h) rfl ?_
        refine wp_eq (L' := [(2, 52), (0, ((w : Nat) : Int)), (0, ((k : Nat) : Int)), (0, (g 4 (32 * w + 4 * st.toNat + k))), (0, ((pk + ((k : Nat) : Int)) % ((P : Nat) : Int))), w5, w6, w7, w8]) (st' := [(0, ((P : Nat) : Int)), (0, (((pk + ((k : Nat) : Int)) % ((P : Nat) : Int)) + 1))]) (g' := h) ?_ (by rfl) (by rw [hF _ _ (by decide), h3]) (by rfl)
        refine wp_irem rfl (by omega) (by omega) (by omega) ?_
        refine wp_eq (L' := [(2, 52), (0, ((w : Nat) : Int)), (0, ((k : Nat) : Int)), (0, (g 4 (32 * w + 4 * st.toNat + k))), (0, ((pk + ((k : Nat) : Int)) % ((P : Nat) : Int))), w5, w6, w7, w8]) (st' := [(0, ((((pk + ((k : Nat) : Int)) % ((P : Nat) : Int)) + 1) % ((P : Nat) : Int)))]) (g' := h) ?_ (by rfl) (by rw [Int.tmod_eq_emod_of_nonneg (show 0 ≤ ((pk + (k : Int)) % (P : Int)) + 1 by omega)]) (by rfl)
        refine wp_n 9 (pc' := 75) (L' := [(2, 52), (0, ((w : Nat) : Int)), (0, ((k : Nat) : Int)), (0, (g 4 (32 * w + 4 * st.toNat + k))), (0, ((pk + ((k : Nat) : Int)) % ((P : Nat) : Int))), (0, ((((pk + ((k : Nat) : Int)) % ((P : Nat) : Int)) + 1) % ((P : Nat) : Int))), w6, w7, w8]) (st' := [(0, ((((w : Nat) : Int) * 37) + ((pk + ((k : Nat) : Int)) % ((P : Nat) : Int)))), (2, 2)]) (g' := h) rfl ?_
        refine wp_iald (k := 2) ((37 * w + ((pk + (k : Int)) % (P : Int)).toNat)) rfl rfl (by omega) (by omega) (by decide) ?_
        refine wp_eq (L' := [(2, 52), (0, ((w : Nat) : Int)), (0, ((k : Nat) : Int)), (0, (g 4 (32 * w + 4 * st.toNat + k))), (0, ((pk + ((k : Nat) : Int)) % ((P : Nat) : Int))), (0, ((((pk + ((k : Nat) : Int)) % ((P : Nat) : Int)) + 1) % ((P : Nat) : Int))), w6, w7, w8]) (st' := [(0, (g 2 (37 * w + ((pk + (k : Int)) % (P : Int)).toNat)))]) (g' := h) ?_ (by rfl) (by rw [hF 2 _ (by decide)]) (by rfl)
        refine wp_n 9 (pc' := 92) (L' := [(2, 52), (0, ((w : Nat) : Int)), (0, ((k : Nat) : Int)), (0, (g 4 (32 * w + 4 * st.toNat + k))), (0, ((pk + ((k : Nat) : Int)) % ((P : Nat) : Int))), (0, ((((pk + ((k : Nat) : Int)) % ((P : Nat) : Int)) + 1) % ((P : Nat) : Int))), (0, (g 2 (37 * w + ((pk + (k : Int)) % (P : Int)).toNat))), w7, w8]) (st' := [(0, ((((w : Nat) : Int) * 37) + ((((pk + ((k : Nat) : Int)) % ((P : Nat) : Int)) + 1) % ((P : Nat) : Int)))), (2, 2)]) (g' := h) rfl ?_
        refine wp_iald (k := 2) ((37 * w + ((((pk + (k : Int)) % (P : Int)) + 1) % (P : Int)).toNat)) rfl rfl (by omega) (by omega) (by decide) ?_
        refine wp_eq (L' := [(2, 52), (0, ((w : Nat) : Int)), (0, ((k : Nat) : Int)), (0, (g 4 (32 * w + 4 * st.toNat + k))), (0, ((pk + ((k : Nat) : Int)) % ((P : Nat) : Int))), (0, ((((pk + ((k : Nat) : Int)) % ((P : Nat) : Int)) + 1) % ((P : Nat) : Int))), (0, (g 2 (37 * w + ((pk + (k : Int)) % (P : Int)).toNat))), w7, w8]) (st' := [(0, (g 2 (37 * w + ((((pk + (k : Int)) % (P : Int)) + 1) % (P : Int)).toNat)))]) (g' := h) ?_ (by rfl) (by rw [hF 2 _ (by decide)]) (by rfl)
        refine wp_n 11 (pc' := 111) (L' := [(2, 52), (0, ((w : Nat) : Int)), (0, ((k : Nat) : Int)), (0, (g 4 (32 * w + 4 * st.toNat + k))), (0, ((pk + ((k : Nat) : Int)) % ((P : Nat) : Int))), (0, ((((pk + ((k : Nat) : Int)) % ((P : Nat) : Int)) + 1) % ((P : Nat) : Int))), (0, (g 2 (37 * w + ((pk + (k : Int)) % (P : Int)).toNat))), (0, (g 2 (37 * w + ((((pk + (k : Int)) % (P : Int)) + 1) % (P : Int)).toNat))), (0, ((g 4 (32 * w + 4 * st.toNat + k)) * (10 - (g 2 (37 * w + ((pk + (k : Int)) % (P : Int)).toNat)))))]) (st' := [(0, ((pk + ((k : Nat) : Int)) % ((P : Nat) : Int))), (2, 53), (0, ((pk + ((k : Nat) : Int)) % ((P : Nat) : Int))), (2, 53)]) (g' := h) rfl ?_
        refine wp_iald (k := 53) (((pk + (k : Int)) % (P : Int)).toNat) rfl rfl (by omega) (by omega) (by decide) ?_
        refine wp_n 6 (pc' := 120) (L' := [(2, 52), (0, ((w : Nat) : Int)), (0, ((k : Nat) : Int)), (0, (g 4 (32 * w + 4 * st.toNat + k))), (0, ((pk + ((k : Nat) : Int)) % ((P : Nat) : Int))), (0, ((((pk + ((k : Nat) : Int)) % ((P : Nat) : Int)) + 1) % ((P : Nat) : Int))), (0, (g 2 (37 * w + ((pk + (k : Int)) % (P : Int)).toNat))), (0, (g 2 (37 * w + ((((pk + (k : Int)) % (P : Int)) + 1) % (P : Int)).toNat))), (0, ((g 4 (32 * w + 4 * st.toNat + k)) * (10 - (g 2 (37 * w + ((pk + (k : Int)) % (P : Int)).toNat)))))]) (st' := [(0, ((h 53 ((pk + (k : Int)) % (P : Int)).toNat) + (((g 4 (32 * w + 4 * st.toNat + k)) * (g 2 (37 * w + ((pk + (k : Int)) % (P : Int)).toNat))) * 10))), (0, ((pk + ((k : Nat) : Int)) % ((P : Nat) : Int))), (2, 53)]) (g' := h) rfl ?_
        refine wp_iast (k := 53) (((pk + (k : Int)) % (P : Int)).toNat) rfl rfl (by omega) (by omega) (by decide) ?_
        refine wp_n 4 (pc' := 128) (L' := [(2, 52), (0, ((w : Nat) : Int)), (0, ((k : Nat) : Int)), (0, (g 4 (32 * w + 4 * st.toNat + k))), (0, ((pk + ((k : Nat) : Int)) % ((P : Nat) : Int))), (0, ((((pk + ((k : Nat) : Int)) % ((P : Nat) : Int)) + 1) % ((P : Nat) : Int))), (0, (g 2 (37 * w + ((pk + (k : Int)) % (P : Int)).toNat))), (0, (g 2 (37 * w + ((((pk + (k : Int)) % (P : Int)) + 1) % (P : Int)).toNat))), (0, ((g 4 (32 * w + 4 * st.toNat + k)) * (10 - (g 2 (37 * w + ((pk + (k : Int)) % (P : Int)).toNat)))))]) (st' := [(0, ((((pk + ((k : Nat) : Int)) % ((P : Nat) : Int)) + 1) % ((P : Nat) : Int))), (2, 53), (0, ((((pk + ((k : Nat) : Int)) % ((P : Nat) : Int)) + 1) % ((P : Nat) : Int))), (2, 53)]) (g' := (am_up h 53 (((pk + (k : Int)) % (P : Int)).toNat) ((h 53 ((pk + (k : Int)) % (P : Int)).toNat) + (((g 4 (32 * w + 4 * st.toNat + k)) * (g 2 (37 * w + ((pk + (k : Int)) % (P : Int)).toNat))) * 10)))) rfl ?_
        refine wp_iald (k := 53) (((((pk + (k : Int)) % (P : Int)) + 1) % (P : Int)).toNat) rfl rfl (by omega) (by omega) (by decide) ?_
        refine wp_n 4 (pc' := 135) (L' := [(2, 52), (0, ((w : Nat) : Int)), (0, ((k : Nat) : Int)), (0, (g 4 (32 * w + 4 * st.toNat + k))), (0, ((pk + ((k : Nat) : Int)) % ((P : Nat) : Int))), (0, ((((pk + ((k : Nat) : Int)) % ((P : Nat) : Int)) + 1) % ((P : Nat) : Int))), (0, (g 2 (37 * w + ((pk + (k : Int)) % (P : Int)).toNat))), (0, (g 2 (37 * w + ((((pk + (k : Int)) % (P : Int)) + 1) % (P : Int)).toNat))), (0, ((g 4 (32 * w + 4 * st.toNat + k)) * (10 - (g 2 (37 * w + ((pk + (k : Int)) % (P : Int)).toNat)))))]) (st' := [(0, (((am_up h 53 (((pk + (k : Int)) % (P : Int)).toNat) ((h 53 ((pk + (k : Int)) % (P : Int)).toNat) + (((g 4 (32 * w + 4 * st.toNat + k)) * (g 2 (37 * w + ((pk + (k : Int)) % (P : Int)).toNat))) * 10))) 53 ((((pk + (k : Int)) % (P : Int)) + 1) % (P : Int)).toNat) + (((g 4 (32 * w + 4 * st.toNat + k)) * (10 - (g 2 (37 * w + ((pk + (k : Int)) % (P : Int)).toNat)))) * (g 2 (37 * w + ((((pk + (k : Int)) % (P : Int)) + 1) % (P : Int)).toNat))))), (0, ((((pk + ((k : Nat) : Int)) % ((P : Nat) : Int)) + 1) % ((P : Nat) : Int))), (2, 53)]) (g' := (am_up h 53 (((pk + (k : Int)) % (P : Int)).toNat) ((h 53 ((pk + (k : Int)) % (P : Int)).toNat) + (((g 4 (32 * w + 4 * st.toNat + k)) * (g 2 (37 * w + ((pk + (k : Int)) % (P : Int)).toNat))) * 10)))) rfl ?_
        refine wp_iast (k := 53) (((((pk + (k : Int)) % (P : Int)) + 1) % (P : Int)).toNat) rfl rfl (by omega) (by omega) (by decide) ?_
        refine wp_n 7 (pc' := 148) (L' := [(2, 52), (0, ((w : Nat) : Int)), (0, ((k : Nat) : Int)), (0, (g 4 (32 * w + 4 * st.toNat + k))), (0, ((pk + ((k : Nat) : Int)) % ((P : Nat) : Int))), (0, ((((pk + ((k : Nat) : Int)) % ((P : Nat) : Int)) + 1) % ((P : Nat) : Int))), (0, (g 2 (37 * w + ((pk + (k : Int)) % (P : Int)).toNat))), (0, (g 2 (37 * w + ((((pk + (k : Int)) % (P : Int)) + 1) % (P : Int)).toNat))), (0, ((g 4 (32 * w + 4 * st.toNat + k)) * (10 - (g 2 (37 * w + ((pk + (k : Int)) % (P : Int)).toNat)))))]) (st' := [(0, (h 52 3)), (0, (((((pk + ((k : Nat) : Int)) % ((P : Nat) : Int)) + 1) % ((P : Nat) : Int)) + 1)), (2, 53)]) (g' := (am_up (am_up h 53 (((pk + (k : Int)) % (P : Int)).toNat) ((h 53 ((pk + (k : Int)) % (P : Int)).toNat) + (((g 4 (32 * w + 4 * st.toNat + k)) * (g 2 (37 * w + ((pk + (k : Int)) % (P : Int)).toNat))) * 10))) 53 (((((pk + (k : Int)) % (P : Int)) + 1) % (P : Int)).toNat) (((am_up h 53 (((pk + (k : Int)) % (P : Int)).toNat) ((h 53 ((pk + (k : Int)) % (P : Int)).toNat) + (((g 4 (32 * w + 4 * st.toNat + k)) * (g 2 (37 * w + ((pk + (k : Int)) % (P : Int)).toNat))) * 10))) 53 ((((pk + (k : Int)) % (P : Int)) + 1) % (P : Int)).toNat) + (((g 4 (32 * w + 4 * st.toNat + k)) * (10 - (g 2 (37 * w + ((pk + (k : Int)) % (P : Int)).toNat)))) * (g 2 (37 * w + ((((pk + (k : Int)) % (P : Int)) + 1) % (P : Int)).toNat)))))) rfl ?_
        refine wp_eq (L' := [(2, 52), (0, ((w : Nat) : Int)), (0, ((k : Nat) : Int)), (0, (g 4 (32 * w + 4 * st.toNat + k))), (0, ((pk + ((k : Nat) : Int)) % ((P : Nat) : Int))), (0, ((((pk + ((k : Nat) : Int)) % ((P : Nat) : Int)) + 1) % ((P : Nat) : Int))), (0, (g 2 (37 * w + ((pk + (k : Int)) % (P : Int)).toNat))), (0, (g 2 (37 * w + ((((pk + (k : Int)) % (P : Int)) + 1) % (P : Int)).toNat))), (0, ((g 4 (32 * w + 4 * st.toNat + k)) * (10 - (g 2 (37 * w + ((pk + (k : Int)) % (P : Int)).toNat)))))]) (st' := [(0, ((P : Nat) : Int)), (0, (((((pk + ((k : Nat) : Int)) % ((P : Nat) : Int)) + 1) % ((P : Nat) : Int)) + 1)), (2, 53)]) (g' := (am_up (am_up h 53 (((pk + (k : Int)) % (P : Int)).toNat) ((h 53 ((pk + (k : Int)) % (P : Int)).toNat) + (((g 4 (32 * w + 4 * st.toNat + k)) * (g 2 (37 * w + ((pk + (k : Int)) % (P : Int)).toNat))) * 10))) 53 (((((pk + (k : Int)) % (P : Int)) + 1) % (P : Int)).toNat) (((am_up h 53 (((pk + (k : Int)) % (P : Int)).toNat) ((h 53 ((pk + (k : Int)) % (P : Int)).toNat) + (((g 4 (32 * w + 4 * st.toNat + k)) * (g 2 (37 * w + ((pk + (k : Int)) % (P : Int)).toNat))) * 10))) 53 ((((pk + (k : Int)) % (P : Int)) + 1) % (P : Int)).toNat) + (((g 4 (32 * w + 4 * st.toNat + k)) * (10 - (g 2 (37 * w + ((pk + (k : Int)) % (P : Int)).toNat)))) * (g 2 (37 * w + ((((pk + (k : Int)) % (P : Int)) + 1) % (P : Int)).toNat)))))) ?_ (by rfl) (by rw [hF _ _ (by decide), h3]) (by rfl)
        refine wp_irem rfl (by omega) (by omega) (by omega) ?_
        refine wp_eq (L' := [(2, 52), (0, ((w : Nat) : Int)), (0, ((k : Nat) : Int)), (0, (g 4 (32 * w + 4 * st.toNat + k))), (0, ((pk + ((k : Nat) : Int)) % ((P : Nat) : Int))), (0, ((((pk + ((k : Nat) : Int)) % ((P : Nat) : Int)) + 1) % ((P : Nat) : Int))), (0, (g 2 (37 * w + ((pk + (k : Int)) % (P : Int)).toNat))), (0, (g 2 (37 * w + ((((pk + (k : Int)) % (P : Int)) + 1) % (P : Int)).toNat))), (0, ((g 4 (32 * w + 4 * st.toNat + k)) * (10 - (g 2 (37 * w + ((pk + (k : Int)) % (P : Int)).toNat)))))]) (st' := [(0, ((((((pk + ((k : Nat) : Int)) % ((P : Nat) : Int)) + 1) % ((P : Nat) : Int)) + 1) % ((P : Nat) : Int))), (2, 53)]) (g' := (am_up (am_up h 53 (((pk + (k : Int)) % (P : Int)).toNat) ((h 53 ((pk + (k : Int)) % (P : Int)).toNat) + (((g 4 (32 * w + 4 * st.toNat + k)) * (g 2 (37 * w + ((pk + (k : Int)) % (P : Int)).toNat))) * 10))) 53 (((((pk + (k : Int)) % (P : Int)) + 1) % (P : Int)).toNat) (((am_up h 53 (((pk + (k : Int)) % (P : Int)).toNat) ((h 53 ((pk + (k : Int)) % (P : Int)).toNat) + (((g 4 (32 * w + 4 * st.toNat + k)) * (g 2 (37 * w + ((pk + (k : Int)) % (P : Int)).toNat))) * 10))) 53 ((((pk + (k : Int)) % (P : Int)) + 1) % (P : Int)).toNat) + (((g 4 (32 * w + 4 * st.toNat + k)) * (10 - (g 2 (37 * w + ((pk + (k : Int)) % (P : Int)).toNat)))) * (g 2 (37 * w + ((((pk + (k : Int)) % (P : Int)) + 1) % (P : Int)).toNat)))))) ?_ (by rfl) (by rw [Int.tmod_eq_emod_of_nonneg (show 0 ≤ (((pk + (k : Int)) % (P : Int)) + 1) % (P : Int) + 1 by omega)]) (by rfl)
        refine wp_n 1 (pc' := 150) (L' := [(2, 52), (0, ((w : Nat) : Int)), (0, ((k : Nat) : Int)), (0, (g 4 (32 * w + 4 * st.toNat + k))), (0, ((pk + ((k : Nat) : Int)) % ((P : Nat) : Int))), (0, ((((pk + ((k : Nat) : Int)) % ((P : Nat) : Int)) + 1) % ((P : Nat) : Int))), (0, (g 2 (37 * w + ((pk + (k : Int)) % (P : Int)).toNat))), (0, (g 2 (37 * w + ((((pk + (k : Int)) % (P : Int)) + 1) % (P : Int)).toNat))), (0, ((g 4 (32 * w + 4 * st.toNat + k)) * (10 - (g 2 (37 * w + ((pk + (k : Int)) % (P : Int)).toNat)))))]) (st' := [(0, ((((((pk + ((k : Nat) : Int)) % ((P : Nat) : Int)) + 1) % ((P : Nat) : Int)) + 1) % ((P : Nat) : Int))), (2, 53), (0, ((((((pk + ((k : Nat) : Int)) % ((P : Nat) : Int)) + 1) % ((P : Nat) : Int)) + 1) % ((P : Nat) : Int))), (2, 53)]) (g' := (am_up (am_up h 53 (((pk + (k : Int)) % (P : Int)).toNat) ((h 53 ((pk + (k : Int)) % (P : Int)).toNat) + (((g 4 (32 * w + 4 * st.toNat + k)) * (g 2 (37 * w + ((pk + (k : Int)) % (P : Int)).toNat))) * 10))) 53 (((((pk + (k : Int)) % (P : Int)) + 1) % (P : Int)).toNat) (((am_up h 53 (((pk + (k : Int)) % (P : Int)).toNat) ((h 53 ((pk + (k : Int)) % (P : Int)).toNat) + (((g 4 (32 * w + 4 * st.toNat + k)) * (g 2 (37 * w + ((pk + (k : Int)) % (P : Int)).toNat))) * 10))) 53 ((((pk + (k : Int)) % (P : Int)) + 1) % (P : Int)).toNat) + (((g 4 (32 * w + 4 * st.toNat + k)) * (10 - (g 2 (37 * w + ((pk + (k : Int)) % (P : Int)).toNat)))) * (g 2 (37 * w + ((((pk + (k : Int)) % (P : Int)) + 1) % (P : Int)).toNat)))))) rfl ?_
        refine wp_iald (k := 53) ((((((pk + (k : Int)) % (P : Int)) + 1) % (P : Int) + 1) % (P : Int)).toNat) rfl rfl (by omega) (by omega) (by decide) ?_
        refine wp_n 6 (pc' := 160) (L' := [(2, 52), (0, ((w : Nat) : Int)), (0, ((k : Nat) : Int)), (0, (g 4 (32 * w + 4 * st.toNat + k))), (0, ((pk + ((k : Nat) : Int)) % ((P : Nat) : Int))), (0, ((((pk + ((k : Nat) : Int)) % ((P : Nat) : Int)) + 1) % ((P : Nat) : Int))), (0, (g 2 (37 * w + ((pk + (k : Int)) % (P : Int)).toNat))), (0, (g 2 (37 * w + ((((pk + (k : Int)) % (P : Int)) + 1) % (P : Int)).toNat))), (0, ((g 4 (32 * w + 4 * st.toNat + k)) * (10 - (g 2 (37 * w + ((pk + (k : Int)) % (P : Int)).toNat)))))]) (st' := [(0, (((am_up (am_up h 53 (((pk + (k : Int)) % (P : Int)).toNat) ((h 53 ((pk + (k : Int)) % (P : Int)).toNat) + (((g 4 (32 * w + 4 * st.toNat + k)) * (g 2 (37 * w + ((pk + (k : Int)) % (P : Int)).toNat))) * 10))) 53 (((((pk + (k : Int)) % (P : Int)) + 1) % (P : Int)).toNat) (((am_up h 53 (((pk + (k : Int)) % (P : Int)).toNat) ((h 53 ((pk + (k : Int)) % (P : Int)).toNat) + (((g 4 (32 * w + 4 * st.toNat + k)) * (g 2 (37 * w + ((pk + (k : Int)) % (P : Int)).toNat))) * 10))) 53 ((((pk + (k : Int)) % (P : Int)) + 1) % (P : Int)).toNat) + (((g 4 (32 * w + 4 * st.toNat + k)) * (10 - (g 2 (37 * w + ((pk + (k : Int)) % (P : Int)).toNat)))) * (g 2 (37 * w + ((((pk + (k : Int)) % (P : Int)) + 1) % (P : Int)).toNat))))) 53 (((((pk + (k : Int)) % (P : Int)) + 1) % (P : Int) + 1) % (P : Int)).toNat) + (((g 4 (32 * w + 4 * st.toNat + k)) * (10 - (g 2 (37 * w + ((pk + (k : Int)) % (P : Int)).toNat)))) * (10 - (g 2 (37 * w + ((((pk + (k : Int)) % (P : Int)) + 1) % (P : Int)).toNat)))))), (0, ((((((pk + ((k : Nat) : Int)) % ((P : Nat) : Int)) + 1) % ((P : Nat) : Int)) + 1) % ((P : Nat) : Int))), (2, 53)]) (g' := (am_up (am_up h 53 (((pk + (k : Int)) % (P : Int)).toNat) ((h 53 ((pk + (k : Int)) % (P : Int)).toNat) + (((g 4 (32 * w + 4 * st.toNat + k)) * (g 2 (37 * w + ((pk + (k : Int)) % (P : Int)).toNat))) * 10))) 53 (((((pk + (k : Int)) % (P : Int)) + 1) % (P : Int)).toNat) (((am_up h 53 (((pk + (k : Int)) % (P : Int)).toNat) ((h 53 ((pk + (k : Int)) % (P : Int)).toNat) + (((g 4 (32 * w + 4 * st.toNat + k)) * (g 2 (37 * w + ((pk + (k : Int)) % (P : Int)).toNat))) * 10))) 53 ((((pk + (k : Int)) % (P : Int)) + 1) % (P : Int)).toNat) + (((g 4 (32 * w + 4 * st.toNat + k)) * (10 - (g 2 (37 * w + ((pk + (k : Int)) % (P : Int)).toNat)))) * (g 2 (37 * w + ((((pk + (k : Int)) % (P : Int)) + 1) % (P : Int)).toNat)))))) rfl ?_
        refine wp_iast (k := 53) ((((((pk + (k : Int)) % (P : Int)) + 1) % (P : Int) + 1) % (P : Int)).toNat) rfl rfl (by omega) (by omega) (by decide) ?_
        refine wp_n 2 (pc' := 10) (L' := [(2, 52), (0, ((w : Nat) : Int)), (0, (((k : Nat) : Int) + 1)), (0, (g 4 (32 * w + 4 * st.toNat + k))), (0, ((pk + ((k : Nat) : Int)) % ((P : Nat) : Int))), (0, ((((pk + ((k : Nat) : Int)) % ((P : Nat) : Int)) + 1) % ((P : Nat) : Int))), (0, (g 2 (37 * w + ((pk + (k : Int)) % (P : Int)).toNat))), (0, (g 2 (37 * w + ((((pk + (k : Int)) % (P : Int)) + 1) % (P : Int)).toNat))), (0, ((g 4 (32 * w + 4 * st.toNat + k)) * (10 - (g 2 (37 * w + ((pk + (k : Int)) % (P : Int)).toNat)))))]) (st' := []) (g' := (am_up (am_up (am_up h 53 (((pk + (k : Int)) % (P : Int)).toNat) ((h 53 ((pk + (k : Int)) % (P : Int)).toNat) + (((g 4 (32 * w + 4 * st.toNat + k)) * (g 2 (37 * w + ((pk + (k : Int)) % (P : Int)).toNat))) * 10))) 53 (((((pk + (k : Int)) % (P : Int)) + 1) % (P : Int)).toNat) (((am_up h 53 (((pk + (k : Int)) % (P : Int)).toNat) ((h 53 ((pk + (k : Int)) % (P : Int)).toNat) + (((g 4 (32 * w + 4 * st.toNat + k)) * (g 2 (37 * w + ((pk + (k : Int)) % (P : Int)).toNat))) * 10))) 53 ((((pk + (k : Int)) % (P : Int)) + 1) % (P : Int)).toNat) + (((g 4 (32 * w + 4 * st.toNat + k)) * (10 - (g 2 (37 * w + ((pk + (k : Int)) % (P : Int)).toNat)))) * (g 2 (37 * w + ((((pk + (k : Int)) % (P : Int)) + 1) % (P : Int)).toNat))))) 53 ((((((pk + (k : Int)) % (P : Int)) + 1) % (P : Int) + 1) % (P : Int)).toNat) (((am_up (am_up h 53 (((pk + (k : Int)) % (P : Int)).toNat) ((h 53 ((pk + (k : Int)) % (P : Int)).toNat) + (((g 4 (32 * w + 4 * st.toNat + k)) * (g 2 (37 * w + ((pk + (k : Int)) % (P : Int)).toNat))) * 10))) 53 (((((pk + (k : Int)) % (P : Int)) + 1) % (P : Int)).toNat) (((am_up h 53 (((pk + (k : Int)) % (P : Int)).toNat) ((h 53 ((pk + (k : Int)) % (P : Int)).toNat) + (((g 4 (32 * w + 4 * st.toNat + k)) * (g 2 (37 * w + ((pk + (k : Int)) % (P : Int)).toNat))) * 10))) 53 ((((pk + (k : Int)) % (P : Int)) + 1) % (P : Int)).toNat) + (((g 4 (32 * w + 4 * st.toNat + k)) * (10 - (g 2 (37 * w + ((pk + (k : Int)) % (P : Int)).toNat)))) * (g 2 (37 * w + ((((pk + (k : Int)) % (P : Int)) + 1) % (P : Int)).toNat))))) 53 (((((pk + (k : Int)) % (P : Int)) + 1) % (P : Int) + 1) % (P : Int)).toNat) + (((g 4 (32 * w + 4 * st.toNat + k)) * (10 - (g 2 (37 * w + ((pk + (k : Int)) % (P : Int)).toNat)))) * (10 - (g 2 (37 * w + ((((pk + (k : Int)) % (P : Int)) + 1) % (P : Int)).toNat))))))) rfl ?_
        refine wp_eq (ih10 (k + 1) ((am_up (am_up (am_up h 53 (((pk + (k : Int)) % (P : Int)).toNat) ((h 53 ((pk + (k : Int)) % (P : Int)).toNat) + (((g 4 (32 * w + 4 * st.toNat + k)) * (g 2 (37 * w + ((pk + (k : Int)) % (P : Int)).toNat))) * 10))) 53 (((((pk + (k : Int)) % (P : Int)) + 1) % (P : Int)).toNat) (((am_up h 53 (((pk + (k : Int)) % (P : Int)).toNat) ((h 53 ((pk + (k : Int)) % (P : Int)).toNat) + (((g 4 (32 * w + 4 * st.toNat + k)) * (g 2 (37 * w + ((pk + (k : Int)) % (P : Int)).toNat))) * 10))) 53 ((((pk + (k : Int)) % (P : Int)) + 1) % (P : Int)).toNat) + (((g 4 (32 * w + 4 * st.toNat + k)) * (10 - (g 2 (37 * w + ((pk + (k : Int)) % (P : Int)).toNat)))) * (g 2 (37 * w + ((((pk + (k : Int)) % (P : Int)) + 1) % (P : Int)).toNat))))) 53 ((((((pk + (k : Int)) % (P : Int)) + 1) % (P : Int) + 1) % (P : Int)).toNat) (((am_up (am_up h 53 (((pk + (k : Int)) % (P : Int)).toNat) ((h 53 ((pk + (k : Int)) % (P : Int)).toNat) + (((g 4 (32 * w + 4 * st.toNat + k)) * (g 2 (37 * w + ((pk + (k : Int)) % (P : Int)).toNat))) * 10))) 53 (((((pk + (k : Int)) % (P : Int)) + 1) % (P : Int)).toNat) (((am_up h 53 (((pk + (k : Int)) % (P : Int)).toNat) ((h 53 ((pk + (k : Int)) % (P : Int)).toNat) + (((g 4 (32 * w + 4 * st.toNat + k)) * (g 2 (37 * w + ((pk + (k : Int)) % (P : Int)).toNat))) * 10))) 53 ((((pk + (k : Int)) % (P : Int)) + 1) % (P : Int)).toNat) + (((g 4 (32 * w + 4 * st.toNat + k)) * (10 - (g 2 (37 * w + ((pk + (k : Int)) % (P : Int)).toNat)))) * (g 2 (37 * w + ((((pk + (k : Int)) % (P : Int)) + 1) % (P : Int)).toNat))))) 53 (((((pk + (k : Int)) % (P : Int)) + 1) % (P : Int) + 1) % (P : Int)).toNat) + (((g 4 (32 * w + 4 * st.toNat + k)) * (10 - (g 2 (37 * w + ((pk + (k : Int)) % (P : Int)).toNat)))) * (10 - (g 2 (37 * w + ((((pk + (k : Int)) % (P : Int)) + 1) % (P : Int)).toNat))))))) ((0, (g 4 (32 * w + 4 * st.toNat + k)))) ((0, ((pk + ((k : Nat) : Int)) % ((P : Nat) : Int)))) ((0, ((((pk + ((k : Nat) : Int)) % ((P : Nat) : Int)) + 1) % ((P : Nat) : Int)))) ((0, (g 2 (37 * w + ((pk + (k : Int)) % (P : Int)).toNat)))) ((0, (g 2 (37 * w + ((((pk + (k : Int)) % (P : Int)) + 1) % (P : Int)).toNat)))) ((0, ((g 4 (32 * w + 4 * st.toNat + k)) * (10 - (g 2 (37 * w + ((pk + (k : Int)) % (P : Int)).toNat)))))) ?_ ?_ ?_ ?_) (by first | rfl | (simp; done) | (simp; omega)) (by rfl) (by rfl)
        · omega
        · omega
        · intro j hj
          rw [add3, hH j hj, od]
          rw [hC2]
          unfold odA odB odC
          rfl
        · exact fun c j hc => by rw [up_ne hc, up_ne hc, up_ne hc]; exact hF c j hc
  refine wp_eq (L10 (_ + 1) (0) (g5) ((9, 0)) ((9, 0)) ((9, 0)) ((9, 0)) ((9, 0)) ((9, 0)) (Nat.lt_succ_self _) ?_ ?_ ?_) (by first | rfl | (simp; done) | (simp; omega)) (by rfl) (by rfl)
  · exact Nat.zero_le _
  · exact fun j hj => hZ5 j hj
  · exact hF5
