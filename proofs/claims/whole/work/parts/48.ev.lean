/-! TEXTS WORKED OUT: pure rows, then the class's machine and the reference's -/
theorem wp_swd {sn : Nat} {sx : Nat → Int} {K : Nat} {T : List (Nat × am_E)} {pc : Nat} {L t : List am_V} {sh : am_Sh} {g : am_G} {Q : am_R → Prop} {d lo hi x : Int} {offs : Array Int} {n a a' : Nat} {z : Int} (he : am_fd T pc = some (.tableswitch d lo hi offs, n, a, z)) (hx : -2147483648 ≤ x ∧ x < 2147483648) (h : x < lo ∨ hi < x) (hd : (pc : Int) + d = (a' : Int)) (kk : Wp sn sx K T a' L t sh g Q) : Wp sn sx K T pc L ((0, x) :: t) sh g Q := by
  refine wp_stp he rfl (s' := (a', L, t, sh, g)) ?_ kk
  show (am_sw pc d lo hi offs (w32 x)).bind (fun q => some (q, L, t, sh, g)) = _
  rw [w32_id hx.1 hx.2]
  unfold am_sw
  rw [if_pos h, hd, if_pos (Int.natCast_nonneg a')]
  rfl
def lim (x : Int) : Int := if x < -1000000 then -1000000 else if 1000000 < x then 1000000 else x
def opv (c x y : Int) : Int := if c = 20000 then lim (x + y) else if c = 20001 then lim (x - y) else if c = 20002 then lim (x * y) else if c = 20003 then (if y = 0 then 0 else Int.tdiv x y) else if c = 20004 then (if y < x then y else x) else (if x < y then y else x)
theorem opv_0 (x y : Int) : opv 20000 x y = lim (x + y) := if_pos rfl
theorem opv_1 (x y : Int) : opv 20001 x y = lim (x - y) := by unfold opv; rw [if_neg (by decide), if_pos rfl]
theorem opv_2 (x y : Int) : opv 20002 x y = lim (x * y) := by unfold opv; rw [if_neg (by decide), if_neg (by decide), if_pos rfl]
theorem opv_3 (x y : Int) : opv 20003 x y = if y = 0 then 0 else Int.tdiv x y := by unfold opv; rw [if_neg (by decide), if_neg (by decide), if_neg (by decide), if_pos rfl]
theorem opv_4 (x y : Int) : opv 20004 x y = if y < x then y else x := by unfold opv; rw [if_neg (by decide), if_neg (by decide), if_neg (by decide), if_neg (by decide), if_pos rfl]
theorem opv_5 (x y : Int) : opv 20005 x y = if x < y then y else x := by unfold opv; rw [if_neg (by decide), if_neg (by decide), if_neg (by decide), if_neg (by decide), if_neg (by decide)]
abbrev MB (x : Int) : Prop := -1000000 ≤ x ∧ x ≤ 1000000
theorem lim_in (x : Int) : MB (lim x) := by unfold lim MB; split <;> (try split) <;> omega
theorem tdiv_in {x y : Int} (h : MB x) : MB (Int.tdiv x y) := by
  have h1 := Int.natAbs_tdiv x y
  have h2 := Nat.div_le_self x.natAbs y.natAbs
  have h3 : (Int.tdiv x y).natAbs ≤ x.natAbs := Nat.le_trans (Nat.le_of_eq h1) h2
  clear h1 h2
  unfold MB at *
  omega
theorem opv_in {c x y : Int} (hx : MB x) (hy : MB y) : MB (opv c x y) := by
  have h1 := lim_in (x + y)
  have h2 := lim_in (x - y)
  have h3 := lim_in (x * y)
  have h4 := tdiv_in (y := y) hx
  unfold opv
  split
  · exact h1
  split
  · exact h2
  split
  · exact h3
  split
  · split
    · unfold MB; omega
    · exact h4
  split <;> split <;> assumption
/-- a row of numbers on a pile, the top first -/
def SRl (c : Nat → Int) : List Int → Prop
  | [] => True
  | x :: t => c t.length = x ∧ SRl c t
theorem SRl.up {g : am_G} {k i : Nat} {x : Int} : ∀ {st : List Int}, SRl (g k) st → st.length ≤ i → SRl (am_up g k i x k) st := by
  intro st
  induction st with
  | nil => intro _ _; exact True.intro
  | cons y t ih =>
    intro h hi
    rw [List.length_cons] at hi
    exact ⟨by rw [up_nj (by omega)]; exact h.1, ih h.2 (by omega)⟩
theorem SRl.of {c c' : Nat → Int} (hc : ∀ j, c' j = c j) : ∀ {st : List Int}, SRl c st → SRl c' st := by
  intro st
  induction st with
  | nil => intro _; exact True.intro
  | cons y t ih => intro h; exact ⟨by rw [hc]; exact h.1, ih h.2⟩
def LB (st : List Int) : Prop := ∀ v, v ∈ st → MB v
theorem LB.head {x : Int} {t : List Int} (h : LB (x :: t)) : MB x := h x (List.mem_cons_self)
theorem LB.tail {x : Int} {t : List Int} (h : LB (x :: t)) : LB t := fun v hv => h v (List.mem_cons_of_mem _ hv)
theorem LB.cons {x : Int} {t : List Int} (hx : MB x) (h : LB t) : LB (x :: t) := fun v hv => by
  rcases List.mem_cons.mp hv with rfl | hv
  · exact hx
  · exact h v hv
/-- one code -/
def stp (N : Nat → Int) (c : Int) (st : List Int) : List Int :=
  if c < 10000 then c :: st else if c < 20000 then N (c - 10000).toNat :: st
  else if c = 20006 then (match st with
    | [] => []
    | x :: t => -x :: t)
  else (match st with
    | y :: x :: t => opv c x y :: t
    | _ => st)
theorem stp_num {N : Nat → Int} {c : Int} {st : List Int} (h : c < 10000) : stp N c st = c :: st := if_pos h
theorem stp_name {N : Nat → Int} {c : Int} {st : List Int} (h : 10000 ≤ c) (h2 : c < 20000) : stp N c st = N (c - 10000).toNat :: st := by
  unfold stp
  rw [if_neg (by omega), if_pos h2]
theorem stp_neg {N : Nat → Int} {x : Int} {t : List Int} : stp N 20006 (x :: t) = -x :: t := rfl
theorem stp_op {N : Nat → Int} {c x y : Int} {t : List Int} (h : 20000 ≤ c) (h2 : c ≠ 20006) : stp N c (y :: x :: t) = opv c x y :: t := by
  unfold stp
  rw [if_neg (by omega), if_neg (by omega), if_neg h2]
def codeOk (k : Nat) (x : Int) : Prop := (0 ≤ x ∧ x ≤ 9999) ∨ (k < 2 ∧ 10000 ≤ x ∧ x ≤ 10004) ∨ (2 ≤ k ∧ 10005 ≤ x ∧ x ≤ 10010) ∨ (20000 ≤ x ∧ x ≤ 20006)
/-- the names that a clause may use are held -/
def NB (k : Nat) (N : Nat → Int) : Prop := ∀ i, (k < 2 ∧ i ≤ 4) ∨ (2 ≤ k ∧ 5 ≤ i ∧ i ≤ 10) → MB (N i)
def needs (c : Int) (n : Nat) : Prop := (c = 20006 → 1 ≤ n) ∧ (20000 ≤ c → c ≠ 20006 → 2 ≤ n)
theorem stp_lb {k : Nat} {N : Nat → Int} {c : Int} {st : List Int} (hc : codeOk k c) (hN : NB k N) (h : LB st) : LB (stp N c st) := by
  unfold stp
  split
  · exact h.cons (by unfold MB codeOk at *; omega)
  split
  · exact h.cons (hN _ (by unfold codeOk at hc; omega))
  split
  · cases st with
    | nil => exact h
    | cons x t => exact h.tail.cons (by have := h.head; unfold MB at *; omega)
  · cases st with
    | nil => exact h
    | cons y t =>
      cases t with
      | nil => exact h
      | cons x t => exact h.tail.tail.cons (opv_in h.tail.head h.head)
theorem stp_len {N : Nat → Int} {c : Int} {st : List Int} (hn : needs c st.length) : ((stp N c st).length : Int) = (st.length : Int) + (if c < 20000 then 1 else if c = 20006 then 0 else -1) := by
  unfold stp
  by_cases h1 : c < 10000
  · rw [if_pos h1, if_pos (by omega), List.length_cons]; omega
  rw [if_neg h1]
  by_cases h2 : c < 20000
  · rw [if_pos h2, if_pos h2, List.length_cons]; omega
  rw [if_neg h2, if_neg h2]
  by_cases h3 : c = 20006
  · rw [if_pos h3, if_pos h3]
    cases st with
    | nil => exact absurd (hn.1 h3) (by simp)
    | cons x t => simp
  · rw [if_neg h3, if_neg h3]
    have := hn.2 (by omega) h3
    cases st with
    | nil => simp at this
    | cons y t =>
      cases t with
      | nil => simp at this
      | cons x t => simp only [List.length_cons]; omega
/-- the pile behind n codes from a on -/
def evl (f : Nat → Int) (N : Nat → Int) (a : Nat) : Nat → List Int
  | 0 => []
  | n + 1 => stp N (f (a + n)) (evl f N a n)
theorem evl_s (f N : Nat → Int) (a n : Nat) : evl f N a (n + 1) = stp N (f (a + n)) (evl f N a n) := rfl
/-- a pile's height behind n codes -/
def hgt (f : Nat → Int) (a : Nat) : Nat → Int
  | 0 => 0
  | n + 1 => hgt f a n + (if f (a + n) < 20000 then 1 else if f (a + n) = 20006 then 0 else -1)
theorem hgt_s (f : Nat → Int) (a n : Nat) : hgt f a (n + 1) = hgt f a n + (if f (a + n) < 20000 then 1 else if f (a + n) = 20006 then 0 else -1) := rfl
/-- a clause's codes are as they should be -/
def ClW (k : Nat) (f : Nat → Int) (a n : Nat) : Prop := 1 ≤ n ∧ (∀ i, i < n → codeOk k (f (a + i)) ∧ (f (a + i) = 20006 → 1 ≤ hgt f a i) ∧ (20000 ≤ f (a + i) → f (a + i) ≠ 20006 → 2 ≤ hgt f a i)) ∧ (∀ i, i ≤ n → hgt f a i ≤ 60) ∧ hgt f a n = 1
theorem evl_len {k : Nat} {f N : Nat → Int} {a n : Nat} (h : ClW k f a n) : ∀ i, i ≤ n → ((evl f N a i).length : Int) = hgt f a i := by
  intro i
  induction i with
  | zero => intro _; rfl
  | succ i ih =>
    intro hi
    have e := ih (by omega)
    rw [evl_s, stp_len ⟨fun q => by have := (h.2.1 i (by omega)).2.1 q; omega, fun q q2 => by have := (h.2.1 i (by omega)).2.2 q q2; omega⟩, hgt_s, e]
theorem evl_needs {k : Nat} {f N : Nat → Int} {a n : Nat} (h : ClW k f a n) (i : Nat) (hi : i < n) : needs (f (a + i)) (evl f N a i).length := by
  have e := evl_len (N := N) h i (by omega)
  exact ⟨fun q => by have := (h.2.1 i hi).2.1 q; omega, fun q q2 => by have := (h.2.1 i hi).2.2 q q2; omega⟩
theorem evl_lb {k : Nat} {f N : Nat → Int} {a n : Nat} (h : ClW k f a n) (hN : NB k N) : ∀ i, i ≤ n → LB (evl f N a i) := by
  intro i
  induction i with
  | zero => intro _ v hv; exact absurd hv List.not_mem_nil
  | succ i ih => intro hi; rw [evl_s]; exact stp_lb (h.2.1 i (by omega)).1 hN (ih (by omega))
theorem evl_top {k : Nat} {f N : Nat → Int} {a n : Nat} (h : ClW k f a n) : ∃ v, evl f N a n = [v] := by
  have e := evl_len (N := N) h n (Nat.le_refl _)
  rw [h.2.2.2] at e
  match hx : evl f N a n with
  | [] => rw [hx] at e; simp at e
  | [v] => exact ⟨v, rfl⟩
  | x :: y :: t => rw [hx] at e; simp at e; omega
theorem evl_eq {f f' N N' : Nat → Int} {a a' n : Nat} (hf : ∀ i, i < n → f' (a' + i) = f (a + i)) (hN : N' = N) : evl f' N' a' n = evl f N a n := by
  subst hN
  induction n with
  | zero => rfl
  | succ n ih => rw [evl_s, evl_s, hf n (by omega), ih fun i hi => hf i (by omega)]
/-- a clause's value; w without -/
def wv (f : Nat → Int) (fr un : Int) (N : Nat → Int) (w : Int) : Int := if fr = -1 then w else (evl f N fr.toNat (un - fr).toNat).headD 0
set_option maxHeartbeats 400000 in
set_option maxRecDepth 20000 in
theorem e_lmax {sn : Nat} {sx : Nat → Int} {g : am_G} {sh : am_Sh} {x y : Int} (hx : -9223372036854775808 ≤ x ∧ x < 9223372036854775808) (hy : -9223372036854775808 ≤ y ∧ y < 9223372036854775808) : Ev sn sx 1 256 [(1, x), (1, y)] sh g (fun r => r = (some (1, if x < y then y else x), sh, g)) := by
  refine ev_of (K := 0) T256 (by decide) rfl rfl (Nat.le_of_ble_eq_true rfl) ?_
  refine wp_eq (L' := [(1, x), (9, 0), (1, y), (9, 0)]) (st' := []) (g' := g) ?_
  refine wp_n 2 (pc' := 2) (L' := [(1, x), (9, 0), (1, y), (9, 0)]) (st' := [(1, y), (1, x)]) (g' := g) rfl ?_
  refine wp_lc_lt rfl rfl (by omega) (by omega) (fun c1 => ?_) (fun c1 => ?_)
  · refine wp_n 1 (pc' := 11) (L' := [(1, x), (9, 0), (1, y), (9, 0)]) (st' := [(1, y)]) (g' := g) rfl ?_
    exact wp_ret rfl rfl (v := some (1, y)) rfl (by show _ = _; first | rw [if_pos (by omega)] | rw [if_neg (by omega)] | (split <;> (have : x = y := by omega) <;> subst this <;> rfl))
  · refine wp_n 2 (pc' := 11) (L' := [(1, x), (9, 0), (1, y), (9, 0)]) (st' := [(1, x)]) (g' := g) rfl ?_
    exact wp_ret rfl rfl (v := some (1, x)) rfl (by show _ = _; first | rw [if_pos (by omega)] | rw [if_neg (by omega)] | (split <;> (have : x = y := by omega) <;> subst this <;> rfl))
set_option maxHeartbeats 400000 in
set_option maxRecDepth 20000 in
theorem e_lmin {sn : Nat} {sx : Nat → Int} {g : am_G} {sh : am_Sh} {x y : Int} (hx : -9223372036854775808 ≤ x ∧ x < 9223372036854775808) (hy : -9223372036854775808 ≤ y ∧ y < 9223372036854775808) : Ev sn sx 1 258 [(1, x), (1, y)] sh g (fun r => r = (some (1, if y < x then y else x), sh, g)) := by
  refine ev_of (K := 0) T258 (by decide) rfl rfl (Nat.le_of_ble_eq_true rfl) ?_
  refine wp_eq (L' := [(1, x), (9, 0), (1, y), (9, 0)]) (st' := []) (g' := g) ?_
  refine wp_n 2 (pc' := 2) (L' := [(1, x), (9, 0), (1, y), (9, 0)]) (st' := [(1, y), (1, x)]) (g' := g) rfl ?_
  refine wp_lc_gt rfl rfl (by omega) (by omega) (fun c1 => ?_) (fun c1 => ?_)
  · refine wp_n 1 (pc' := 11) (L' := [(1, x), (9, 0), (1, y), (9, 0)]) (st' := [(1, y)]) (g' := g) rfl ?_
    exact wp_ret rfl rfl (v := some (1, y)) rfl (by show _ = _; first | rw [if_pos (by omega)] | rw [if_neg (by omega)] | (split <;> (have : x = y := by omega) <;> subst this <;> rfl))
  · refine wp_n 2 (pc' := 11) (L' := [(1, x), (9, 0), (1, y), (9, 0)]) (st' := [(1, x)]) (g' := g) rfl ?_
    exact wp_ret rfl rfl (v := some (1, x)) rfl (by show _ = _; first | rw [if_pos (by omega)] | rw [if_neg (by omega)] | (split <;> (have : x = y := by omega) <;> subst this <;> rfl))
set_option maxHeartbeats 400000 in
set_option maxRecDepth 20000 in
theorem e_limited {sn : Nat} {sx : Nat → Int} {g : am_G} {sh : am_Sh} {x : Int} (hx : -9223372036854775808 ≤ x ∧ x < 9223372036854775808) : Ev sn sx 2 42 [(1, x)] sh g (fun r => r = (some (0, lim x), sh, g)) := by
  refine ev_of (K := 1) T42 (by decide) rfl rfl (Nat.le_of_ble_eq_true rfl) ?_
  refine wp_eq (L' := [(1, x), (9, 0)]) (st' := []) (g' := g) ?_
  refine wp_n 3 (pc' := 7) (L' := [(1, x), (9, 0)]) (st' := [(1, x), (1, 1000000), (1, (-1000000))]) (g' := g) rfl ?_
  refine wp_cs (as := [(1, 1000000), (1, x)]) (rest := [(1, (-1000000))]) rfl (by decide) rfl (Nat.le_of_ble_eq_true rfl) (e_lmin (by omega) (by omega)) (by decide) (fun r1 h2 => ?_)
  obtain rfl := h2
  refine wp_eq (L' := [(1, x), (9, 0)]) (st' := [(1, (if x < 1000000 then x else 1000000)), (1, (-1000000))]) (g' := g) ?_
  refine wp_cs (as := [(1, (-1000000)), (1, (if x < 1000000 then x else 1000000))]) (rest := []) rfl (by decide) rfl (Nat.le_of_ble_eq_true rfl) (e_lmax (by omega) (by split <;> omega)) (by decide) (fun r3 h4 => ?_)
  obtain rfl := h4
  refine wp_eq (L' := [(1, x), (9, 0)]) (st' := [(1, (if (-1000000) < (if x < 1000000 then x else 1000000) then (if x < 1000000 then x else 1000000) else (-1000000)))]) (g' := g) ?_
  refine wp_n 1 (pc' := 14) (L' := [(1, x), (9, 0)]) (st' := [(0, (if (-1000000) < (if x < 1000000 then x else 1000000) then (if x < 1000000 then x else 1000000) else (-1000000)))]) (g' := g) rfl ?_
  exact wp_ret rfl rfl (v := some (0, (if (-1000000 : Int) < (if x < 1000000 then x else 1000000) then (if x < 1000000 then x else 1000000) else -1000000))) rfl (by show _ = _; congr 1; congr 1; congr 1; unfold lim; split <;> split <;> (try split) <;> (try split) <;> omega)
theorem mb_mul {x y : Int} (hx : -1000000 ≤ x ∧ x ≤ 1000000) (hy : -1000000 ≤ y ∧ y ≤ 1000000) : -1000000000000 ≤ x * y ∧ x * y ≤ 1000000000000 := by
  have h1 := Int.mul_nonneg (show 0 ≤ x + 1000000 by omega) (show 0 ≤ 1000000 - y by omega)
  have h2 := Int.mul_nonneg (show 0 ≤ 1000000 - x by omega) (show 0 ≤ y + 1000000 by omega)
  have h3 := Int.mul_nonneg (show 0 ≤ x + 1000000 by omega) (show 0 ≤ y + 1000000 by omega)
  have h4 := Int.mul_nonneg (show 0 ≤ 1000000 - x by omega) (show 0 ≤ 1000000 - y by omega)
  rw [Int.mul_sub, Int.add_mul, Int.add_mul] at h1
  rw [Int.mul_add, Int.sub_mul, Int.sub_mul] at h2
  rw [Int.mul_add, Int.add_mul, Int.add_mul] at h3
  rw [Int.mul_sub, Int.sub_mul, Int.sub_mul] at h4
  omega
set_option maxHeartbeats 400000 in
set_option maxRecDepth 20000 in
theorem e_join {sn : Nat} {sx : Nat → Int} {g : am_G} {sh : am_Sh} {c x y : Int} (hc : 20000 ≤ c ∧ c ≤ 20005) (hx : MB x) (hy : MB y) : Ev sn sx 3 41 [(0, c), (0, x), (0, y)] sh g (fun r => r = (some (0, opv c x y), sh, g)) := by
  unfold MB at hx hy
  have hm := mb_mul hx hy
  refine ev_of (K := 2) T41 (by decide) rfl rfl (Nat.le_of_ble_eq_true rfl) ?_
  refine wp_eq (L' := [(0, c), (0, x), (0, y)]) (st' := []) (g' := g) ?_
  refine wp_n 1 (pc' := 1) (L' := [(0, c), (0, x), (0, y)]) (st' := [(0, c)]) (g' := g) rfl ?_
  rcases (show c = 20000 ∨ c = 20001 ∨ c = 20002 ∨ c = 20003 ∨ c = 20004 ∨ (c < 20000 ∨ 20004 < c) by omega) with e1 | e1 | e1 | e1 | e1 | e1
  · refine wp_eq (L' := [(0, c), (0, x), (0, y)]) (st' := [(0, 20000)]) (g' := g) ?_ (by rfl) (by rw [e1]) (by rfl)
    refine wp_n 2 (pc' := 37) (L' := [(0, c), (0, x), (0, y)]) (st' := [(0, x)]) (g' := g) rfl ?_
    refine wp_i2l rfl (by omega) ?_
    refine wp_n 1 (pc' := 39) (L' := [(0, c), (0, x), (0, y)]) (st' := [(0, y), (1, x)]) (g' := g) rfl ?_
    refine wp_i2l rfl (by omega) ?_
    refine wp_n 1 (pc' := 41) (L' := [(0, c), (0, x), (0, y)]) (st' := [(1, (x + y))]) (g' := g) rfl ?_
    refine wp_cs (as := [(1, (x + y))]) (rest := []) rfl (by decide) rfl (Nat.le_of_ble_eq_true rfl) (e_limited (by omega)) (by decide) (fun r2 h3 => ?_)
    obtain rfl := h3
    refine wp_eq (L' := [(0, c), (0, x), (0, y)]) (st' := [(0, (lim (x + y)))]) (g' := g) ?_
    exact wp_ret rfl rfl rfl (by rw [e1, opv_0])
  · refine wp_eq (L' := [(0, c), (0, x), (0, y)]) (st' := [(0, 20001)]) (g' := g) ?_ (by rfl) (by rw [e1]) (by rfl)
    refine wp_n 2 (pc' := 46) (L' := [(0, c), (0, x), (0, y)]) (st' := [(0, x)]) (g' := g) rfl ?_
    refine wp_i2l rfl (by omega) ?_
    refine wp_n 1 (pc' := 48) (L' := [(0, c), (0, x), (0, y)]) (st' := [(0, y), (1, x)]) (g' := g) rfl ?_
    refine wp_i2l rfl (by omega) ?_
    refine wp_n 1 (pc' := 50) (L' := [(0, c), (0, x), (0, y)]) (st' := [(1, (x - y))]) (g' := g) rfl ?_
    refine wp_cs (as := [(1, (x - y))]) (rest := []) rfl (by decide) rfl (Nat.le_of_ble_eq_true rfl) (e_limited (by omega)) (by decide) (fun r4 h5 => ?_)
    obtain rfl := h5
    refine wp_eq (L' := [(0, c), (0, x), (0, y)]) (st' := [(0, (lim (x - y)))]) (g' := g) ?_
    exact wp_ret rfl rfl rfl (by rw [e1, opv_1])
  · refine wp_eq (L' := [(0, c), (0, x), (0, y)]) (st' := [(0, 20002)]) (g' := g) ?_ (by rfl) (by rw [e1]) (by rfl)
    refine wp_n 2 (pc' := 55) (L' := [(0, c), (0, x), (0, y)]) (st' := [(0, x)]) (g' := g) rfl ?_
    refine wp_i2l rfl (by omega) ?_
    refine wp_n 1 (pc' := 57) (L' := [(0, c), (0, x), (0, y)]) (st' := [(0, y), (1, x)]) (g' := g) rfl ?_
    refine wp_i2l rfl (by omega) ?_
    refine wp_n 1 (pc' := 59) (L' := [(0, c), (0, x), (0, y)]) (st' := [(1, (x * y))]) (g' := g) rfl ?_
    refine wp_cs (as := [(1, (x * y))]) (rest := []) rfl (by decide) rfl (Nat.le_of_ble_eq_true rfl) (e_limited (by omega)) (by decide) (fun r6 h7 => ?_)
    obtain rfl := h7
    refine wp_eq (L' := [(0, c), (0, x), (0, y)]) (st' := [(0, (lim (x * y)))]) (g' := g) ?_
    exact wp_ret rfl rfl rfl (by rw [e1, opv_2])
  · refine wp_eq (L' := [(0, c), (0, x), (0, y)]) (st' := [(0, 20003)]) (g' := g) ?_ (by rfl) (by rw [e1]) (by rfl)
    refine wp_n 2 (pc' := 64) (L' := [(0, c), (0, x), (0, y)]) (st' := [(0, y)]) (g' := g) rfl ?_
    refine wp_if_ne rfl (fun c8 => ?_) (fun c8 => ?_)
    · refine wp_n 2 (pc' := 73) (L' := [(0, c), (0, x), (0, y)]) (st' := [(0, y), (0, x)]) (g' := g) rfl ?_
      refine wp_idiv rfl (by omega) (by omega) (by omega) ?_
      exact wp_ret rfl rfl rfl (by rw [e1, opv_3, if_neg (by omega)])
    · refine wp_n 2 (pc' := 74) (L' := [(0, c), (0, x), (0, y)]) (st' := [(0, 0)]) (g' := g) rfl ?_
      exact wp_ret rfl rfl rfl (by rw [e1, opv_3, if_pos (by omega)])
  · refine wp_eq (L' := [(0, c), (0, x), (0, y)]) (st' := [(0, 20004)]) (g' := g) ?_ (by rfl) (by rw [e1]) (by rfl)
    refine wp_n 3 (pc' := 77) (L' := [(0, c), (0, x), (0, y)]) (st' := [(0, y), (0, x)]) (g' := g) rfl ?_
    refine wp_cs (as := [(0, x), (0, y)]) (rest := []) rfl (by decide) rfl (Nat.le_of_ble_eq_true rfl) (e_min (by omega) (by omega)) (by decide) (fun r9 h10 => ?_)
    obtain rfl := h10
    refine wp_eq (L' := [(0, c), (0, x), (0, y)]) (st' := [(0, (if y < x then y else x))]) (g' := g) ?_
    exact wp_ret rfl rfl rfl (by rw [e1, opv_4])
  · refine wp_swd (a' := 81) rfl (by omega) e1 rfl ?_
    refine wp_n 2 (pc' := 83) (L' := [(0, c), (0, x), (0, y)]) (st' := [(0, y), (0, x)]) (g' := g) rfl ?_
    refine wp_cs (as := [(0, x), (0, y)]) (rest := []) rfl (by decide) rfl (Nat.le_of_ble_eq_true rfl) (e_max (by omega) (by omega)) (by decide) (fun r11 h12 => ?_)
    obtain rfl := h12
    refine wp_eq (L' := [(0, c), (0, x), (0, y)]) (st' := [(0, (if x < y then y else x))]) (g' := g) ?_
    exact wp_ret rfl rfl rfl (by rw [show c = 20005 by omega, opv_5])
def FrE (g h : am_G) : Prop := (∀ c j, c ≠ 51 → (c ≠ 49 ∨ j ≠ 2) → h c j = g c j)
set_option maxHeartbeats 400000 in
set_option maxRecDepth 20000 in
theorem e_mpush {sn : Nat} {sx : Nat → Int} {b : Nat} {g : am_G} {v : Int} {st : List Int} (hS : SRl (g 51) st) (hh : g 49 2 = (st.length : Int)) (hl : st.length ≤ 62) : Ev sn sx 2 40 [(2, 49), (0, v)] (SH b) g (fun r => ∃ g', r = (none, SH b, g') ∧ SRl (g' 51) (v :: st) ∧ g' 49 2 = ((v :: st).length : Int) ∧ FrE g g') := by
  refine ev_of (K := 1) T40 (by decide) rfl rfl (Nat.le_of_ble_eq_true rfl) ?_
  refine wp_eq (L' := [(2, 49), (0, v)]) (st' := []) (g' := g) ?_
  refine wp_n 8 (pc' := 12) (L' := [(2, 49), (0, v)]) (st' := [(0, (64 - 1)), (0, 0), (0, (g 49 2))]) (g' := g) rfl ?_
  refine wp_cs (as := [(0, (g 49 2)), (0, 0), (0, (64 - 1))]) (rest := []) rfl (by decide) rfl (Nat.le_of_ble_eq_true rfl) (e_within (by omega) (by omega) (by omega)) (by decide) (fun r2 h3 => ?_)
  rcases h3 with ⟨rfl, p1⟩ | ⟨rfl, p1⟩
  · refine wp_eq (L' := [(2, 49), (0, v)]) (st' := [(0, 1)]) (g' := g) ?_
    refine wp_n 6 (pc' := 27) (L' := [(2, 49), (0, v)]) (st' := [(0, v), (0, (g 49 2)), (2, 51)]) (g' := g) rfl ?_
    refine wp_iast (k := 51) (st.length) rfl rfl (by omega) (by omega) (by decide) ?_
    refine wp_n 6 (pc' := 38) (L' := [(2, 49), (0, v)]) (st' := []) (g' := (am_up (am_up g 51 (st.length) v) 49 2 ((g 49 2) + 1))) rfl ?_
    exact wp_ret rfl rfl rfl ⟨_, rfl, ⟨by rw [up_ne (by decide)]; exact up_eq, by show SRl (am_up _ _ _ _ 51) _; exact SRl.of (c := am_up g 51 st.length v 51) (fun j => up_ne (by decide)) (hS.up (Nat.le_refl _))⟩, by rw [up_eq, hh, List.length_cons]; rfl, fun c j h1 h2 => by
      rcases h2 with h2 | h2
      · rw [up_ne h2, up_ne h1]
      · by_cases e : c = 49
        · subst e; rw [up_nj h2, up_ne h1]
        · rw [up_ne e, up_ne h1]⟩
  · exfalso; omega
set_option maxHeartbeats 400000 in
set_option maxRecDepth 20000 in
theorem e_step {sn : Nat} {sx : Nat → Int} {b : Nat} {g : am_G} {k : Nat} {c : Int} {st : List Int} (hS : SRl (g 51) st) (hh : g 49 2 = (st.length : Int)) (hl : st.length ≤ 60) (hc : codeOk k c) (hn : needs c st.length) (hb : LB st) : Ev sn sx 4 39 [(2, 49), (0, c)] (SH b) g (fun r => ∃ g', r = (none, SH b, g') ∧ SRl (g' 51) (stp (g 50) c st) ∧ g' 49 2 = ((stp (g 50) c st).length : Int) ∧ FrE g g') := by
  unfold codeOk at hc
  have hgh : g 49 2 = (st.length : Int) := hh
  refine ev_of (K := 3) T39 (by decide) rfl rfl (Nat.le_of_ble_eq_true rfl) ?_
  refine wp_eq (L' := [(2, 49), (0, c), (9, 0)]) (st' := []) (g' := g) ?_
  refine wp_n 2 (pc' := 4) (L' := [(2, 49), (0, c), (9, 0)]) (st' := [(0, 10000), (0, c)]) (g' := g) rfl ?_
  refine wp_ic_ge rfl (fun c1 => ?_) (fun c1 => ?_)
  · refine wp_n 2 (pc' := 19) (L' := [(2, 49), (0, c), (9, 0)]) (st' := [(0, 20000), (0, c)]) (g' := g) rfl ?_
    refine wp_ic_ge rfl (fun c2 => ?_) (fun c2 => ?_)
    · refine wp_n 2 (pc' := 58) (L' := [(2, 49), (0, c), (9, 0)]) (st' := [(0, 20006), (0, c)]) (g' := g) rfl ?_
      refine wp_ic_ne rfl (fun c3 => ?_) (fun c3 => ?_)
      · have hn2 := hn.2 (by omega) (by omega)
        obtain ⟨y, x, t, rfl⟩ : ∃ y x t, st = y :: x :: t := by
          cases st with
          | nil => simp at hn2
          | cons y t =>
            cases t with
            | nil => simp at hn2
            | cons x t => exact ⟨y, x, t, rfl⟩
        rw [List.length_cons, List.length_cons] at hh hl
        have hx1 := hb.head
        have hx2 := hb.tail.head
        have hs1 : g 51 (t.length + 1) = y := hS.1
        have hs2 : g 51 t.length = x := hS.2.1
        refine wp_n 6 (pc' := 113) (L' := [(2, 49), (0, c), (9, 0)]) (st' := [(0, 64), (0, 2), (0, (g 49 2))]) (g' := g) rfl ?_
        refine wp_cs (as := [(0, (g 49 2)), (0, 2), (0, 64)]) (rest := []) rfl (by decide) rfl (Nat.le_of_ble_eq_true rfl) (e_within (by omega) (by omega) (by omega)) (by decide) (fun r5 h6 => ?_)
        rcases h6 with ⟨rfl, p4⟩ | ⟨rfl, p4⟩
        · refine wp_eq (L' := [(2, 49), (0, c), (9, 0)]) (st' := [(0, 1)]) (g' := g) ?_
          refine wp_n 20 (pc' := 150) (L' := [(2, 49), (0, c), (9, 0)]) (st' := [(0, (((g 49 2) - 1) - 1)), (2, 51), (0, c), (0, (((g 49 2) - 1) - 1)), (2, 51)]) (g' := (am_up g 49 2 ((g 49 2) - 1))) rfl ?_
          refine wp_iald (k := 51) (t.length) rfl rfl (by omega) (by omega) (by decide) ?_
          refine wp_eq (L' := [(2, 49), (0, c), (9, 0)]) (st' := [(0, x), (0, c), (0, (((g 49 2) - 1) - 1)), (2, 51)]) (g' := (am_up g 49 2 ((g 49 2) - 1))) ?_ (by rfl) (by rw [up_ne (by decide), hs2]) (by rfl)
          refine wp_n 4 (pc' := 159) (L' := [(2, 49), (0, c), (9, 0)]) (st' := [(0, ((g 49 2) - 1)), (2, 51), (0, x), (0, c), (0, (((g 49 2) - 1) - 1)), (2, 51)]) (g' := (am_up g 49 2 ((g 49 2) - 1))) rfl ?_
          refine wp_iald (k := 51) ((t.length + 1)) rfl rfl (by omega) (by omega) (by decide) ?_
          refine wp_eq (L' := [(2, 49), (0, c), (9, 0)]) (st' := [(0, y), (0, x), (0, c), (0, (((g 49 2) - 1) - 1)), (2, 51)]) (g' := (am_up g 49 2 ((g 49 2) - 1))) ?_ (by rfl) (by rw [up_ne (by decide), hs1]) (by rfl)
          refine wp_cs (as := [(0, c), (0, x), (0, y)]) (rest := [(0, (((g 49 2) - 1) - 1)), (2, 51)]) rfl (by decide) rfl (Nat.le_of_ble_eq_true rfl) (e_join (by omega) hx2 hx1) (by decide) (fun r7 h8 => ?_)
          obtain rfl := h8
          refine wp_eq (L' := [(2, 49), (0, c), (9, 0)]) (st' := [(0, (opv c x y)), (0, (((g 49 2) - 1) - 1)), (2, 51)]) (g' := (am_up g 49 2 ((g 49 2) - 1))) ?_
          refine wp_iast (k := 51) (t.length) rfl rfl (by omega) (by omega) (by decide) ?_
          exact wp_ret rfl rfl rfl ⟨_, rfl, by rw [stp_op (by omega) (by omega)]; exact ⟨up_eq, SRl.up (SRl.of (c := g 51) (fun j => up_ne (by decide)) hS.2.2) (Nat.le_refl _)⟩, by rw [stp_op (by omega) (by omega), up_ne (by decide), up_eq, List.length_cons]; omega, fun c j h1 h2 => by
            rw [up_ne h1]
            rcases h2 with h2 | h2
            · rw [up_ne h2]
            · by_cases e : c = 49
              · subst e; rw [up_nj h2]
              · rw [up_ne e]⟩
        · exfalso; omega
      · have hc6 : c = 20006 := by omega
        have hn1 := hn.1 hc6
        obtain ⟨x, t, rfl⟩ : ∃ x t, st = x :: t := by
          cases st with
          | nil => simp at hn1
          | cons x t => exact ⟨x, t, rfl⟩
        rw [List.length_cons] at hh hl
        refine wp_n 6 (pc' := 71) (L' := [(2, 49), (0, c), (9, 0)]) (st' := [(0, 64), (0, 1), (0, (g 49 2))]) (g' := g) rfl ?_
        refine wp_cs (as := [(0, (g 49 2)), (0, 1), (0, 64)]) (rest := []) rfl (by decide) rfl (Nat.le_of_ble_eq_true rfl) (e_within (by omega) (by omega) (by omega)) (by decide) (fun r10 h11 => ?_)
        rcases h11 with ⟨rfl, p9⟩ | ⟨rfl, p9⟩
        · refine wp_eq (L' := [(2, 49), (0, c), (9, 0)]) (st' := [(0, 1)]) (g' := g) ?_
          refine wp_n 13 (pc' := 97) (L' := [(2, 49), (0, c), (9, 0)]) (st' := [(0, ((g 49 2) - 1)), (2, 51), (0, ((g 49 2) - 1)), (2, 51)]) (g' := g) rfl ?_
          refine wp_iald (k := 51) (t.length) rfl rfl (by omega) (by omega) (by decide) ?_
          refine wp_eq (L' := [(2, 49), (0, c), (9, 0)]) (st' := [(0, x), (0, ((g 49 2) - 1)), (2, 51)]) (g' := g) ?_ (by rfl) (by rw [show g 51 t.length = x from hS.1]) (by rfl)
          refine wp_n 1 (pc' := 99) (L' := [(2, 49), (0, c), (9, 0)]) (st' := [(0, (-x)), (0, ((g 49 2) - 1)), (2, 51)]) (g' := g) rfl ?_
          refine wp_iast (k := 51) (t.length) rfl rfl (by omega) (by omega) (by decide) ?_
          refine wp_n 1 (pc' := 164) (L' := [(2, 49), (0, c), (9, 0)]) (st' := []) (g' := (am_up g 51 (t.length) (-x))) rfl ?_
          exact wp_ret rfl rfl rfl ⟨_, rfl, by rw [hc6, stp_neg]; exact ⟨up_eq, SRl.up hS.2 (Nat.le_refl _)⟩, by rw [hc6, stp_neg, up_ne (by decide), hh]; rfl, fun c j h1 h2 => by rw [up_ne h1]⟩
        · exfalso; omega
    · refine wp_n 9 (pc' := 35) (L' := [(2, 49), (0, c), (0, (c - 10000))]) (st' := [(0, 11), (0, (c - 10000)), (2, 49)]) (g' := g) rfl ?_
      refine wp_ic_ge rfl (fun c12 => ?_) (fun c12 => ?_)
      · exfalso; omega
      · refine wp_n 3 (pc' := 43) (L' := [(2, 49), (0, c), (0, (c - 10000))]) (st' := [(0, (c - 10000)), (2, 50), (2, 49)]) (g' := g) rfl ?_
        refine wp_iald (k := 50) (((c - 10000)).toNat) rfl rfl (by omega) (by omega) (by decide) ?_
        refine wp_n 1 (pc' := 48) (L' := [(2, 49), (0, c), (0, (c - 10000))]) (st' := [(0, (g 50 ((c - 10000)).toNat)), (2, 49)]) (g' := g) rfl ?_
        refine wp_cv (as := [(2, 49), (0, (g 50 ((c - 10000)).toNat))]) (rest := []) rfl rfl rfl (Nat.le_of_ble_eq_true rfl) rfl (e_mpush (st := st) (by assumption) (by assumption) (by omega)) (by decide) (fun r13 h14 => ?_)
        obtain ⟨g48, rfl, hS48, hh48, hE48⟩ := h14
        refine wp_eq (L' := [(2, 49), (0, c), (0, (c - 10000))]) (st' := []) (g' := g48) ?_
        refine wp_n 1 (pc' := 164) (L' := [(2, 49), (0, c), (0, (c - 10000))]) (st' := []) (g' := g48) rfl ?_
        exact wp_ret rfl rfl rfl ⟨_, rfl, by rw [stp_name (by omega) (by omega)]; exact hS48, by rw [stp_name (by omega) (by omega)]; exact hh48, hE48⟩
  · refine wp_n 2 (pc' := 9) (L' := [(2, 49), (0, c), (9, 0)]) (st' := [(0, c), (2, 49)]) (g' := g) rfl ?_
    refine wp_cv (as := [(2, 49), (0, c)]) (rest := []) rfl rfl rfl (Nat.le_of_ble_eq_true rfl) rfl (e_mpush (st := st) (by assumption) (by assumption) (by omega)) (by decide) (fun r15 h16 => ?_)
    obtain ⟨g9, rfl, hS9, hh9, hE9⟩ := h16
    refine wp_eq (L' := [(2, 49), (0, c), (9, 0)]) (st' := []) (g' := g9) ?_
    refine wp_n 1 (pc' := 164) (L' := [(2, 49), (0, c), (9, 0)]) (st' := []) (g' := g9) rfl ?_
    exact wp_ret rfl rfl rfl ⟨_, rfl, by rw [stp_num (by omega)]; exact hS9, by rw [stp_num (by omega)]; exact hh9, hE9⟩
