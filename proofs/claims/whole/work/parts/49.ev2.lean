/-! TEXTS WORKED OUT: a clause by the class's machine, and by the reference -/
/-- the texts of the class (d 0) or of its image (d 23) -/
def TxC (d : Nat) (g : am_G) (t k : Nat) : Prop := g (8 + d) (4 * t + k) = -1 ∨ ∃ a n : Nat, g (8 + d) (4 * t + k) = (a : Int) ∧ g (9 + d) (4 * t + k) = ((a + n : Nat) : Int) ∧ 300 * t ≤ a ∧ a + n ≤ 300 * t + 300 ∧ ClW k (g (7 + d)) a n
def TxW (d : Nat) (g : am_G) : Prop := (0 ≤ g (6 + d) 3 ∧ g (6 + d) 3 ≤ 6) ∧ (-1 ≤ g (6 + d) 4 ∧ g (6 + d) 4 < g (6 + d) 3) ∧ ∀ t k : Nat, (t : Int) < g (6 + d) 3 → k < 4 → TxC d g t k
theorem TxW.at {g : am_G} (h : TxW 0 g) {t k : Nat} (ht : (t : Int) < g 6 3) (hk : k < 4) : g 8 (4 * t + k) = -1 ∨ ∃ a n : Nat, g 8 (4 * t + k) = (a : Int) ∧ g 9 (4 * t + k) = ((a + n : Nat) : Int) ∧ 300 * t ≤ a ∧ a + n ≤ 300 * t + 300 ∧ ClW k (g 7) a n := h.2.2 t k ht hk
theorem TxW.n0 {g : am_G} (h : TxW 0 g) : 0 ≤ g 6 3 ∧ g 6 3 ≤ 6 := h.1
theorem TxW.law {g : am_G} (h : TxW 0 g) : -1 ≤ g 6 4 ∧ g 6 4 < g 6 3 := h.2.1
/-- the value of clause k of text t -/
def tv (g : am_G) (N : Nat → Int) (t : Int) (k : Nat) (w : Int) : Int := if t < 0 then w else wv (g 7) (g 8 (4 * t.toNat + k)) (g 9 (4 * t.toNat + k)) N w
theorem tv_neg {g : am_G} {N : Nat → Int} {k : Nat} {w : Int} : tv g N (-1) k w = w := rfl
theorem tv_no {g : am_G} {N : Nat → Int} {t k : Nat} {w : Int} (h : g 8 (4 * t + k) = -1) : tv g N (t : Int) k w = w := by
  unfold tv wv
  rw [if_neg (by omega), Int.toNat_natCast, if_pos h]
theorem tv_ev {g : am_G} {N : Nat → Int} {t k a n : Nat} {w v : Int} (h : g 8 (4 * t + k) = (a : Int)) (h2 : g 9 (4 * t + k) = ((a + n : Nat) : Int)) (hv : evl (g 7) N a n = [v]) : tv g N (t : Int) k w = v := by
  unfold tv wv
  rw [if_neg (by omega), Int.toNat_natCast, h, h2, if_neg (by omega), Int.toNat_natCast, show (((a + n : Nat) : Int) - (a : Int)).toNat = n by omega, hv]
  rfl
set_option maxHeartbeats 400000 in
set_option maxRecDepth 20000 in
theorem e_has {sn : Nat} {sx : Nat → Int} {b : Nat} {g : am_G} {t k : Nat} (hT : TxW 0 g) (ht : (t : Int) < g 6 3) (hk : k < 4) : Ev sn sx 2 79 [(2, 6), (0, ((t : Nat) : Int)), (0, ((k : Nat) : Int))] (SH b) g (fun r => Is1 r (SH b) g (g 8 (4 * t + k) ≠ -1)) := by
  have hc := hT.n0
  have ha := hT.at ht hk
  have hr : -1 ≤ g 8 (4 * t + k) ∧ g 8 (4 * t + k) ≤ 1800 := by
    rcases ha with e | ⟨a, n, e, e2, e3, e4, -⟩ <;> omega
  refine ev_of (K := 1) T79 (by decide) rfl rfl (Nat.le_of_ble_eq_true rfl) ?_
  refine wp_eq (L' := [(2, 6), (0, ((t : Nat) : Int)), (0, ((k : Nat) : Int))]) (st' := []) (g' := g) ?_
  refine wp_n 6 (pc' := 8) (L' := [(2, 6), (0, ((t : Nat) : Int)), (0, ((k : Nat) : Int))]) (st' := [(0, ((g 6 3) - 1)), (0, 0), (0, ((t : Nat) : Int))]) (g' := g) rfl ?_
  refine wp_cs (as := [(0, ((t : Nat) : Int)), (0, 0), (0, ((g 6 3) - 1))]) (rest := []) rfl (by decide) rfl (Nat.le_of_ble_eq_true rfl) (e_within (by omega) (by omega) (by omega)) (by decide) (fun r2 h3 => ?_)
  rcases h3 with ⟨rfl, p1⟩ | ⟨rfl, p1⟩
  · refine wp_eq (L' := [(2, 6), (0, ((t : Nat) : Int)), (0, ((k : Nat) : Int))]) (st' := [(0, 1)]) (g' := g) ?_
    refine wp_n 8 (pc' := 23) (L' := [(2, 6), (0, ((t : Nat) : Int)), (0, ((k : Nat) : Int))]) (st' := [(0, ((((t : Nat) : Int) * 4) + ((k : Nat) : Int))), (2, 8)]) (g' := g) rfl ?_
    refine wp_iald (k := 8) ((4 * t + k)) rfl rfl (by omega) (by omega) (by decide) ?_
    refine wp_n 1 (pc' := 25) (L' := [(2, 6), (0, ((t : Nat) : Int)), (0, ((k : Nat) : Int))]) (st' := [(0, (-1)), (0, (g 8 (4 * t + k)))]) (g' := g) rfl ?_
    refine wp_ic_eq rfl (fun c4 => ?_) (fun c4 => ?_)
    · refine wp_n 1 (pc' := 33) (L' := [(2, 6), (0, ((t : Nat) : Int)), (0, ((k : Nat) : Int))]) (st' := [(0, 0)]) (g' := g) rfl ?_
      exact wp_ret rfl rfl rfl (Or.inr ⟨rfl, (by omega)⟩)
    · refine wp_n 2 (pc' := 33) (L' := [(2, 6), (0, ((t : Nat) : Int)), (0, ((k : Nat) : Int))]) (st' := [(0, 1)]) (g' := g) rfl ?_
      exact wp_ret rfl rfl rfl (Or.inl ⟨rfl, (by omega)⟩)
  · exfalso; omega
set_option maxHeartbeats 400000 in
set_option maxRecDepth 20000 in
theorem e_hasN {sn : Nat} {sx : Nat → Int} {b : Nat} {g : am_G} {k : Nat} (hT : TxW 0 g) : Ev sn sx 2 79 [(2, 6), (0, (-1)), (0, ((k : Nat) : Int))] (SH b) g (fun r => r = (some (0, 0), SH b, g)) := by
  have hc := hT.n0
  refine ev_of (K := 1) T79 (by decide) rfl rfl (Nat.le_of_ble_eq_true rfl) ?_
  refine wp_eq (L' := [(2, 6), (0, (-1)), (0, ((k : Nat) : Int))]) (st' := []) (g' := g) ?_
  refine wp_n 6 (pc' := 8) (L' := [(2, 6), (0, (-1)), (0, ((k : Nat) : Int))]) (st' := [(0, ((g 6 3) - 1)), (0, 0), (0, (-1))]) (g' := g) rfl ?_
  refine wp_cs (as := [(0, (-1)), (0, 0), (0, ((g 6 3) - 1))]) (rest := []) rfl (by decide) rfl (Nat.le_of_ble_eq_true rfl) (e_within (by omega) (by omega) (by omega)) (by decide) (fun r2 h3 => ?_)
  rcases h3 with ⟨rfl, p1⟩ | ⟨rfl, p1⟩
  · exfalso; omega
  · refine wp_eq (L' := [(2, 6), (0, (-1)), (0, ((k : Nat) : Int))]) (st' := [(0, 0)]) (g' := g) ?_
    refine wp_n 2 (pc' := 33) (L' := [(2, 6), (0, (-1)), (0, ((k : Nat) : Int))]) (st' := [(0, 0)]) (g' := g) rfl ?_
    exact wp_ret rfl rfl rfl rfl
set_option maxHeartbeats 400000 in
set_option maxRecDepth 20000 in
theorem e_workT {sn : Nat} {sx : Nat → Int} {b : Nat} {g : am_G} {t k : Nat} {w : Int} (hT : TxW 0 g) (ht : (t : Int) < g 6 3) (hk : k < 4) (hN : NB k (g 50)) : Ev sn sx 5 38 [(2, 49), (2, 6), (0, ((t : Nat) : Int)), (0, ((k : Nat) : Int)), (0, w)] (SH b) g (fun r => ∃ g', r = (some (0, tv g (g 50) (t : Int) k w), SH b, g') ∧ FrE g g') := by
  have hcc := hT.n0
  refine ev_of (K := 4) T38 (by decide) rfl rfl (Nat.le_of_ble_eq_true rfl) ?_
  refine wp_eq (L' := [(2, 49), (2, 6), (0, ((t : Nat) : Int)), (0, ((k : Nat) : Int)), (0, w), (9, 0), (9, 0)]) (st' := []) (g' := g) ?_
  refine wp_n 3 (pc' := 3) (L' := [(2, 49), (2, 6), (0, ((t : Nat) : Int)), (0, ((k : Nat) : Int)), (0, w), (9, 0), (9, 0)]) (st' := [(0, ((k : Nat) : Int)), (0, ((t : Nat) : Int)), (2, 6)]) (g' := g) rfl ?_
  refine wp_cv (as := [(2, 6), (0, ((t : Nat) : Int)), (0, ((k : Nat) : Int))]) (rest := []) rfl rfl rfl (Nat.le_of_ble_eq_true rfl) rfl (e_has (t := t) (k := k) hT ht hk) (by decide) (fun r1 h2 => ?_)
  rcases h2 with ⟨rfl, p3⟩ | ⟨rfl, p3⟩
  · obtain ⟨a, n, x1, x2, x3, x4, hW⟩ := (hT.at ht hk).resolve_left p3
    have hn1 := hW.1
    refine wp_eq (L' := [(2, 49), (2, 6), (0, ((t : Nat) : Int)), (0, ((k : Nat) : Int)), (0, w), (9, 0), (9, 0)]) (st' := [(0, 1)]) (g' := g) ?_
    refine wp_n 8 (pc' := 21) (L' := [(2, 49), (2, 6), (0, ((t : Nat) : Int)), (0, ((k : Nat) : Int)), (0, w), (9, 0), (9, 0)]) (st' := [(0, ((((t : Nat) : Int) * 4) + ((k : Nat) : Int))), (2, 9)]) (g' := g) rfl ?_
    refine wp_iald (k := 9) ((4 * t + k)) rfl rfl (by omega) (by omega) (by decide) ?_
    refine wp_eq (L' := [(2, 49), (2, 6), (0, ((t : Nat) : Int)), (0, ((k : Nat) : Int)), (0, w), (9, 0), (9, 0)]) (st' := [(0, (((a + n) : Nat) : Int))]) (g' := g) ?_ (by rfl) (by rw [x2]) (by rfl)
    refine wp_n 3 (pc' := 27) (L' := [(2, 49), (2, 6), (0, ((t : Nat) : Int)), (0, ((k : Nat) : Int)), (0, w), (9, 0), (9, 0)]) (st' := [(0, 1800), (0, (((a + n) : Nat) : Int))]) (g' := g) rfl ?_
    refine wp_cs (as := [(0, (((a + n) : Nat) : Int)), (0, 1800)]) (rest := []) rfl (by decide) rfl (Nat.le_of_ble_eq_true rfl) (e_min (by omega) (by omega)) (by decide) (fun r3 h4 => ?_)
    obtain rfl := h4
    refine wp_eq (L' := [(2, 49), (2, 6), (0, ((t : Nat) : Int)), (0, ((k : Nat) : Int)), (0, w), (9, 0), (9, 0)]) (st' := [(0, (if 1800 < (((a + n) : Nat) : Int) then 1800 else (((a + n) : Nat) : Int)))]) (g' := g) ?_
    refine wp_eq (L' := [(2, 49), (2, 6), (0, ((t : Nat) : Int)), (0, ((k : Nat) : Int)), (0, w), (9, 0), (9, 0)]) (st' := [(0, (((a + n) : Nat) : Int))]) (g' := g) ?_ (by rfl) (by rw [if_neg (by omega)]) (by rfl)
    refine wp_n 11 (pc' := 46) (L' := [(2, 49), (2, 6), (0, ((t : Nat) : Int)), (0, ((k : Nat) : Int)), (0, w), (0, (((a + n) : Nat) : Int)), (9, 0)]) (st' := [(0, ((((t : Nat) : Int) * 4) + ((k : Nat) : Int))), (2, 8)]) (g' := (am_up g 49 2 0)) rfl ?_
    refine wp_iald (k := 8) ((4 * t + k)) rfl rfl (by omega) (by omega) (by decide) ?_
    refine wp_eq (L' := [(2, 49), (2, 6), (0, ((t : Nat) : Int)), (0, ((k : Nat) : Int)), (0, w), (0, (((a + n) : Nat) : Int)), (9, 0)]) (st' := [(0, ((a : Nat) : Int))]) (g' := (am_up g 49 2 0)) ?_ (by rfl) (by rw [up_ne (by decide), x1]) (by rfl)
    refine wp_n 1 (pc' := 49) (L' := [(2, 49), (2, 6), (0, ((t : Nat) : Int)), (0, ((k : Nat) : Int)), (0, w), (0, (((a + n) : Nat) : Int)), (0, ((a : Nat) : Int))]) (st' := []) (g' := (am_up g 49 2 0)) rfl ?_
    have L49 : ∀ (lf : Nat) (m : Nat) (h : am_G), n - m < lf → (m ≤ n) → (SRl (h 51) (evl (g 7) (g 50) a m)) → (h 49 2 = ((evl (g 7) (g 50) a m).length : Int)) → (FrE g h) → Wp sn sx 4 T38 49 [(2, 49), (2, 6), (0, ((t : Nat) : Int)), (0, ((k : Nat) : Int)), (0, w), (0, (((a + n) : Nat) : Int)), (0, (((a + m) : Nat) : Int))] [] (SH b) h (fun r => ∃ g', r = (some (0, tv g (g 50) (t : Int) k w), SH b, g') ∧ FrE g g') := by
      intro lf
      induction lf with
      | zero => intro m h hlf; exact absurd hlf (Nat.not_lt_zero _)
      | succ lf ih49 =>
        intro m h hlf hm hS hh hE
        have hl := evl_len (N := g 50) hW m hm
        refine wp_n 2 (pc' := 53) (L' := [(2, 49), (2, 6), (0, ((t : Nat) : Int)), (0, ((k : Nat) : Int)), (0, w), (0, (((a + n) : Nat) : Int)), (0, (((a + m) : Nat) : Int))]) (st' := [(0, (((a + n) : Nat) : Int)), (0, (((a + m) : Nat) : Int))]) (g' := h) rfl ?_
        refine wp_ic_ge rfl (fun c5 => ?_) (fun c5 => ?_)
        · have hmn2 : m = n := by omega
          obtain ⟨v, hv⟩ := evl_top (N := g 50) hW
          rw [hmn2, hv] at hS hh
          have hv0 : h 51 0 = v := hS.1
          have hh1 : h 49 2 = 1 := hh
          refine wp_n 2 (pc' := 77) (L' := [(2, 49), (2, 6), (0, ((t : Nat) : Int)), (0, ((k : Nat) : Int)), (0, w), (0, (((a + n) : Nat) : Int)), (0, (((a + m) : Nat) : Int))]) (st' := [(0, (h 49 2))]) (g' := h) rfl ?_
          refine wp_if_le rfl (fun c6 => ?_) (fun c6 => ?_)
          · exfalso; omega
          · refine wp_n 3 (pc' := 85) (L' := [(2, 49), (2, 6), (0, ((t : Nat) : Int)), (0, ((k : Nat) : Int)), (0, w), (0, (((a + n) : Nat) : Int)), (0, (((a + m) : Nat) : Int))]) (st' := [(0, 0), (2, 51)]) (g' := h) rfl ?_
            refine wp_iald (k := 51) (0) rfl rfl (by omega) (by omega) (by decide) ?_
            refine wp_n 1 (pc' := 91) (L' := [(2, 49), (2, 6), (0, ((t : Nat) : Int)), (0, ((k : Nat) : Int)), (0, w), (0, (((a + n) : Nat) : Int)), (0, (((a + m) : Nat) : Int))]) (st' := [(0, (h 51 0))]) (g' := h) rfl ?_
            exact wp_ret rfl rfl rfl ⟨_, by rw [tv_ev x1 x2 hv, hv0], hE⟩
        · have hN5 : h 50 = g 50 := funext fun j => hE 50 j (by decide) (Or.inl (by decide))
          have h7 : h 7 = g 7 := funext fun j => hE 7 j (by decide) (Or.inl (by decide))
          have hmn : m < n := by omega
          have hci := hW.2.1 m hmn
          have hnd := evl_needs (N := g 50) hW m hmn
          have hlb := evl_lb hW hN m hm
          have hhl := hW.2.2.1 m hm
          refine wp_n 4 (pc' := 63) (L' := [(2, 49), (2, 6), (0, ((t : Nat) : Int)), (0, ((k : Nat) : Int)), (0, w), (0, (((a + n) : Nat) : Int)), (0, (((a + m) : Nat) : Int))]) (st' := [(0, (((a + m) : Nat) : Int)), (2, 7), (2, 49)]) (g' := h) rfl ?_
          refine wp_iald (k := 7) ((a + m)) rfl rfl (by omega) (by omega) (by decide) ?_
          refine wp_eq (L' := [(2, 49), (2, 6), (0, ((t : Nat) : Int)), (0, ((k : Nat) : Int)), (0, w), (0, (((a + n) : Nat) : Int)), (0, (((a + m) : Nat) : Int))]) (st' := [(0, (g 7 (a + m))), (2, 49)]) (g' := h) ?_ (by rfl) (by rw [h7]) (by rfl)
          refine wp_cv (as := [(2, 49), (0, (g 7 (a + m)))]) (rest := []) rfl rfl rfl (Nat.le_of_ble_eq_true rfl) rfl (e_step (k := k) (st := (evl (g 7) (g 50) a m)) hS hh (by omega) hci.1 hnd hlb) (by decide) (fun r7 h8 => ?_)
          obtain ⟨g64, rfl, hS64, hh64, hE64⟩ := h8
          rw [hN5] at hS64 hh64
          refine wp_eq (L' := [(2, 49), (2, 6), (0, ((t : Nat) : Int)), (0, ((k : Nat) : Int)), (0, w), (0, (((a + n) : Nat) : Int)), (0, (((a + m) : Nat) : Int))]) (st' := []) (g' := g64) ?_
          refine wp_n 2 (pc' := 49) (L' := [(2, 49), (2, 6), (0, ((t : Nat) : Int)), (0, ((k : Nat) : Int)), (0, w), (0, (((a + n) : Nat) : Int)), (0, ((((a + m) : Nat) : Int) + 1))]) (st' := []) (g' := g64) rfl ?_
          refine wp_eq (ih49 (m + 1) (g64) ?_ ?_ ?_ ?_ ?_) (by first | rfl | (simp; done) | (simp; omega)) (by rfl) (by rfl)
          · omega
          · omega
          · rw [evl_s]; exact hS64
          · rw [evl_s]; exact hh64
          · exact fun c j h1 h2 => (hE64 c j h1 h2).trans (hE c j h1 h2)
    refine wp_eq (L49 (_ + 1) (0) ((am_up g 49 2 0)) (Nat.lt_succ_self _) ?_ ?_ ?_ ?_) (by first | rfl | (simp; done) | (simp; omega)) (by rfl) (by rfl)
    · exact Nat.zero_le _
    · exact True.intro
    · exact up_eq
    · intro c j h1 h2
      by_cases e : c = 49
      · subst e; rcases h2 with h2 | h2
        · exact absurd rfl h2
        · exact up_nj h2
      · exact up_ne e
  · refine wp_eq (L' := [(2, 49), (2, 6), (0, ((t : Nat) : Int)), (0, ((k : Nat) : Int)), (0, w), (9, 0), (9, 0)]) (st' := [(0, 0)]) (g' := g) ?_
    refine wp_n 2 (pc' := 11) (L' := [(2, 49), (2, 6), (0, ((t : Nat) : Int)), (0, ((k : Nat) : Int)), (0, w), (9, 0), (9, 0)]) (st' := [(0, w)]) (g' := g) rfl ?_
    exact wp_ret rfl rfl rfl ⟨_, by rw [tv_no (by omega)], fun _ _ _ _ => rfl⟩
set_option maxHeartbeats 400000 in
set_option maxRecDepth 20000 in
theorem e_workN {sn : Nat} {sx : Nat → Int} {b : Nat} {g : am_G} {k : Nat} {w : Int} (hT : TxW 0 g) : Ev sn sx 5 38 [(2, 49), (2, 6), (0, (-1)), (0, ((k : Nat) : Int)), (0, w)] (SH b) g (fun r => ∃ g', r = (some (0, tv g (g 50) (-1) k w), SH b, g') ∧ FrE g g') := by
  refine ev_of (K := 4) T38 (by decide) rfl rfl (Nat.le_of_ble_eq_true rfl) ?_
  refine wp_eq (L' := [(2, 49), (2, 6), (0, (-1)), (0, ((k : Nat) : Int)), (0, w), (9, 0), (9, 0)]) (st' := []) (g' := g) ?_
  refine wp_n 3 (pc' := 3) (L' := [(2, 49), (2, 6), (0, (-1)), (0, ((k : Nat) : Int)), (0, w), (9, 0), (9, 0)]) (st' := [(0, ((k : Nat) : Int)), (0, (-1)), (2, 6)]) (g' := g) rfl ?_
  refine wp_cv (as := [(2, 6), (0, (-1)), (0, ((k : Nat) : Int))]) (rest := []) rfl rfl rfl (Nat.le_of_ble_eq_true rfl) rfl (e_hasN (k := k) hT) (by decide) (fun r1 h2 => ?_)
  obtain rfl := h2
  refine wp_eq (L' := [(2, 49), (2, 6), (0, (-1)), (0, ((k : Nat) : Int)), (0, w), (9, 0), (9, 0)]) (st' := [(0, 0)]) (g' := g) ?_
  refine wp_n 2 (pc' := 11) (L' := [(2, 49), (2, 6), (0, (-1)), (0, ((k : Nat) : Int)), (0, w), (9, 0), (9, 0)]) (st' := [(0, w)]) (g' := g) rfl ?_
  exact wp_ret rfl rfl rfl ⟨_, by rw [tv_neg], fun _ _ _ _ => rfl⟩
theorem e_work {sn : Nat} {sx : Nat → Int} {b : Nat} {g : am_G} {t : Int} {k : Nat} {w : Int} (hT : TxW 0 g) (ht : -1 ≤ t ∧ t < g 6 3) (hk : k < 4) (hN : NB k (g 50)) : Ev sn sx 5 38 [(2, 49), (2, 6), (0, t), (0, ((k : Nat) : Int)), (0, w)] (SH b) g (fun r => ∃ g', r = (some (0, tv g (g 50) t k w), SH b, g') ∧ FrE g g') := by
  by_cases h : t = -1
  · subst h
    exact e_workN hT
  · obtain ⟨q, rfl⟩ : ∃ q : Nat, t = (q : Int) := ⟨t.toNat, by omega⟩
    exact e_workT hT ht.2 hk hN
set_option maxHeartbeats 400000 in
set_option maxRecDepth 20000 in
theorem m_held {sn : Nat} {sx : Nat → Int} {g : am_G} {sh : am_Sh} {x : Int} (hx : -9223372036854775808 ≤ x ∧ x < 9223372036854775808) : Ev sn sx 1 189 [(1, x)] sh g (fun r => r = (some (1, lim x), sh, g)) := by
  refine ev_of (K := 0) T189 (by decide) rfl rfl (Nat.le_of_ble_eq_true rfl) ?_
  refine wp_eq (L' := [(1, x), (9, 0)]) (st' := []) (g' := g) ?_
  refine wp_n 2 (pc' := 4) (L' := [(1, x), (9, 0)]) (st' := [(1, 1000000), (1, x)]) (g' := g) rfl ?_
  refine wp_lc_le rfl rfl (by omega) (by omega) (fun c1 => ?_) (fun c1 => ?_)
  · refine wp_n 2 (pc' := 18) (L' := [(1, x), (9, 0)]) (st' := [(1, (-1000000)), (1, x)]) (g' := g) rfl ?_
    refine wp_lc_ge rfl rfl (by omega) (by omega) (fun c2 => ?_) (fun c2 => ?_)
    · refine wp_n 1 (pc' := 29) (L' := [(1, x), (9, 0)]) (st' := [(1, x)]) (g' := g) rfl ?_
      exact wp_ret rfl rfl rfl (by unfold lim; rw [if_neg (by omega), if_neg (by omega)])
    · refine wp_n 2 (pc' := 29) (L' := [(1, x), (9, 0)]) (st' := [(1, (-1000000))]) (g' := g) rfl ?_
      exact wp_ret rfl rfl rfl (by unfold lim; rw [if_pos (by omega)])
  · refine wp_n 2 (pc' := 29) (L' := [(1, x), (9, 0)]) (st' := [(1, 1000000)]) (g' := g) rfl ?_
    exact wp_ret rfl rfl rfl (by unfold lim; rw [if_neg (by omega), if_pos (by omega)])
set_option maxHeartbeats 400000 in
set_option maxRecDepth 20000 in
theorem m_two {sn : Nat} {sx : Nat → Int} {g : am_G} {sh : am_Sh} {o c x y : Int} (hc : 20000 ≤ c ∧ c ≤ 20005) (ho : o = c - 19997) (hx : MB x) (hy : MB y) : Ev sn sx 2 190 [(0, o), (1, x), (1, y)] sh g (fun r => r = (some (1, opv c x y), sh, g)) := by
  unfold MB at hx hy
  have hm := mb_mul hx hy
  refine ev_of (K := 1) T190 (by decide) rfl rfl (Nat.le_of_ble_eq_true rfl) ?_
  refine wp_eq (L' := [(0, o), (1, x), (9, 0), (1, y), (9, 0)]) (st' := []) (g' := g) ?_
  refine wp_n 1 (pc' := 1) (L' := [(0, o), (1, x), (9, 0), (1, y), (9, 0)]) (st' := [(0, o)]) (g' := g) rfl ?_
  rcases (show o = 3 ∨ o = 4 ∨ o = 5 ∨ o = 6 ∨ o = 7 ∨ (o < 3 ∨ 7 < o) by omega) with e1 | e1 | e1 | e1 | e1 | e1
  · refine wp_eq (L' := [(0, o), (1, x), (9, 0), (1, y), (9, 0)]) (st' := [(0, 3)]) (g' := g) ?_ (by rfl) (by rw [e1]) (by rfl)
    refine wp_n 4 (pc' := 39) (L' := [(0, o), (1, x), (9, 0), (1, y), (9, 0)]) (st' := [(1, (x + y))]) (g' := g) rfl ?_
    refine wp_cs (as := [(1, (x + y))]) (rest := []) rfl (by decide) rfl (Nat.le_of_ble_eq_true rfl) (m_held (by omega)) (by decide) (fun r2 h3 => ?_)
    obtain rfl := h3
    refine wp_eq (L' := [(0, o), (1, x), (9, 0), (1, y), (9, 0)]) (st' := [(1, (lim (x + y)))]) (g' := g) ?_
    exact wp_ret rfl rfl rfl (by rw [show c = 20000 by omega, opv_0])
  · refine wp_eq (L' := [(0, o), (1, x), (9, 0), (1, y), (9, 0)]) (st' := [(0, 4)]) (g' := g) ?_ (by rfl) (by rw [e1]) (by rfl)
    refine wp_n 4 (pc' := 46) (L' := [(0, o), (1, x), (9, 0), (1, y), (9, 0)]) (st' := [(1, (x - y))]) (g' := g) rfl ?_
    refine wp_cs (as := [(1, (x - y))]) (rest := []) rfl (by decide) rfl (Nat.le_of_ble_eq_true rfl) (m_held (by omega)) (by decide) (fun r4 h5 => ?_)
    obtain rfl := h5
    refine wp_eq (L' := [(0, o), (1, x), (9, 0), (1, y), (9, 0)]) (st' := [(1, (lim (x - y)))]) (g' := g) ?_
    exact wp_ret rfl rfl rfl (by rw [show c = 20001 by omega, opv_1])
  · refine wp_eq (L' := [(0, o), (1, x), (9, 0), (1, y), (9, 0)]) (st' := [(0, 5)]) (g' := g) ?_ (by rfl) (by rw [e1]) (by rfl)
    refine wp_n 4 (pc' := 53) (L' := [(0, o), (1, x), (9, 0), (1, y), (9, 0)]) (st' := [(1, (x * y))]) (g' := g) rfl ?_
    refine wp_cs (as := [(1, (x * y))]) (rest := []) rfl (by decide) rfl (Nat.le_of_ble_eq_true rfl) (m_held (by omega)) (by decide) (fun r6 h7 => ?_)
    obtain rfl := h7
    refine wp_eq (L' := [(0, o), (1, x), (9, 0), (1, y), (9, 0)]) (st' := [(1, (lim (x * y)))]) (g' := g) ?_
    exact wp_ret rfl rfl rfl (by rw [show c = 20002 by omega, opv_2])
  · refine wp_eq (L' := [(0, o), (1, x), (9, 0), (1, y), (9, 0)]) (st' := [(0, 6)]) (g' := g) ?_ (by rfl) (by rw [e1]) (by rfl)
    refine wp_n 3 (pc' := 59) (L' := [(0, o), (1, x), (9, 0), (1, y), (9, 0)]) (st' := [(1, 0), (1, y)]) (g' := g) rfl ?_
    refine wp_lc_ne rfl rfl (by omega) (by omega) (fun c8 => ?_) (fun c8 => ?_)
    · refine wp_n 2 (pc' := 69) (L' := [(0, o), (1, x), (9, 0), (1, y), (9, 0)]) (st' := [(1, y), (1, x)]) (g' := g) rfl ?_
      refine wp_ldiv rfl (by omega) (by omega) (by omega) ?_
      exact wp_ret rfl rfl rfl (by rw [show c = 20003 by omega, opv_3, if_neg (by omega)])
    · refine wp_n 2 (pc' := 70) (L' := [(0, o), (1, x), (9, 0), (1, y), (9, 0)]) (st' := [(1, 0)]) (g' := g) rfl ?_
      exact wp_ret rfl rfl rfl (by rw [show c = 20003 by omega, opv_3, if_pos (by omega)])
  · refine wp_eq (L' := [(0, o), (1, x), (9, 0), (1, y), (9, 0)]) (st' := [(0, 7)]) (g' := g) ?_ (by rfl) (by rw [e1]) (by rfl)
    refine wp_n 3 (pc' := 73) (L' := [(0, o), (1, x), (9, 0), (1, y), (9, 0)]) (st' := [(1, y), (1, x)]) (g' := g) rfl ?_
    refine wp_lc_ge rfl rfl (by omega) (by omega) (fun c9 => ?_) (fun c9 => ?_)
    · refine wp_n 1 (pc' := 82) (L' := [(0, o), (1, x), (9, 0), (1, y), (9, 0)]) (st' := [(1, y)]) (g' := g) rfl ?_
      exact wp_ret rfl rfl rfl (by rw [show c = 20004 by omega, opv_4]; by_cases e : y < x
                                   · first | (rw [if_pos e]; done) | exact absurd e (by omega)
                                   · first | (rw [if_neg e]; done) | (rw [if_neg e, show x = y by omega]; done) | exact absurd e (by omega))
    · refine wp_n 2 (pc' := 82) (L' := [(0, o), (1, x), (9, 0), (1, y), (9, 0)]) (st' := [(1, x)]) (g' := g) rfl ?_
      exact wp_ret rfl rfl rfl (by rw [show c = 20004 by omega, opv_4]; by_cases e : y < x
                                   · first | (rw [if_pos e]; done) | exact absurd e (by omega)
                                   · first | (rw [if_neg e]; done) | (rw [if_neg e, show x = y by omega]; done) | exact absurd e (by omega))
  · refine wp_swd (a' := 83) rfl (by omega) e1 rfl ?_
    refine wp_n 2 (pc' := 85) (L' := [(0, o), (1, x), (9, 0), (1, y), (9, 0)]) (st' := [(1, y), (1, x)]) (g' := g) rfl ?_
    refine wp_lc_le rfl rfl (by omega) (by omega) (fun c10 => ?_) (fun c10 => ?_)
    · refine wp_n 1 (pc' := 94) (L' := [(0, o), (1, x), (9, 0), (1, y), (9, 0)]) (st' := [(1, y)]) (g' := g) rfl ?_
      exact wp_ret rfl rfl rfl (by rw [show c = 20005 by omega, opv_5]; by_cases e : x < y
                                   · first | (rw [if_pos e]; done) | exact absurd e (by omega)
                                   · first | (rw [if_neg e]; done) | (rw [if_neg e, show x = y by omega]; done) | exact absurd e (by omega))
    · refine wp_n 2 (pc' := 94) (L' := [(0, o), (1, x), (9, 0), (1, y), (9, 0)]) (st' := [(1, x)]) (g' := g) rfl ?_
      exact wp_ret rfl rfl rfl (by rw [show c = 20005 by omega, opv_5]; by_cases e : x < y
                                   · first | (rw [if_pos e]; done) | exact absurd e (by omega)
                                   · first | (rw [if_neg e]; done) | (rw [if_neg e, show x = y by omega]; done) | exact absurd e (by omega))
/-- a code of the class and one of the reference -/
def Cm (x o v : Int) : Prop := (0 ≤ x ∧ x < 10000 ∧ o = 0 ∧ v = x) ∨ (10000 ≤ x ∧ x < 20000 ∧ o = 1 ∧ v = x - 10000) ∨ (x = 20006 ∧ o = 2) ∨ (20000 ≤ x ∧ x ≤ 20005 ∧ o = x - 19997)
/-- the reference's texts (in g) are those of the class (in c) -/
def TRc (c g : am_G) (t k : Nat) : Prop := (c 8 (4 * t + k) = -1 ∧ g 130 (800 * t + 2 * k) = g 130 (800 * t + 1 + 2 * k)) ∨ ∃ a n : Nat, c 8 (4 * t + k) = (a : Int) ∧ c 9 (4 * t + k) = ((a + n : Nat) : Int) ∧ 300 * t ≤ a ∧ a + n ≤ 300 * t + 300 ∧ g 130 (800 * t + 2 * k) = ((a - 300 * t : Nat) : Int) ∧ g 130 (800 * t + 1 + 2 * k) = ((a - 300 * t + n : Nat) : Int) ∧ ∀ i, i < n → Cm (c 7 (a + i)) (g 130 (800 * t + 30 + 2 * (a - 300 * t + i))) (g 130 (800 * t + 30 + 2 * (a - 300 * t + i) + 1))
def TR (c g : am_G) : Prop := ∀ t k : Nat, (t : Int) < c 6 3 → k < 4 → TRc c g t k
theorem m_valueN {sn : Nat} {sx : Nat → Int} {b : Nat} {g c : am_G} {k : Nat} {w : Int} : Ev sn sx 3 191 [(2, 127), (0, -1), (0, ((k : Nat) : Int)), (0, w)] (SH b) g (fun r => ∃ g', r = (some (0, tv c (g 133) (-1) k w), SH b, g') ∧ FrA 134 g g') := by
  refine ev_of (K := 2) T191 (by decide) rfl rfl (Nat.le_of_ble_eq_true rfl) ?_
  refine wp_eq (L' := [(2, 127), (0, (-1)), (0, ((k : Nat) : Int)), (0, w), (9, 0), (9, 0), (9, 0), (9, 0), (9, 0), (9, 0), (9, 0)]) (st' := []) (g' := g) ?_
  refine wp_n 3 (pc' := 5) (L' := [(2, 127), (0, (-1)), (0, ((k : Nat) : Int)), (0, w), (9, 0), (9, 0), (9, 0), (9, 0), (9, 0), (9, 0), (9, 0)]) (st' := [(0, w)]) (g' := g) rfl ?_
  exact wp_ret rfl rfl rfl ⟨_, by rw [tv_neg], fun _ _ _ => rfl⟩
set_option maxHeartbeats 400000 in
set_option maxRecDepth 20000 in
theorem m_valueT {sn : Nat} {sx : Nat → Int} {b : Nat} {g : am_G} {c : am_G} {t k : Nat} {w : Int} (hT : TxW 0 c) (hR : TR c g) (ht : (t : Int) < c 6 3) (hk : k < 4) (hN : NB k (g 133)) : Ev sn sx 3 191 [(2, 127), (0, ((t : Nat) : Int)), (0, ((k : Nat) : Int)), (0, w)] (SH b) g (fun r => ∃ g', r = (some (0, tv c (g 133) (t : Int) k w), SH b, g') ∧ FrA 134 g g') := by
  have hcc := hT.n0
  have hrc := hR t k ht hk
  refine ev_of (K := 2) T191 (by decide) rfl rfl (Nat.le_of_ble_eq_true rfl) ?_
  refine wp_eq (L' := [(2, 127), (0, ((t : Nat) : Int)), (0, ((k : Nat) : Int)), (0, w), (9, 0), (9, 0), (9, 0), (9, 0), (9, 0), (9, 0), (9, 0)]) (st' := []) (g' := g) ?_
  refine wp_n 1 (pc' := 1) (L' := [(2, 127), (0, ((t : Nat) : Int)), (0, ((k : Nat) : Int)), (0, w), (9, 0), (9, 0), (9, 0), (9, 0), (9, 0), (9, 0), (9, 0)]) (st' := [(0, ((t : Nat) : Int))]) (g' := g) rfl ?_
  refine wp_if_ge rfl (fun c1 => ?_) (fun c1 => ?_)
  · refine wp_n 11 (pc' := 23) (L' := [(2, 127), (0, ((t : Nat) : Int)), (0, ((k : Nat) : Int)), (0, w), (0, (800 * ((t : Nat) : Int))), (9, 0), (9, 0), (9, 0), (9, 0), (9, 0), (9, 0)]) (st' := [(0, ((800 * ((t : Nat) : Int)) + (2 * ((k : Nat) : Int)))), (2, 130)]) (g' := g) rfl ?_
    refine wp_iald (k := 130) ((800 * t + 2 * k)) rfl rfl (by omega) (by omega) (by decide) ?_
    refine wp_n 10 (pc' := 38) (L' := [(2, 127), (0, ((t : Nat) : Int)), (0, ((k : Nat) : Int)), (0, w), (0, (800 * ((t : Nat) : Int))), (0, (g 130 (800 * t + 2 * k))), (9, 0), (9, 0), (9, 0), (9, 0), (9, 0)]) (st' := [(0, (((800 * ((t : Nat) : Int)) + 1) + (2 * ((k : Nat) : Int)))), (2, 130)]) (g' := g) rfl ?_
    refine wp_iald (k := 130) ((800 * t + 1 + 2 * k)) rfl rfl (by omega) (by omega) (by decide) ?_
    refine wp_n 3 (pc' := 45) (L' := [(2, 127), (0, ((t : Nat) : Int)), (0, ((k : Nat) : Int)), (0, w), (0, (800 * ((t : Nat) : Int))), (0, (g 130 (800 * t + 2 * k))), (0, (g 130 (800 * t + 1 + 2 * k))), (9, 0), (9, 0), (9, 0), (9, 0)]) (st' := [(0, (g 130 (800 * t + 1 + 2 * k))), (0, (g 130 (800 * t + 2 * k)))]) (g' := g) rfl ?_
    refine wp_ic_ne rfl (fun c2 => ?_) (fun c2 => ?_)
    · obtain ⟨a, n, e1, e2, e3, e4, e5, e6, e7⟩ := hrc.resolve_left (fun q => absurd q.2 (by omega))
      obtain ⟨a1, n1, q1, q2, q3, q4, hW⟩ := (hT.at ht hk).resolve_left (by omega)
      obtain rfl : a1 = a := by omega
      obtain rfl : n1 = n := by omega
      obtain ⟨f, hf⟩ : ∃ f, a1 - 300 * t = f := ⟨_, rfl⟩
      rw [hf] at e5 e6 e7
      refine wp_n 4 (pc' := 57) (L' := [(2, 127), (0, ((t : Nat) : Int)), (0, ((k : Nat) : Int)), (0, w), (0, (800 * ((t : Nat) : Int))), (0, (g 130 (800 * t + 2 * k))), (0, (g 130 (800 * t + 1 + 2 * k))), (0, 0), (0, (g 130 (800 * t + 2 * k))), (9, 0), (9, 0)]) (st' := []) (g' := g) rfl ?_
      have L57 : ∀ (lf : Nat) (m : Nat) (h : am_G) (w9 w10 : am_V), n1 - m < lf → (m ≤ n1) → (SRl (h 134) (evl (c 7) (g 133) a1 m)) → (FrA 134 g h) → Wp sn sx 2 T191 57 [(2, 127), (0, ((t : Nat) : Int)), (0, ((k : Nat) : Int)), (0, w), (0, (800 * (t : Int))), (0, ((f : Nat) : Int)), (0, (((f + n1) : Nat) : Int)), (0, (((evl (c 7) (g 133) a1 m).length : Nat) : Int)), (0, (((f + m) : Nat) : Int)), w9, w10] [] (SH b) h (fun r => ∃ g', r = (some (0, tv c (g 133) (t : Int) k w), SH b, g') ∧ FrA 134 g g') := by
        intro lf
        induction lf with
        | zero => intro m h w9 w10 hlf; exact absurd hlf (Nat.not_lt_zero _)
        | succ lf ih57 =>
          intro m h w9 w10 hlf hm hS hE
          have hl := evl_len (N := g 133) hW m hm
          refine wp_n 2 (pc' := 61) (L' := [(2, 127), (0, ((t : Nat) : Int)), (0, ((k : Nat) : Int)), (0, w), (0, (800 * (t : Int))), (0, ((f : Nat) : Int)), (0, (((f + n1) : Nat) : Int)), (0, (((evl (c 7) (g 133) a1 m).length : Nat) : Int)), (0, (((f + m) : Nat) : Int)), w9, w10]) (st' := [(0, (((f + n1) : Nat) : Int)), (0, (((f + m) : Nat) : Int))]) (g' := h) rfl ?_
          refine wp_ic_ge rfl (fun c3 => ?_) (fun c3 => ?_)
          · have hmn2 : m = n1 := by omega
            obtain ⟨v, hv⟩ := evl_top (N := g 133) hW
            rw [hmn2, hv] at hS
            have hv0 : h 134 0 = v := hS.1
            refine wp_n 3 (pc' := 210) (L' := [(2, 127), (0, ((t : Nat) : Int)), (0, ((k : Nat) : Int)), (0, w), (0, (800 * (t : Int))), (0, ((f : Nat) : Int)), (0, (((f + n1) : Nat) : Int)), (0, (((evl (c 7) (g 133) a1 m).length : Nat) : Int)), (0, (((f + m) : Nat) : Int)), w9, w10]) (st' := [(0, 0), (2, 134)]) (g' := h) rfl ?_
            refine wp_lald (k := 134) (0) rfl rfl (by omega) (by omega) (by decide) ?_
            refine wp_n 1 (pc' := 212) (L' := [(2, 127), (0, ((t : Nat) : Int)), (0, ((k : Nat) : Int)), (0, w), (0, (800 * (t : Int))), (0, ((f : Nat) : Int)), (0, (((f + n1) : Nat) : Int)), (0, (((evl (c 7) (g 133) a1 m).length : Nat) : Int)), (0, (((f + m) : Nat) : Int)), w9, w10]) (st' := [(0, (h 134 0))]) (g' := h) rfl ?_
            exact wp_ret rfl rfl rfl ⟨_, by rw [tv_ev e1 e2 hv, hv0], hE⟩
          · have hmn : m < n1 := by omega
            have hci := hW.2.1 m hmn
            have hnd := evl_needs (N := g 133) hW m hmn
            have hlb := evl_lb hW hN m hm
            have hhl := hW.2.2.1 m hm
            obtain ⟨o, ho⟩ : ∃ o, h 130 (800 * t + 30 + 2 * (f + m)) = o := ⟨_, rfl⟩
            obtain ⟨v, hv⟩ : ∃ v, h 130 (800 * t + 30 + 2 * (f + m) + 1) = v := ⟨_, rfl⟩
            have hcm := e7 m hmn
            rw [← hE 130 _ (by decide), ← hE 130 _ (by decide), ho, hv] at hcm
            obtain ⟨x, hx⟩ : ∃ x, c 7 (a1 + m) = x := ⟨_, rfl⟩
            rw [hx] at hcm hci hnd
            have hco := hci.1
            have hst : evl (c 7) (g 133) a1 (m + 1) = stp (g 133) x (evl (c 7) (g 133) a1 m) := by rw [evl_s, hx]
            unfold codeOk at hco
            unfold Cm at hcm
            unfold needs at hnd
            refine wp_n 9 (pc' := 78) (L' := [(2, 127), (0, ((t : Nat) : Int)), (0, ((k : Nat) : Int)), (0, w), (0, (800 * (t : Int))), (0, ((f : Nat) : Int)), (0, (((f + n1) : Nat) : Int)), (0, (((evl (c 7) (g 133) a1 m).length : Nat) : Int)), (0, (((f + m) : Nat) : Int)), w9, w10]) (st' := [(0, (((800 * (t : Int)) + 30) + (2 * (((f + m) : Nat) : Int)))), (2, 130)]) (g' := h) rfl ?_
            refine wp_iald (k := 130) ((800 * t + 30 + 2 * (f + m))) rfl rfl (by omega) (by omega) (by decide) ?_
            refine wp_eq (L' := [(2, 127), (0, ((t : Nat) : Int)), (0, ((k : Nat) : Int)), (0, w), (0, (800 * (t : Int))), (0, ((f : Nat) : Int)), (0, (((f + n1) : Nat) : Int)), (0, (((evl (c 7) (g 133) a1 m).length : Nat) : Int)), (0, (((f + m) : Nat) : Int)), w9, w10]) (st' := [(0, o)]) (g' := h) ?_ (by rfl) (by rw [ho]) (by rfl)
            refine wp_n 12 (pc' := 97) (L' := [(2, 127), (0, ((t : Nat) : Int)), (0, ((k : Nat) : Int)), (0, w), (0, (800 * (t : Int))), (0, ((f : Nat) : Int)), (0, (((f + n1) : Nat) : Int)), (0, (((evl (c 7) (g 133) a1 m).length : Nat) : Int)), (0, (((f + m) : Nat) : Int)), (0, o), w10]) (st' := [(0, ((((800 * (t : Int)) + 30) + (2 * (((f + m) : Nat) : Int))) + 1)), (2, 130)]) (g' := h) rfl ?_
            refine wp_iald (k := 130) ((800 * t + 30 + 2 * (f + m) + 1)) rfl rfl (by omega) (by omega) (by decide) ?_
            refine wp_eq (L' := [(2, 127), (0, ((t : Nat) : Int)), (0, ((k : Nat) : Int)), (0, w), (0, (800 * (t : Int))), (0, ((f : Nat) : Int)), (0, (((f + n1) : Nat) : Int)), (0, (((evl (c 7) (g 133) a1 m).length : Nat) : Int)), (0, (((f + m) : Nat) : Int)), (0, o), w10]) (st' := [(0, v)]) (g' := h) ?_ (by rfl) (by rw [hv]) (by rfl)
            refine wp_n 3 (pc' := 103) (L' := [(2, 127), (0, ((t : Nat) : Int)), (0, ((k : Nat) : Int)), (0, w), (0, (800 * (t : Int))), (0, ((f : Nat) : Int)), (0, (((f + n1) : Nat) : Int)), (0, (((evl (c 7) (g 133) a1 m).length : Nat) : Int)), (0, (((f + m) : Nat) : Int)), (0, o), (0, v)]) (st' := [(0, 1), (0, o)]) (g' := h) rfl ?_
            refine wp_ic_gt rfl (fun c4 => ?_) (fun c4 => ?_)
            · refine wp_n 2 (pc' := 141) (L' := [(2, 127), (0, ((t : Nat) : Int)), (0, ((k : Nat) : Int)), (0, w), (0, (800 * (t : Int))), (0, ((f : Nat) : Int)), (0, (((f + n1) : Nat) : Int)), (0, (((evl (c 7) (g 133) a1 m).length : Nat) : Int)), (0, (((f + m) : Nat) : Int)), (0, o), (0, v)]) (st' := [(0, 2), (0, o)]) (g' := h) rfl ?_
              refine wp_ic_ne rfl (fun c5 => ?_) (fun c5 => ?_)
              · obtain ⟨y, z, tl, hxt⟩ : ∃ y z tl, evl (c 7) (g 133) a1 m = y :: z :: tl := by
                  have hn2 := hnd.2 (by omega) (by omega)
                  match hq : evl (c 7) (g 133) a1 m with
                  | [] => rw [hq] at hn2; simp at hn2
                  | [y] => rw [hq] at hn2; simp at hn2
                  | y :: z :: tl => exact ⟨y, z, tl, rfl⟩
                rw [hxt, stp_op (by omega) (by omega)] at hst
                have hlen0 : (((evl (c 7) (g 133) a1 m).length : Nat) : Int) = (tl.length : Int) + 2 := by rw [hxt]; simp; omega
                have hlen : (((evl (c 7) (g 133) a1 (m + 1)).length : Nat) : Int) = (((evl (c 7) (g 133) a1 m).length : Nat) : Int) + (-1) := by rw [hlen0, hst]; simp; omega
                rw [hxt] at hS hlb
                have hs1 : h 134 (tl.length + 1) = y := hS.1
                have hs2 : h 134 tl.length = z := hS.2.1
                refine wp_n 12 (pc' := 187) (L' := [(2, 127), (0, ((t : Nat) : Int)), (0, ((k : Nat) : Int)), (0, w), (0, (800 * (t : Int))), (0, ((f : Nat) : Int)), (0, (((f + n1) : Nat) : Int)), (0, ((((evl (c 7) (g 133) a1 m).length : Nat) : Int) + (-1))), (0, (((f + m) : Nat) : Int)), (0, o), (0, v)]) (st' := [(0, (((((evl (c 7) (g 133) a1 m).length : Nat) : Int) + (-1)) - 1)), (2, 134), (0, o), (0, (((((evl (c 7) (g 133) a1 m).length : Nat) : Int) + (-1)) - 1)), (2, 134)]) (g' := h) rfl ?_
                refine wp_lald (k := 134) (tl.length) rfl rfl (by omega) (by omega) (by decide) ?_
                refine wp_eq (L' := [(2, 127), (0, ((t : Nat) : Int)), (0, ((k : Nat) : Int)), (0, w), (0, (800 * (t : Int))), (0, ((f : Nat) : Int)), (0, (((f + n1) : Nat) : Int)), (0, ((((evl (c 7) (g 133) a1 m).length : Nat) : Int) + (-1))), (0, (((f + m) : Nat) : Int)), (0, o), (0, v)]) (st' := [(1, z), (0, o), (0, (((((evl (c 7) (g 133) a1 m).length : Nat) : Int) + (-1)) - 1)), (2, 134)]) (g' := h) ?_ (by rfl) (by rw [hs2]) (by rfl)
                refine wp_n 3 (pc' := 194) (L' := [(2, 127), (0, ((t : Nat) : Int)), (0, ((k : Nat) : Int)), (0, w), (0, (800 * (t : Int))), (0, ((f : Nat) : Int)), (0, (((f + n1) : Nat) : Int)), (0, ((((evl (c 7) (g 133) a1 m).length : Nat) : Int) + (-1))), (0, (((f + m) : Nat) : Int)), (0, o), (0, v)]) (st' := [(0, ((((evl (c 7) (g 133) a1 m).length : Nat) : Int) + (-1))), (2, 134), (1, z), (0, o), (0, (((((evl (c 7) (g 133) a1 m).length : Nat) : Int) + (-1)) - 1)), (2, 134)]) (g' := h) rfl ?_
                refine wp_lald (k := 134) ((tl.length + 1)) rfl rfl (by omega) (by omega) (by decide) ?_
                refine wp_eq (L' := [(2, 127), (0, ((t : Nat) : Int)), (0, ((k : Nat) : Int)), (0, w), (0, (800 * (t : Int))), (0, ((f : Nat) : Int)), (0, (((f + n1) : Nat) : Int)), (0, ((((evl (c 7) (g 133) a1 m).length : Nat) : Int) + (-1))), (0, (((f + m) : Nat) : Int)), (0, o), (0, v)]) (st' := [(1, y), (1, z), (0, o), (0, (((((evl (c 7) (g 133) a1 m).length : Nat) : Int) + (-1)) - 1)), (2, 134)]) (g' := h) ?_ (by rfl) (by rw [hs1]) (by rfl)
                refine wp_cs (as := [(0, o), (1, z), (1, y)]) (rest := [(0, (((((evl (c 7) (g 133) a1 m).length : Nat) : Int) + (-1)) - 1)), (2, 134)]) rfl (by decide) rfl (Nat.le_of_ble_eq_true rfl) (m_two (c := x) (by omega) (by omega) hlb.tail.head hlb.head) (by decide) (fun r6 h7 => ?_)
                obtain rfl := h7
                refine wp_eq (L' := [(2, 127), (0, ((t : Nat) : Int)), (0, ((k : Nat) : Int)), (0, w), (0, (800 * (t : Int))), (0, ((f : Nat) : Int)), (0, (((f + n1) : Nat) : Int)), (0, ((((evl (c 7) (g 133) a1 m).length : Nat) : Int) + (-1))), (0, (((f + m) : Nat) : Int)), (0, o), (0, v)]) (st' := [(1, (opv x z y)), (0, (((((evl (c 7) (g 133) a1 m).length : Nat) : Int) + (-1)) - 1)), (2, 134)]) (g' := h) ?_
                refine wp_last (k := 134) (tl.length) rfl rfl (by omega) (by omega) (by decide) ?_
                refine wp_n 2 (pc' := 57) (L' := [(2, 127), (0, ((t : Nat) : Int)), (0, ((k : Nat) : Int)), (0, w), (0, (800 * (t : Int))), (0, ((f : Nat) : Int)), (0, (((f + n1) : Nat) : Int)), (0, ((((evl (c 7) (g 133) a1 m).length : Nat) : Int) + (-1))), (0, ((((f + m) : Nat) : Int) + 1)), (0, o), (0, v)]) (st' := []) (g' := (am_up h 134 (tl.length) (opv x z y))) rfl ?_
                refine wp_eq (ih57 (m + 1) ((am_up h 134 (tl.length) (opv x z y))) ((0, o)) ((0, v)) ?_ ?_ ?_ ?_) (by first | (rw [hlen]; done) | (rw [hlen]; rfl)) (by rfl) (by rfl)
                · omega
                · omega
                · first
                  | (rw [hst]; exact ⟨up_eq, SRl.up hS (Nat.le_refl _)⟩)
                  | (rw [hst]; exact ⟨up_eq, SRl.up hS.2 (Nat.le_refl _)⟩)
                  | (rw [hst]; exact ⟨up_eq, SRl.up hS.2.2 (Nat.le_refl _)⟩)
                · exact fun c j h1 => by rw [up_ne h1]; exact hE c j h1
              · obtain ⟨z, tl, hxt⟩ : ∃ z tl, evl (c 7) (g 133) a1 m = z :: tl := by
                  have hn2 := hnd.1 (by omega)
                  match hq : evl (c 7) (g 133) a1 m with
                  | [] => rw [hq] at hn2; simp at hn2
                  | z :: tl => exact ⟨z, tl, rfl⟩
                obtain rfl : x = 20006 := by omega
                rw [hxt, stp_neg] at hst
                have hlen0 : (((evl (c 7) (g 133) a1 m).length : Nat) : Int) = (tl.length : Int) + 1 := by rw [hxt]; rfl
                have hlen : (((evl (c 7) (g 133) a1 (m + 1)).length : Nat) : Int) = (((evl (c 7) (g 133) a1 m).length : Nat) : Int) := by rw [hlen0, hst]; rfl
                rw [hxt] at hS hlb
                have hs2 : h 134 tl.length = z := hS.1
                have hm1 := hlb.head
                unfold MB at hm1
                refine wp_n 10 (pc' := 160) (L' := [(2, 127), (0, ((t : Nat) : Int)), (0, ((k : Nat) : Int)), (0, w), (0, (800 * (t : Int))), (0, ((f : Nat) : Int)), (0, (((f + n1) : Nat) : Int)), (0, (((evl (c 7) (g 133) a1 m).length : Nat) : Int)), (0, (((f + m) : Nat) : Int)), (0, o), (0, v)]) (st' := [(0, ((((evl (c 7) (g 133) a1 m).length : Nat) : Int) - 1)), (2, 134), (0, ((((evl (c 7) (g 133) a1 m).length : Nat) : Int) - 1)), (2, 134)]) (g' := h) rfl ?_
                refine wp_lald (k := 134) (tl.length) rfl rfl (by omega) (by omega) (by decide) ?_
                refine wp_eq (L' := [(2, 127), (0, ((t : Nat) : Int)), (0, ((k : Nat) : Int)), (0, w), (0, (800 * (t : Int))), (0, ((f : Nat) : Int)), (0, (((f + n1) : Nat) : Int)), (0, (((evl (c 7) (g 133) a1 m).length : Nat) : Int)), (0, (((f + m) : Nat) : Int)), (0, o), (0, v)]) (st' := [(1, z), (0, ((((evl (c 7) (g 133) a1 m).length : Nat) : Int) - 1)), (2, 134)]) (g' := h) ?_ (by rfl) (by rw [hs2]) (by rfl)
                refine wp_n 1 (pc' := 162) (L' := [(2, 127), (0, ((t : Nat) : Int)), (0, ((k : Nat) : Int)), (0, w), (0, (800 * (t : Int))), (0, ((f : Nat) : Int)), (0, (((f + n1) : Nat) : Int)), (0, (((evl (c 7) (g 133) a1 m).length : Nat) : Int)), (0, (((f + m) : Nat) : Int)), (0, o), (0, v)]) (st' := [(1, (-z)), (0, ((((evl (c 7) (g 133) a1 m).length : Nat) : Int) - 1)), (2, 134)]) (g' := h) rfl ?_
                refine wp_last (k := 134) (tl.length) rfl rfl (by omega) (by omega) (by decide) ?_
                refine wp_n 3 (pc' := 57) (L' := [(2, 127), (0, ((t : Nat) : Int)), (0, ((k : Nat) : Int)), (0, w), (0, (800 * (t : Int))), (0, ((f : Nat) : Int)), (0, (((f + n1) : Nat) : Int)), (0, (((evl (c 7) (g 133) a1 m).length : Nat) : Int)), (0, ((((f + m) : Nat) : Int) + 1)), (0, o), (0, v)]) (st' := []) (g' := (am_up h 134 (tl.length) (-z))) rfl ?_
                refine wp_eq (ih57 (m + 1) ((am_up h 134 (tl.length) (-z))) ((0, o)) ((0, v)) ?_ ?_ ?_ ?_) (by first | (rw [hlen]; done) | (rw [hlen]; rfl)) (by rfl) (by rfl)
                · omega
                · omega
                · first
                  | (rw [hst]; exact ⟨up_eq, SRl.up hS (Nat.le_refl _)⟩)
                  | (rw [hst]; exact ⟨up_eq, SRl.up hS.2 (Nat.le_refl _)⟩)
                  | (rw [hst]; exact ⟨up_eq, SRl.up hS.2.2 (Nat.le_refl _)⟩)
                · exact fun c j h1 => by rw [up_ne h1]; exact hE c j h1
            · refine wp_n 4 (pc' := 114) (L' := [(2, 127), (0, ((t : Nat) : Int)), (0, ((k : Nat) : Int)), (0, w), (0, (800 * (t : Int))), (0, ((f : Nat) : Int)), (0, (((f + n1) : Nat) : Int)), (0, (((evl (c 7) (g 133) a1 m).length : Nat) : Int)), (0, (((f + m) : Nat) : Int)), (0, o), (0, v)]) (st' := [(0, o), (0, (((evl (c 7) (g 133) a1 m).length : Nat) : Int)), (2, 134)]) (g' := h) rfl ?_
              refine wp_if_ne rfl (fun c8 => ?_) (fun c8 => ?_)
              · obtain rfl : x = v + 10000 := by omega
                rw [stp_name (by omega) (by omega), show (v + 10000 - 10000).toNat = v.toNat by omega] at hst
                have hlen : (((evl (c 7) (g 133) a1 (m + 1)).length : Nat) : Int) = (((evl (c 7) (g 133) a1 m).length : Nat) : Int) + 1 := by rw [hst]; rfl
                have hnb := hN v.toNat (by omega)
                unfold MB at hnb
                refine wp_n 3 (pc' := 129) (L' := [(2, 127), (0, ((t : Nat) : Int)), (0, ((k : Nat) : Int)), (0, w), (0, (800 * (t : Int))), (0, ((f : Nat) : Int)), (0, (((f + n1) : Nat) : Int)), (0, (((evl (c 7) (g 133) a1 m).length : Nat) : Int)), (0, (((f + m) : Nat) : Int)), (0, o), (0, v)]) (st' := [(0, v), (2, 133), (0, (((evl (c 7) (g 133) a1 m).length : Nat) : Int)), (2, 134)]) (g' := h) rfl ?_
                refine wp_iald (k := 133) (v.toNat) rfl rfl (by omega) (by omega) (by decide) ?_
                refine wp_eq (L' := [(2, 127), (0, ((t : Nat) : Int)), (0, ((k : Nat) : Int)), (0, w), (0, (800 * (t : Int))), (0, ((f : Nat) : Int)), (0, (((f + n1) : Nat) : Int)), (0, (((evl (c 7) (g 133) a1 m).length : Nat) : Int)), (0, (((f + m) : Nat) : Int)), (0, o), (0, v)]) (st' := [(0, (g 133 v.toNat)), (0, (((evl (c 7) (g 133) a1 m).length : Nat) : Int)), (2, 134)]) (g' := h) ?_ (by rfl) (by rw [hE 133 _ (by decide)]) (by rfl)
                refine wp_i2l rfl (by omega) ?_
                refine wp_last (k := 134) ((evl (c 7) (g 133) a1 m).length) rfl rfl (by omega) (by omega) (by decide) ?_
                refine wp_n 4 (pc' := 57) (L' := [(2, 127), (0, ((t : Nat) : Int)), (0, ((k : Nat) : Int)), (0, w), (0, (800 * (t : Int))), (0, ((f : Nat) : Int)), (0, (((f + n1) : Nat) : Int)), (0, ((((evl (c 7) (g 133) a1 m).length : Nat) : Int) + 1)), (0, ((((f + m) : Nat) : Int) + 1)), (0, o), (0, v)]) (st' := []) (g' := (am_up h 134 ((evl (c 7) (g 133) a1 m).length) (g 133 v.toNat))) rfl ?_
                refine wp_eq (ih57 (m + 1) ((am_up h 134 ((evl (c 7) (g 133) a1 m).length) (g 133 v.toNat))) ((0, o)) ((0, v)) ?_ ?_ ?_ ?_) (by first | (rw [hlen]; done) | (rw [hlen]; rfl)) (by rfl) (by rfl)
                · omega
                · omega
                · first
                  | (rw [hst]; exact ⟨up_eq, SRl.up hS (Nat.le_refl _)⟩)
                  | (rw [hst]; exact ⟨up_eq, SRl.up hS.2 (Nat.le_refl _)⟩)
                  | (rw [hst]; exact ⟨up_eq, SRl.up hS.2.2 (Nat.le_refl _)⟩)
                · exact fun c j h1 => by rw [up_ne h1]; exact hE c j h1
              · obtain rfl : v = x := by omega
                rw [stp_num (by omega)] at hst
                have hlen : (((evl (c 7) (g 133) a1 (m + 1)).length : Nat) : Int) = (((evl (c 7) (g 133) a1 m).length : Nat) : Int) + 1 := by rw [hst]; rfl
                refine wp_n 1 (pc' := 119) (L' := [(2, 127), (0, ((t : Nat) : Int)), (0, ((k : Nat) : Int)), (0, w), (0, (800 * (t : Int))), (0, ((f : Nat) : Int)), (0, (((f + n1) : Nat) : Int)), (0, (((evl (c 7) (g 133) a1 m).length : Nat) : Int)), (0, (((f + m) : Nat) : Int)), (0, o), (0, v)]) (st' := [(0, v), (0, (((evl (c 7) (g 133) a1 m).length : Nat) : Int)), (2, 134)]) (g' := h) rfl ?_
                refine wp_i2l rfl (by omega) ?_
                refine wp_n 1 (pc' := 131) (L' := [(2, 127), (0, ((t : Nat) : Int)), (0, ((k : Nat) : Int)), (0, w), (0, (800 * (t : Int))), (0, ((f : Nat) : Int)), (0, (((f + n1) : Nat) : Int)), (0, (((evl (c 7) (g 133) a1 m).length : Nat) : Int)), (0, (((f + m) : Nat) : Int)), (0, o), (0, v)]) (st' := [(1, v), (0, (((evl (c 7) (g 133) a1 m).length : Nat) : Int)), (2, 134)]) (g' := h) rfl ?_
                refine wp_last (k := 134) ((evl (c 7) (g 133) a1 m).length) rfl rfl (by omega) (by omega) (by decide) ?_
                refine wp_n 4 (pc' := 57) (L' := [(2, 127), (0, ((t : Nat) : Int)), (0, ((k : Nat) : Int)), (0, w), (0, (800 * (t : Int))), (0, ((f : Nat) : Int)), (0, (((f + n1) : Nat) : Int)), (0, ((((evl (c 7) (g 133) a1 m).length : Nat) : Int) + 1)), (0, ((((f + m) : Nat) : Int) + 1)), (0, o), (0, v)]) (st' := []) (g' := (am_up h 134 ((evl (c 7) (g 133) a1 m).length) v)) rfl ?_
                refine wp_eq (ih57 (m + 1) ((am_up h 134 ((evl (c 7) (g 133) a1 m).length) v)) ((0, o)) ((0, v)) ?_ ?_ ?_ ?_) (by first | (rw [hlen]; done) | (rw [hlen]; rfl)) (by rfl) (by rfl)
                · omega
                · omega
                · first
                  | (rw [hst]; exact ⟨up_eq, SRl.up hS (Nat.le_refl _)⟩)
                  | (rw [hst]; exact ⟨up_eq, SRl.up hS.2 (Nat.le_refl _)⟩)
                  | (rw [hst]; exact ⟨up_eq, SRl.up hS.2.2 (Nat.le_refl _)⟩)
                · exact fun c j h1 => by rw [up_ne h1]; exact hE c j h1
      refine wp_eq (L57 (_ + 1) (0) (g) ((9, 0)) ((9, 0)) (Nat.lt_succ_self _) ?_ ?_ ?_) (by rw [e5, e6]; rfl) (by rfl) (by rfl)
      · exact Nat.zero_le _
      · exact True.intro
      · exact fun _ _ _ => rfl
    · have h8 : c 8 (4 * t + k) = -1 := by
        rcases hrc with ⟨e, -⟩ | ⟨a, n, e1, e2, e3, e4, e5, e6, -⟩
        · exact e
        · exfalso
          rcases hT.at ht hk with q | ⟨a1, n1, q1, q2, q3, q4, q5⟩
          · omega
          · have := q5.1; omega
      refine wp_n 1 (pc' := 49) (L' := [(2, 127), (0, ((t : Nat) : Int)), (0, ((k : Nat) : Int)), (0, w), (0, (800 * ((t : Nat) : Int))), (0, (g 130 (800 * t + 2 * k))), (0, (g 130 (800 * t + 1 + 2 * k))), (9, 0), (9, 0), (9, 0), (9, 0)]) (st' := [(0, w)]) (g' := g) rfl ?_
      exact wp_ret rfl rfl rfl ⟨_, by rw [tv_no h8], fun _ _ _ => rfl⟩
  · exfalso; omega
theorem m_value {sn : Nat} {sx : Nat → Int} {b : Nat} {g c : am_G} {t : Int} {k : Nat} {w : Int} (hT : TxW 0 c) (hR : TR c g) (ht : -1 ≤ t ∧ t < c 6 3) (hk : k < 4) (hN : NB k (g 133)) : Ev sn sx 3 191 [(2, 127), (0, t), (0, ((k : Nat) : Int)), (0, w)] (SH b) g (fun r => ∃ g', r = (some (0, tv c (g 133) t k w), SH b, g') ∧ FrA 134 g g') := by
  by_cases h : t = -1
  · subst h
    exact m_valueN
  · obtain ⟨q, rfl⟩ : ∃ q : Nat, t = (q : Int) := ⟨t.toNat, by omega⟩
    exact m_valueT hT hR ht.2 hk hN
