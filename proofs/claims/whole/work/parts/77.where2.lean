/-! WHERE: may it stand, does it clash -/
/-- a wheel may stand at a table, as far as the scratches tell -/
def mst (sc : Nat → Int) (e t : Nat) (v : Int) : Prop := (sc (3 * e + t) = -1 ∧ ¬ tel sc e t v) ∨ (sc (3 * e + t) ≠ -1 ∧ sc (3 * e + t) = v)
def cls (sc : Nat → Int) (e : Nat) : Prop := ∃ t : Nat, t < 3 ∧ sc (3 * e + t) ≠ -1 ∧ tel sc e t (sc (3 * e + t))
set_option maxHeartbeats 400000 in
set_option maxRecDepth 20000 in
theorem e_mayStand {sn : Nat} {sx : Nat → Int} {b : Nat} {g : am_G} {e t : Nat} {v : Int} (he : e < 4) (ht : t < 3) (hv : R32 v) (hS : ∀ j, j < 12 → -1 ≤ g 15 j ∧ g 15 j ≤ 3) : Ev sn sx 2 90 [(2, 56), (0, ((e : Nat) : Int)), (0, ((t : Nat) : Int)), (0, v)] (SH b) g (fun r => (r = (some (0, 1), SH b, g) ∧ mst (g 15) e t v) ∨ (r = (some (0, 0), SH b, g) ∧ ¬ mst (g 15) e t v)) := by
  have hv1 : -2147483648 ≤ v ∧ v < 2147483648 := hv
  have hSt := hS (3 * e + t) (by omega)
  refine ev_of (K := 1) T90 (by decide) rfl rfl (Nat.le_of_ble_eq_true rfl) ?_
  refine wp_eq (L' := [(2, 56), (0, ((e : Nat) : Int)), (0, ((t : Nat) : Int)), (0, v), (9, 0)]) (st' := []) (g' := g) ?_
  refine wp_n 8 (pc' := 12) (L' := [(2, 56), (0, ((e : Nat) : Int)), (0, ((t : Nat) : Int)), (0, v), (9, 0)]) (st' := [(0, ((((e : Nat) : Int) * 3) + ((t : Nat) : Int))), (2, 15)]) (g' := g) rfl ?_
  refine wp_iald (k := 15) ((3 * e + t)) rfl rfl (by omega) (by omega) (by decide) ?_
  refine wp_n 3 (pc' := 18) (L' := [(2, 56), (0, ((e : Nat) : Int)), (0, ((t : Nat) : Int)), (0, v), (0, (g 15 (3 * e + t)))]) (st' := [(0, (-1)), (0, (g 15 (3 * e + t)))]) (g' := g) rfl ?_
  refine wp_ic_ne rfl (fun c1 => ?_) (fun c1 => ?_)
  · refine wp_n 2 (pc' := 42) (L' := [(2, 56), (0, ((e : Nat) : Int)), (0, ((t : Nat) : Int)), (0, v), (0, (g 15 (3 * e + t)))]) (st' := [(0, v), (0, (g 15 (3 * e + t)))]) (g' := g) rfl ?_
    refine wp_ic_ne rfl (fun c2 => ?_) (fun c2 => ?_)
    · refine wp_n 1 (pc' := 50) (L' := [(2, 56), (0, ((e : Nat) : Int)), (0, ((t : Nat) : Int)), (0, v), (0, (g 15 (3 * e + t)))]) (st' := [(0, 0)]) (g' := g) rfl ?_
      first
      | exact wp_ret rfl rfl rfl (Or.inl ⟨rfl, Or.inl ⟨by omega, by assumption⟩⟩)
      | exact wp_ret rfl rfl rfl (Or.inl ⟨rfl, Or.inr ⟨by omega, by omega⟩⟩)
      | exact wp_ret rfl rfl rfl (Or.inr ⟨rfl, fun q => by rcases q with ⟨q1, q2⟩ | ⟨q1, q2⟩ <;> first | exact q2 (by assumption) | omega⟩)
    · refine wp_n 2 (pc' := 50) (L' := [(2, 56), (0, ((e : Nat) : Int)), (0, ((t : Nat) : Int)), (0, v), (0, (g 15 (3 * e + t)))]) (st' := [(0, 1)]) (g' := g) rfl ?_
      first
      | exact wp_ret rfl rfl rfl (Or.inl ⟨rfl, Or.inl ⟨by omega, by assumption⟩⟩)
      | exact wp_ret rfl rfl rfl (Or.inl ⟨rfl, Or.inr ⟨by omega, by omega⟩⟩)
      | exact wp_ret rfl rfl rfl (Or.inr ⟨rfl, fun q => by rcases q with ⟨q1, q2⟩ | ⟨q1, q2⟩ <;> first | exact q2 (by assumption) | omega⟩)
  · refine wp_n 4 (pc' := 25) (L' := [(2, 56), (0, ((e : Nat) : Int)), (0, ((t : Nat) : Int)), (0, v), (0, (g 15 (3 * e + t)))]) (st' := [(0, v), (0, ((t : Nat) : Int)), (0, ((e : Nat) : Int)), (2, 56)]) (g' := g) rfl ?_
    refine wp_cv (as := [(2, 56), (0, ((e : Nat) : Int)), (0, ((t : Nat) : Int)), (0, v)]) (rest := []) rfl rfl rfl (Nat.le_of_ble_eq_true rfl) rfl (e_told (e := e) (t := t) (by omega) (by omega) (by assumption) hS) (by decide) (fun r3 h4 => ?_)
    rcases h4 with ⟨rfl, p25⟩ | ⟨rfl, p25⟩
    · refine wp_eq (L' := [(2, 56), (0, ((e : Nat) : Int)), (0, ((t : Nat) : Int)), (0, v), (0, (g 15 (3 * e + t)))]) (st' := [(0, 1)]) (g' := g) ?_
      refine wp_n 3 (pc' := 50) (L' := [(2, 56), (0, ((e : Nat) : Int)), (0, ((t : Nat) : Int)), (0, v), (0, (g 15 (3 * e + t)))]) (st' := [(0, 0)]) (g' := g) rfl ?_
      first
      | exact wp_ret rfl rfl rfl (Or.inl ⟨rfl, Or.inl ⟨by omega, by assumption⟩⟩)
      | exact wp_ret rfl rfl rfl (Or.inl ⟨rfl, Or.inr ⟨by omega, by omega⟩⟩)
      | exact wp_ret rfl rfl rfl (Or.inr ⟨rfl, fun q => by rcases q with ⟨q1, q2⟩ | ⟨q1, q2⟩ <;> first | exact q2 (by assumption) | omega⟩)
    · refine wp_eq (L' := [(2, 56), (0, ((e : Nat) : Int)), (0, ((t : Nat) : Int)), (0, v), (0, (g 15 (3 * e + t)))]) (st' := [(0, 0)]) (g' := g) ?_
      refine wp_n 3 (pc' := 50) (L' := [(2, 56), (0, ((e : Nat) : Int)), (0, ((t : Nat) : Int)), (0, v), (0, (g 15 (3 * e + t)))]) (st' := [(0, 1)]) (g' := g) rfl ?_
      first
      | exact wp_ret rfl rfl rfl (Or.inl ⟨rfl, Or.inl ⟨by omega, by assumption⟩⟩)
      | exact wp_ret rfl rfl rfl (Or.inl ⟨rfl, Or.inr ⟨by omega, by omega⟩⟩)
      | exact wp_ret rfl rfl rfl (Or.inr ⟨rfl, fun q => by rcases q with ⟨q1, q2⟩ | ⟨q1, q2⟩ <;> first | exact q2 (by assumption) | omega⟩)
set_option maxHeartbeats 400000 in
set_option maxRecDepth 20000 in
theorem e_clashes {sn : Nat} {sx : Nat → Int} {b : Nat} {g : am_G} {e : Nat} (he : e < 4) (hS : ∀ j, j < 12 → -1 ≤ g 15 j ∧ g 15 j ≤ 3) : Ev sn sx 2 88 [(2, 56), (0, ((e : Nat) : Int))] (SH b) g (fun r => (r = (some (0, 1), SH b, g) ∧ cls (g 15) e) ∨ (r = (some (0, 0), SH b, g) ∧ ¬ cls (g 15) e)) := by
  refine ev_of (K := 1) T88 (by decide) rfl rfl (Nat.le_of_ble_eq_true rfl) ?_
  refine wp_eq (L' := [(2, 56), (0, ((e : Nat) : Int)), (9, 0), (9, 0)]) (st' := []) (g' := g) ?_
  refine wp_n 2 (pc' := 2) (L' := [(2, 56), (0, ((e : Nat) : Int)), (0, 0), (9, 0)]) (st' := []) (g' := g) rfl ?_
  have L2 : ∀ (lf : Nat) (t : Nat) (w3 : am_V), 3 - t < lf → (t ≤ 3) → (∀ x : Nat, x < t → g 15 (3 * e + x) ≠ -1 → ¬ tel (g 15) e x (g 15 (3 * e + x))) → Wp sn sx 1 T88 2 [(2, 56), (0, ((e : Nat) : Int)), (0, ((t : Nat) : Int)), w3] [] (SH b) g (fun r => (r = (some (0, 1), SH b, g) ∧ cls (g 15) e) ∨ (r = (some (0, 0), SH b, g) ∧ ¬ cls (g 15) e)) := by
    intro lf
    induction lf with
    | zero => intro t w3 hlf; exact absurd hlf (Nat.not_lt_zero _)
    | succ lf ih2 =>
      intro t w3 hlf ht hN
      refine wp_n 2 (pc' := 4) (L' := [(2, 56), (0, ((e : Nat) : Int)), (0, ((t : Nat) : Int)), w3]) (st' := [(0, 3), (0, ((t : Nat) : Int))]) (g' := g) rfl ?_
      refine wp_ic_ge rfl (fun c1 => ?_) (fun c1 => ?_)
      · refine wp_n 1 (pc' := 45) (L' := [(2, 56), (0, ((e : Nat) : Int)), (0, ((t : Nat) : Int)), w3]) (st' := [(0, 0)]) (g' := g) rfl ?_
        exact wp_ret rfl rfl rfl (Or.inr ⟨rfl, fun ⟨x, x1, x2, x3⟩ => hN x (by omega) x2 x3⟩)
      · have hSt := hS (3 * e + t) (by omega)
        refine wp_n 8 (pc' := 19) (L' := [(2, 56), (0, ((e : Nat) : Int)), (0, ((t : Nat) : Int)), w3]) (st' := [(0, ((((e : Nat) : Int) * 3) + ((t : Nat) : Int))), (2, 15)]) (g' := g) rfl ?_
        refine wp_iald (k := 15) ((3 * e + t)) rfl rfl (by omega) (by omega) (by decide) ?_
        refine wp_n 3 (pc' := 23) (L' := [(2, 56), (0, ((e : Nat) : Int)), (0, ((t : Nat) : Int)), (0, (g 15 (3 * e + t)))]) (st' := [(0, (-1)), (0, (g 15 (3 * e + t)))]) (g' := g) rfl ?_
        refine wp_ic_eq rfl (fun c2 => ?_) (fun c2 => ?_)
        · refine wp_n 2 (pc' := 2) (L' := [(2, 56), (0, ((e : Nat) : Int)), (0, (((t : Nat) : Int) + 1)), (0, (g 15 (3 * e + t)))]) (st' := []) (g' := g) rfl ?_
          refine wp_eq (ih2 (t + 1) ((0, (g 15 (3 * e + t)))) ?_ ?_ ?_) (by first | rfl | (simp; done) | (simp; omega)) (by rfl) (by rfl)
          · omega
          · omega
          · intro x hx hx2
            by_cases q : x = t
            · subst q; first | assumption | (exfalso; omega)
            · exact hN x (by omega) hx2
        · refine wp_n 4 (pc' := 30) (L' := [(2, 56), (0, ((e : Nat) : Int)), (0, ((t : Nat) : Int)), (0, (g 15 (3 * e + t)))]) (st' := [(0, (g 15 (3 * e + t))), (0, ((t : Nat) : Int)), (0, ((e : Nat) : Int)), (2, 56)]) (g' := g) rfl ?_
          refine wp_cv (as := [(2, 56), (0, ((e : Nat) : Int)), (0, ((t : Nat) : Int)), (0, (g 15 (3 * e + t)))]) (rest := []) rfl rfl rfl (Nat.le_of_ble_eq_true rfl) rfl (e_told (e := e) (t := t) (by omega) (by omega) (show -2147483648 ≤ g 15 (3 * e + t) ∧ g 15 (3 * e + t) < 2147483648 by omega) hS) (by decide) (fun r3 h4 => ?_)
          rcases h4 with ⟨rfl, p30⟩ | ⟨rfl, p30⟩
          · refine wp_eq (L' := [(2, 56), (0, ((e : Nat) : Int)), (0, ((t : Nat) : Int)), (0, (g 15 (3 * e + t)))]) (st' := [(0, 1)]) (g' := g) ?_
            refine wp_n 2 (pc' := 37) (L' := [(2, 56), (0, ((e : Nat) : Int)), (0, ((t : Nat) : Int)), (0, (g 15 (3 * e + t)))]) (st' := [(0, 1)]) (g' := g) rfl ?_
            exact wp_ret rfl rfl rfl (Or.inl ⟨rfl, t, by omega, by omega, by assumption⟩)
          · refine wp_eq (L' := [(2, 56), (0, ((e : Nat) : Int)), (0, ((t : Nat) : Int)), (0, (g 15 (3 * e + t)))]) (st' := [(0, 0)]) (g' := g) ?_
            refine wp_n 3 (pc' := 2) (L' := [(2, 56), (0, ((e : Nat) : Int)), (0, (((t : Nat) : Int) + 1)), (0, (g 15 (3 * e + t)))]) (st' := []) (g' := g) rfl ?_
            refine wp_eq (ih2 (t + 1) ((0, (g 15 (3 * e + t)))) ?_ ?_ ?_) (by first | rfl | (simp; done) | (simp; omega)) (by rfl) (by rfl)
            · omega
            · omega
            · intro x hx hx2
              by_cases q : x = t
              · subst q; first | assumption | (exfalso; omega)
              · exact hN x (by omega) hx2
  refine wp_eq (L2 (_ + 1) (0) ((9, 0)) (Nat.lt_succ_self _) ?_ ?_) (by first | rfl | (simp; done) | (simp; omega)) (by rfl) (by rfl)
  · exact Nat.zero_le _
  · exact fun x hx => absurd hx (Nat.not_lt_zero _)
