/-! WHERE: the class's small methods -/
def tel (sc : Nat → Int) (e t : Nat) (v : Int) : Prop := ∃ u : Nat, u < 3 ∧ u ≠ t ∧ sc (3 * e + u) = v
set_option maxHeartbeats 400000 in
set_option maxRecDepth 20000 in
theorem e_told {sn : Nat} {sx : Nat → Int} {b : Nat} {g : am_G} {e t : Nat} {v : Int} (he : e < 4) (ht : t < 3) (hv : R32 v) (hS : ∀ j, j < 12 → -1 ≤ g 15 j ∧ g 15 j ≤ 3) : Ev sn sx 1 89 [(2, 56), (0, ((e : Nat) : Int)), (0, ((t : Nat) : Int)), (0, v)] (SH b) g (fun r => (r = (some (0, 1), SH b, g) ∧ tel (g 15) e t v) ∨ (r = (some (0, 0), SH b, g) ∧ ¬ tel (g 15) e t v)) := by
  have hv1 : -2147483648 ≤ v ∧ v < 2147483648 := hv
  refine ev_of (K := 0) T89 (by decide) rfl rfl (Nat.le_of_ble_eq_true rfl) ?_
  refine wp_eq (L' := [(2, 56), (0, ((e : Nat) : Int)), (0, ((t : Nat) : Int)), (0, v), (9, 0)]) (st' := []) (g' := g) ?_
  refine wp_n 2 (pc' := 3) (L' := [(2, 56), (0, ((e : Nat) : Int)), (0, ((t : Nat) : Int)), (0, v), (0, 0)]) (st' := []) (g' := g) rfl ?_
  have L3 : ∀ (lf : Nat) (u : Nat), 3 - u < lf → (u ≤ 3) → (∀ x : Nat, x < u → x ≠ t → g 15 (3 * e + x) ≠ v) → Wp sn sx 0 T89 3 [(2, 56), (0, ((e : Nat) : Int)), (0, ((t : Nat) : Int)), (0, v), (0, ((u : Nat) : Int))] [] (SH b) g (fun r => (r = (some (0, 1), SH b, g) ∧ tel (g 15) e t v) ∨ (r = (some (0, 0), SH b, g) ∧ ¬ tel (g 15) e t v)) := by
    intro lf
    induction lf with
    | zero => intro u hlf; exact absurd hlf (Nat.not_lt_zero _)
    | succ lf ih3 =>
      intro u hlf hu hN
      refine wp_n 2 (pc' := 6) (L' := [(2, 56), (0, ((e : Nat) : Int)), (0, ((t : Nat) : Int)), (0, v), (0, ((u : Nat) : Int))]) (st' := [(0, 3), (0, ((u : Nat) : Int))]) (g' := g) rfl ?_
      refine wp_ic_ge rfl (fun c1 => ?_) (fun c1 => ?_)
      · refine wp_n 1 (pc' := 42) (L' := [(2, 56), (0, ((e : Nat) : Int)), (0, ((t : Nat) : Int)), (0, v), (0, ((u : Nat) : Int))]) (st' := [(0, 0)]) (g' := g) rfl ?_
        exact wp_ret rfl rfl rfl (Or.inr ⟨rfl, fun ⟨x, x1, x2, x3⟩ => hN x (by omega) x2 x3⟩)
      · have hSu := hS (3 * e + u) (by omega)
        refine wp_n 2 (pc' := 12) (L' := [(2, 56), (0, ((e : Nat) : Int)), (0, ((t : Nat) : Int)), (0, v), (0, ((u : Nat) : Int))]) (st' := [(0, ((t : Nat) : Int)), (0, ((u : Nat) : Int))]) (g' := g) rfl ?_
        refine wp_ic_eq rfl (fun c2 => ?_) (fun c2 => ?_)
        · refine wp_n 2 (pc' := 3) (L' := [(2, 56), (0, ((e : Nat) : Int)), (0, ((t : Nat) : Int)), (0, v), (0, (((u : Nat) : Int) + 1))]) (st' := []) (g' := g) rfl ?_
          refine wp_eq (ih3 (u + 1) ?_ ?_ ?_) (by first | rfl | (simp; done) | (simp; omega)) (by rfl) (by rfl)
          · omega
          · omega
          · intro x hx hx2
            by_cases q : x = u
            · subst q; omega
            · exact hN x (by omega) hx2
        · refine wp_n 8 (pc' := 28) (L' := [(2, 56), (0, ((e : Nat) : Int)), (0, ((t : Nat) : Int)), (0, v), (0, ((u : Nat) : Int))]) (st' := [(0, ((((e : Nat) : Int) * 3) + ((u : Nat) : Int))), (2, 15)]) (g' := g) rfl ?_
          refine wp_iald (k := 15) ((3 * e + u)) rfl rfl (by omega) (by omega) (by decide) ?_
          refine wp_n 1 (pc' := 30) (L' := [(2, 56), (0, ((e : Nat) : Int)), (0, ((t : Nat) : Int)), (0, v), (0, ((u : Nat) : Int))]) (st' := [(0, v), (0, (g 15 (3 * e + u)))]) (g' := g) rfl ?_
          refine wp_ic_ne rfl (fun c3 => ?_) (fun c3 => ?_)
          · refine wp_n 2 (pc' := 3) (L' := [(2, 56), (0, ((e : Nat) : Int)), (0, ((t : Nat) : Int)), (0, v), (0, (((u : Nat) : Int) + 1))]) (st' := []) (g' := g) rfl ?_
            refine wp_eq (ih3 (u + 1) ?_ ?_ ?_) (by first | rfl | (simp; done) | (simp; omega)) (by rfl) (by rfl)
            · omega
            · omega
            · intro x hx hx2
              by_cases q : x = u
              · subst q; omega
              · exact hN x (by omega) hx2
          · refine wp_n 1 (pc' := 34) (L' := [(2, 56), (0, ((e : Nat) : Int)), (0, ((t : Nat) : Int)), (0, v), (0, ((u : Nat) : Int))]) (st' := [(0, 1)]) (g' := g) rfl ?_
            exact wp_ret rfl rfl rfl (Or.inl ⟨rfl, u, by omega, by omega, by omega⟩)
  refine wp_eq (L3 (_ + 1) (0) (Nat.lt_succ_self _) ?_ ?_) (by first | rfl | (simp; done) | (simp; omega)) (by rfl) (by rfl)
  · exact Nat.zero_le _
  · exact fun x hx => absurd hx (Nat.not_lt_zero _)
