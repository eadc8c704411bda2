/-! NINE: the reference -/
set_option maxHeartbeats 400000 in
set_option maxRecDepth 20000 in
theorem m_pickMost {sn : Nat} {sx : Nat → Int} {b : Nat} {g : am_G} {P j : Nat} (hP : g 127 0 = (P : Int)) (h5 : 5 ≤ P ∧ P ≤ 37) (hj : j < P) (hT : ∀ p, p < P → 0 ≤ g 139 p ∧ g 139 p ≤ 200) : Ev sn sx 1 237 [(2, 127), (0, ((j : Nat) : Int))] (SH b) g (fun r => ∃ g', r = (some (0, psm (g 139) P j), SH b, g') ∧ (∀ p : Nat, p < 37 → g' 140 p = if pks (g 139) P j p = true then 1 else 0) ∧ FrA 140 g g') := by
  refine ev_of (K := 0) T237 (by decide) rfl rfl (Nat.le_of_ble_eq_true rfl) ?_
  refine wp_eq (L' := [(2, 127), (0, ((j : Nat) : Int)), (9, 0), (9, 0), (9, 0), (9, 0)]) (st' := []) (g' := g) ?_
  refine wp_n 4 (pc' := 4) (L' := [(2, 127), (0, ((j : Nat) : Int)), (0, 0), (0, 0), (9, 0), (9, 0)]) (st' := []) (g' := g) rfl ?_
  have L4 : ∀ (lf : Nat) (p : Nat) (h : am_G) (w4 w5 : am_V), 37 - p < lf → (p ≤ 37) → (∀ q : Nat, q < p → h 140 q = 0) → (FrA 140 g h) → Wp sn sx 0 T237 4 [(2, 127), (0, ((j : Nat) : Int)), (0, 0), (0, ((p : Nat) : Int)), w4, w5] [] (SH b) h (fun r => ∃ g', r = (some (0, psm (g 139) P j), SH b, g') ∧ (∀ p : Nat, p < 37 → g' 140 p = if pks (g 139) P j p = true then 1 else 0) ∧ FrA 140 g g') := by
    intro lf
    induction lf with
    | zero => intro p h w4 w5 hlf; exact absurd hlf (Nat.not_lt_zero _)
    | succ lf ih4 =>
      intro p h w4 w5 hlf hp hz hF0
      refine wp_n 2 (pc' := 7) (L' := [(2, 127), (0, ((j : Nat) : Int)), (0, 0), (0, ((p : Nat) : Int)), w4, w5]) (st' := [(0, 37), (0, ((p : Nat) : Int))]) (g' := h) rfl ?_
      refine wp_ic_ge rfl (fun c1 => ?_) (fun c1 => ?_)
      · obtain rfl : p = 37 := by omega
        refine wp_n 2 (pc' := 25) (L' := [(2, 127), (0, ((j : Nat) : Int)), (0, 0), (0, 0), w4, w5]) (st' := []) (g' := h) rfl ?_
        have L25 : ∀ (lf : Nat) (i : Nat) (h : am_G) (w4 w5 : am_V), j - i < lf → (i ≤ j) → ((∀ p : Nat, p < 37 → h 140 p = if (pks (g 139) P i) p = true then 1 else 0)) → (FrA 140 g h) → Wp sn sx 0 T237 25 [(2, 127), (0, ((j : Nat) : Int)), (0, (psm (g 139) P i)), (0, ((i : Nat) : Int)), w4, w5] [] (SH b) h (fun r => ∃ g', r = (some (0, psm (g 139) P j), SH b, g') ∧ (∀ p : Nat, p < 37 → g' 140 p = if pks (g 139) P j p = true then 1 else 0) ∧ FrA 140 g g') := by
          intro lf
          induction lf with
          | zero => intro i h w4 w5 hlf; exact absurd hlf (Nat.not_lt_zero _)
          | succ lf ih25 =>
            intro i h w4 w5 hlf hi hC hF
            refine wp_n 2 (pc' := 27) (L' := [(2, 127), (0, ((j : Nat) : Int)), (0, (psm (g 139) P i)), (0, ((i : Nat) : Int)), w4, w5]) (st' := [(0, ((j : Nat) : Int)), (0, ((i : Nat) : Int))]) (g' := h) rfl ?_
            refine wp_ic_ge rfl (fun c2 => ?_) (fun c2 => ?_)
            · have hij : i = j := by omega
              refine wp_n 1 (pc' := 112) (L' := [(2, 127), (0, ((j : Nat) : Int)), (0, (psm (g 139) P i)), (0, ((i : Nat) : Int)), w4, w5]) (st' := [(0, (psm (g 139) P i))]) (g' := h) rfl ?_
              exact wp_ret rfl rfl rfl ⟨_, by rw [hij], by rw [← hij]; exact hC, hF⟩
            · have hpb := (pks_cn (T := g 139) (P := P) i (by omega)).2 (by omega)
              have hpi := bst_in (g 139) (pks (g 139) P i) P
              have hps := psm_in (P := P) hT i (by omega)
              have hTb := hT (bst (g 139) (pks (g 139) P i) P).toNat (by omega)
              refine wp_n 4 (pc' := 36) (L' := [(2, 127), (0, ((j : Nat) : Int)), (0, (psm (g 139) P i)), (0, ((i : Nat) : Int)), (0, (-1)), (0, 0)]) (st' := []) (g' := h) rfl ?_
              have L36 : ∀ (lf : Nat) (p : Nat), P - p < lf → (p ≤ P) → Wp sn sx 0 T237 36 [(2, 127), (0, ((j : Nat) : Int)), (0, (psm (g 139) P i)), (0, ((i : Nat) : Int)), (0, (bst (g 139) (pks (g 139) P i) p)), (0, ((p : Nat) : Int))] [] (SH b) h (fun r => ∃ g', r = (some (0, psm (g 139) P j), SH b, g') ∧ (∀ p : Nat, p < 37 → g' 140 p = if pks (g 139) P j p = true then 1 else 0) ∧ FrA 140 g g') := by
                intro lf
                induction lf with
                | zero => intro p hlf; exact absurd hlf (Nat.not_lt_zero _)
                | succ lf ih36 =>
                  intro p hlf hp
                  refine wp_n 3 (pc' := 42) (L' := [(2, 127), (0, ((j : Nat) : Int)), (0, (psm (g 139) P i)), (0, ((i : Nat) : Int)), (0, (bst (g 139) (pks (g 139) P i) p)), (0, ((p : Nat) : Int))]) (st' := [(0, (h 127 0)), (0, ((p : Nat) : Int))]) (g' := h) rfl ?_
                  refine wp_eq (L' := [(2, 127), (0, ((j : Nat) : Int)), (0, (psm (g 139) P i)), (0, ((i : Nat) : Int)), (0, (bst (g 139) (pks (g 139) P i) p)), (0, ((p : Nat) : Int))]) (st' := [(0, ((P : Nat) : Int)), (0, ((p : Nat) : Int))]) (g' := h) ?_ (by rfl) (by rw [hF 127 0 (by decide), hP]) (by rfl)
                  refine wp_ic_ge rfl (fun c3 => ?_) (fun c3 => ?_)
                  · have hpP : p = P := by omega
                    refine wp_eq (L' := [(2, 127), (0, ((j : Nat) : Int)), (0, (psm (g 139) P i)), (0, ((i : Nat) : Int)), (0, (bst (g 139) (pks (g 139) P i) P)), (0, ((p : Nat) : Int))]) (st' := []) (g' := h) ?_ (by rw [hpP]) (by rfl) (by rfl)
                    refine wp_n 4 (pc' := 94) (L' := [(2, 127), (0, ((j : Nat) : Int)), (0, (psm (g 139) P i)), (0, ((i : Nat) : Int)), (0, (bst (g 139) (pks (g 139) P i) P)), (0, ((p : Nat) : Int))]) (st' := [(0, 1), (0, (bst (g 139) (pks (g 139) P i) P)), (2, 140)]) (g' := h) rfl ?_
                    refine wp_bast (k := 140) ((bst (g 139) (pks (g 139) P i) P).toNat) rfl rfl (by omega) (by omega) (by decide) (by omega) ?_
                    refine wp_n 4 (pc' := 102) (L' := [(2, 127), (0, ((j : Nat) : Int)), (0, (psm (g 139) P i)), (0, ((i : Nat) : Int)), (0, (bst (g 139) (pks (g 139) P i) P)), (0, ((p : Nat) : Int))]) (st' := [(0, (bst (g 139) (pks (g 139) P i) P)), (2, 139), (0, (psm (g 139) P i))]) (g' := (am_up h 140 ((bst (g 139) (pks (g 139) P i) P).toNat) 1)) rfl ?_
                    refine wp_iald (k := 139) ((bst (g 139) (pks (g 139) P i) P).toNat) rfl rfl (by omega) (by omega) (by decide) ?_
                    refine wp_eq (L' := [(2, 127), (0, ((j : Nat) : Int)), (0, (psm (g 139) P i)), (0, ((i : Nat) : Int)), (0, (bst (g 139) (pks (g 139) P i) P)), (0, ((p : Nat) : Int))]) (st' := [(0, (g 139 (bst (g 139) (pks (g 139) P i) P).toNat)), (0, (psm (g 139) P i))]) (g' := (am_up h 140 ((bst (g 139) (pks (g 139) P i) P).toNat) 1)) ?_ (by rfl) (by rw [up_ne (by decide), hF 139 _ (by decide)]) (by rfl)
                    refine wp_n 4 (pc' := 25) (L' := [(2, 127), (0, ((j : Nat) : Int)), (0, ((psm (g 139) P i) + (g 139 (bst (g 139) (pks (g 139) P i) P).toNat))), (0, (((i : Nat) : Int) + 1)), (0, (bst (g 139) (pks (g 139) P i) P)), (0, ((p : Nat) : Int))]) (st' := []) (g' := (am_up h 140 ((bst (g 139) (pks (g 139) P i) P).toNat) 1)) rfl ?_
                    refine wp_eq (ih25 (i + 1) ((am_up h 140 ((bst (g 139) (pks (g 139) P i) P).toNat) 1)) ((0, (bst (g 139) (pks (g 139) P i) P))) ((0, ((p : Nat) : Int))) ?_ ?_ ?_ ?_) (by rw [psm]; rfl) (by rfl) (by rfl)
                    · omega
                    · omega
                    · intro q hq
                      rw [pks_s]
                      by_cases e : q = (bst (g 139) (pks (g 139) P i) P).toNat
                      · subst e; rw [up_eq, decide_eq_true (by omega), Bool.or_true]; rfl
                      · rw [up_nj e, hC q hq, decide_eq_false (by omega), Bool.or_false]
                    · exact fun c k q => (up_ne q).trans (hF c k q)
                  · have hbi := bst_in (g 139) (pks (g 139) P i) p
                    have hTp := hT p (by omega)
                    have hCp := hC p (by omega)
                    refine wp_n 3 (pc' := 51) (L' := [(2, 127), (0, ((j : Nat) : Int)), (0, (psm (g 139) P i)), (0, ((i : Nat) : Int)), (0, (bst (g 139) (pks (g 139) P i) p)), (0, ((p : Nat) : Int))]) (st' := [(0, ((p : Nat) : Int)), (2, 140)]) (g' := h) rfl ?_
                    refine wp_bald (k := 140) (p) rfl rfl (by omega) (by omega) (by decide) ?_
                    refine wp_if_ne rfl (fun c4 => ?_) (fun c4 => ?_)
                    · have hxt : (pks (g 139) P i) p = true := by cases hx : (pks (g 139) P i) p with | true => rfl | false => (rw [hx] at hCp; simp only [Bool.false_eq_true, if_false] at hCp; omega)
                      refine wp_n 2 (pc' := 36) (L' := [(2, 127), (0, ((j : Nat) : Int)), (0, (psm (g 139) P i)), (0, ((i : Nat) : Int)), (0, (bst (g 139) (pks (g 139) P i) p)), (0, (((p : Nat) : Int) + 1))]) (st' := []) (g' := h) rfl ?_
                      refine wp_eq (ih36 (p + 1) ?_ ?_) (by first | (rw [bst_s, if_pos ⟨hxf, by omega⟩]; rfl) | (rw [bst_s, if_neg (fun k => by have := k.2; omega)]; rfl) | (rw [bst_s, if_neg (fun k => by rw [hxt] at k; exact absurd k.1 (by decide))]; rfl)) (by rfl) (by rfl)
                      · omega
                      · omega
                    · have hxf : (pks (g 139) P i) p = false := by cases hx : (pks (g 139) P i) p with | true => (rw [hx] at hCp; simp only [if_true] at hCp; omega) | false => rfl
                      refine wp_n 1 (pc' := 57) (L' := [(2, 127), (0, ((j : Nat) : Int)), (0, (psm (g 139) P i)), (0, ((i : Nat) : Int)), (0, (bst (g 139) (pks (g 139) P i) p)), (0, ((p : Nat) : Int))]) (st' := [(0, (bst (g 139) (pks (g 139) P i) p))]) (g' := h) rfl ?_
                      refine wp_if_lt rfl (fun c5 => ?_) (fun c5 => ?_)
                      · refine wp_n 4 (pc' := 36) (L' := [(2, 127), (0, ((j : Nat) : Int)), (0, (psm (g 139) P i)), (0, ((i : Nat) : Int)), (0, ((p : Nat) : Int)), (0, (((p : Nat) : Int) + 1))]) (st' := []) (g' := h) rfl ?_
                        refine wp_eq (ih36 (p + 1) ?_ ?_) (by first | (rw [bst_s, if_pos ⟨hxf, by omega⟩]; rfl) | (rw [bst_s, if_neg (fun k => by have := k.2; omega)]; rfl) | (rw [bst_s, if_neg (fun k => by rw [hxt] at k; exact absurd k.1 (by decide))]; rfl)) (by rfl) (by rfl)
                        · omega
                        · omega
                      · have hTc := hT (bst (g 139) (pks (g 139) P i) p).toNat (by omega)
                        refine wp_n 3 (pc' := 66) (L' := [(2, 127), (0, ((j : Nat) : Int)), (0, (psm (g 139) P i)), (0, ((i : Nat) : Int)), (0, (bst (g 139) (pks (g 139) P i) p)), (0, ((p : Nat) : Int))]) (st' := [(0, ((p : Nat) : Int)), (2, 139)]) (g' := h) rfl ?_
                        refine wp_iald (k := 139) (p) rfl rfl (by omega) (by omega) (by decide) ?_
                        refine wp_eq (L' := [(2, 127), (0, ((j : Nat) : Int)), (0, (psm (g 139) P i)), (0, ((i : Nat) : Int)), (0, (bst (g 139) (pks (g 139) P i) p)), (0, ((p : Nat) : Int))]) (st' := [(0, (g 139 p))]) (g' := h) ?_ (by rfl) (by rw [hF 139 p (by decide)]) (by rfl)
                        refine wp_n 3 (pc' := 73) (L' := [(2, 127), (0, ((j : Nat) : Int)), (0, (psm (g 139) P i)), (0, ((i : Nat) : Int)), (0, (bst (g 139) (pks (g 139) P i) p)), (0, ((p : Nat) : Int))]) (st' := [(0, (bst (g 139) (pks (g 139) P i) p)), (2, 139), (0, (g 139 p))]) (g' := h) rfl ?_
                        refine wp_iald (k := 139) ((bst (g 139) (pks (g 139) P i) p).toNat) rfl rfl (by omega) (by omega) (by decide) ?_
                        refine wp_eq (L' := [(2, 127), (0, ((j : Nat) : Int)), (0, (psm (g 139) P i)), (0, ((i : Nat) : Int)), (0, (bst (g 139) (pks (g 139) P i) p)), (0, ((p : Nat) : Int))]) (st' := [(0, (g 139 (bst (g 139) (pks (g 139) P i) p).toNat)), (0, (g 139 p))]) (g' := h) ?_ (by rfl) (by rw [hF 139 _ (by decide)]) (by rfl)
                        refine wp_ic_le rfl (fun c6 => ?_) (fun c6 => ?_)
                        · refine wp_n 2 (pc' := 36) (L' := [(2, 127), (0, ((j : Nat) : Int)), (0, (psm (g 139) P i)), (0, ((i : Nat) : Int)), (0, (bst (g 139) (pks (g 139) P i) p)), (0, (((p : Nat) : Int) + 1))]) (st' := []) (g' := h) rfl ?_
                          refine wp_eq (ih36 (p + 1) ?_ ?_) (by first | (rw [bst_s, if_pos ⟨hxf, by omega⟩]; rfl) | (rw [bst_s, if_neg (fun k => by have := k.2; omega)]; rfl) | (rw [bst_s, if_neg (fun k => by rw [hxt] at k; exact absurd k.1 (by decide))]; rfl)) (by rfl) (by rfl)
                          · omega
                          · omega
                        · refine wp_n 4 (pc' := 36) (L' := [(2, 127), (0, ((j : Nat) : Int)), (0, (psm (g 139) P i)), (0, ((i : Nat) : Int)), (0, ((p : Nat) : Int)), (0, (((p : Nat) : Int) + 1))]) (st' := []) (g' := h) rfl ?_
                          refine wp_eq (ih36 (p + 1) ?_ ?_) (by first | (rw [bst_s, if_pos ⟨hxf, by omega⟩]; rfl) | (rw [bst_s, if_neg (fun k => by have := k.2; omega)]; rfl) | (rw [bst_s, if_neg (fun k => by rw [hxt] at k; exact absurd k.1 (by decide))]; rfl)) (by rfl) (by rfl)
                          · omega
                          · omega
              refine wp_eq (L36 (_ + 1) (0) (Nat.lt_succ_self _) ?_) (by first | rfl | (simp; done) | (simp; omega)) (by rfl) (by rfl)
              · exact Nat.zero_le _
        refine wp_eq (L25 (_ + 1) (0) (h) (w4) (w5) (Nat.lt_succ_self _) ?_ ?_ ?_) (by first | rfl | (simp; done) | (simp; omega)) (by rfl) (by rfl)
        · exact Nat.zero_le _
        · exact fun p hp => (hz p (by omega)).trans rfl
        · exact hF0
      · refine wp_n 4 (pc' := 16) (L' := [(2, 127), (0, ((j : Nat) : Int)), (0, 0), (0, ((p : Nat) : Int)), w4, w5]) (st' := [(0, 0), (0, ((p : Nat) : Int)), (2, 140)]) (g' := h) rfl ?_
        refine wp_bast (k := 140) (p) rfl rfl (by omega) (by omega) (by decide) (by omega) ?_
        refine wp_n 2 (pc' := 4) (L' := [(2, 127), (0, ((j : Nat) : Int)), (0, 0), (0, (((p : Nat) : Int) + 1)), w4, w5]) (st' := []) (g' := (am_up h 140 p 0)) rfl ?_
        refine wp_eq (ih4 (p + 1) ((am_up h 140 p 0)) (w4) (w5) ?_ ?_ ?_ ?_) (by first | rfl | (simp; done) | (simp; omega)) (by rfl) (by rfl)
        · omega
        · omega
        · intro u hu
          by_cases q : u = p
          · subst q; exact up_eq
          · rw [up_nj q]; exact hz u (by omega)
        · exact fun c k q => (up_ne q).trans (hF0 c k q)
  refine wp_eq (L4 (_ + 1) (0) (g) ((9, 0)) ((9, 0)) (Nat.lt_succ_self _) ?_ ?_ ?_) (by first | rfl | (simp; done) | (simp; omega)) (by rfl) (by rfl)
  · exact Nat.zero_le _
  · exact fun u hu => absurd hu (Nat.not_lt_zero _)
  · exact fun _ _ _ => rfl
set_option maxHeartbeats 400000 in
set_option maxRecDepth 20000 in
theorem m_nine {sn : Nat} {sx : Nat → Int} {b : Nat} {g : am_G} {c : am_G} {P : Nat} {w j x : Int} (h_w : R32 w) (h_j : R32 j) (h_x : R32 x) (hI : CInv P c) (hM : MRel c g) : Ev sn sx 8 238 [(2, 127), (0, w), (0, j), (0, x)] (SH b) g (fun r => ∃ g' v, r = (some (0, v), SH b, g') ∧ NiA P c w j x v ∧ FrN g g') := by
  have h5 := hI.ck.1
  have hP : g 127 0 = (P : Int) := hM.n.trans hI.ck.2.1
  have hw1 : -2147483648 ≤ w ∧ w < 2147483648 := h_w
  have hj1 : -2147483648 ≤ j ∧ j < 2147483648 := h_j
  have hx1 : -2147483648 ≤ x ∧ x < 2147483648 := h_x
  refine ev_of (K := 7) T238 (by decide) rfl rfl (Nat.le_of_ble_eq_true rfl) ?_
  refine wp_eq (L' := [(2, 127), (0, w), (0, j), (0, x), (9, 0), (9, 0), (9, 0)]) (st' := []) (g' := g) ?_
  refine wp_n 1 (pc' := 1) (L' := [(2, 127), (0, w), (0, j), (0, x), (9, 0), (9, 0), (9, 0)]) (st' := [(0, w)]) (g' := g) rfl ?_
  refine wp_cs (as := [(0, w)]) (rest := []) rfl (by decide) rfl (Nat.le_of_ble_eq_true rfl) (e_MisWheel (by omega)) (by decide) (fun r2 h3 => ?_)
  rcases h3 with ⟨rfl, p1⟩ | ⟨rfl, p1⟩
  · refine wp_eq (L' := [(2, 127), (0, w), (0, j), (0, x), (9, 0), (9, 0), (9, 0)]) (st' := [(0, 1)]) (g' := g) ?_
    refine wp_n 4 (pc' := 11) (L' := [(2, 127), (0, w), (0, j), (0, x), (9, 0), (9, 0), (9, 0)]) (st' := [(0, 9), (0, 1), (0, j)]) (g' := g) rfl ?_
    refine wp_cs (as := [(0, j), (0, 1), (0, 9)]) (rest := []) rfl (by decide) rfl (Nat.le_of_ble_eq_true rfl) (e_isIn (by omega) (by omega) (by omega)) (by decide) (fun r5 h6 => ?_)
    rcases h6 with ⟨rfl, p4⟩ | ⟨rfl, p4⟩
    · refine wp_eq (L' := [(2, 127), (0, w), (0, j), (0, x), (9, 0), (9, 0), (9, 0)]) (st' := [(0, 1)]) (g' := g) ?_
      refine wp_n 4 (pc' := 22) (L' := [(2, 127), (0, w), (0, j), (0, x), (9, 0), (9, 0), (9, 0)]) (st' := [(0, (g 127 0)), (0, j)]) (g' := g) rfl ?_
      refine wp_eq (L' := [(2, 127), (0, w), (0, j), (0, x), (9, 0), (9, 0), (9, 0)]) (st' := [(0, ((P : Nat) : Int)), (0, j)]) (g' := g) ?_ (by rfl) (by rw [hP]) (by rfl)
      refine wp_ic_ge rfl (fun c7 => ?_) (fun c7 => ?_)
      · refine wp_n 1 (pc' := 48) (L' := [(2, 127), (0, w), (0, j), (0, x), (9, 0), (9, 0), (9, 0)]) (st' := [(0, (-1))]) (g' := g) rfl ?_
        exact wp_ret rfl rfl rfl ⟨_, _, rfl, Or.inr ⟨by unfold NiD; omega, rfl⟩, FrN.rfl⟩
      · refine wp_n 3 (pc' := 28) (L' := [(2, 127), (0, w), (0, j), (0, x), (9, 0), (9, 0), (9, 0)]) (st' := [(0, 1), (0, 0), (0, x)]) (g' := g) rfl ?_
        refine wp_cs (as := [(0, x), (0, 0), (0, 1)]) (rest := []) rfl (by decide) rfl (Nat.le_of_ble_eq_true rfl) (e_isIn (by omega) (by omega) (by omega)) (by decide) (fun r9 h10 => ?_)
        rcases h10 with ⟨rfl, p8⟩ | ⟨rfl, p8⟩
        · refine wp_eq (L' := [(2, 127), (0, w), (0, j), (0, x), (9, 0), (9, 0), (9, 0)]) (st' := [(0, 1)]) (g' := g) ?_
          refine wp_n 3 (pc' := 51) (L' := [(2, 127), (0, w), (0, j), (0, x), (9, 0), (9, 0), (9, 0)]) (st' := [(0, w), (2, 127)]) (g' := g) rfl ?_
          refine wp_cv (as := [(2, 127), (0, w)]) (rest := []) rfl rfl rfl (Nat.le_of_ble_eq_true rfl) rfl (m_fall (c := c) (P := P) (w := w) (by assumption) hI hM) (by decide) (fun r11 h12 => ?_)
          obtain ⟨g51, N51, rfl, hN51, hb51, hA51, hF51⟩ := h12
          obtain ⟨S51, hS51, hNe, hTe⟩ := id hA51
          have hn := hI.rg.r10_6 4 rfl
          have hTb : ∀ p, p < P → 0 ≤ g51 139 p ∧ g51 139 p ≤ 200 := fun p hp => by
            rw [hTe p hp]
            have := fallT_in (ev := c 11) (tb := c 12) (fl := c 14) (S := S51) (w := w) (p := p) (c 10 4).toNat
            have := fallN_le (ev := c 11) (tb := c 12) (fl := c 14) (S := S51) (w := w) (c 10 4).toNat
            omega
          have hP51 : g51 127 0 = (P : Int) := (hF51 127 0 (by unfold Sm; omega)).trans hP
          have hs51 := psm_in (P := P) hTb j.toNat (by omega)
          have hcn51 := (pks_cn (T := g51 139) (P := P) j.toNat (by omega)).1
          refine wp_eq (L' := [(2, 127), (0, w), (0, j), (0, x), (9, 0), (9, 0), (9, 0)]) (st' := []) (g' := g51) ?_
          refine wp_n 2 (pc' := 56) (L' := [(2, 127), (0, w), (0, j), (0, x), (9, 0), (9, 0), (9, 0)]) (st' := [(0, j), (2, 127)]) (g' := g51) rfl ?_
          refine wp_eq (L' := [(2, 127), (0, w), (0, j), (0, x), (9, 0), (9, 0), (9, 0)]) (st' := [(0, ((j.toNat : Nat) : Int)), (2, 127)]) (g' := g51) ?_ (by rfl) (by rw [Int.toNat_of_nonneg (by omega)]) (by rfl)
          refine wp_cv (as := [(2, 127), (0, ((j.toNat : Nat) : Int))]) (rest := []) rfl rfl rfl (Nat.le_of_ble_eq_true rfl) rfl (m_pickMost (P := P) (j := (j.toNat)) hP51 h5 (by omega) hTb) (by decide) (fun r13 h14 => ?_)
          obtain ⟨g56, rfl, hC56, hF56⟩ := h14
          have hF56_ := hF56
          have hF56 : FrN g g56 := hF51.trans fun c k hc => hF56_ c k (by unfold Sm at hc; omega)
          have hN56 : g56 127 33 = (N51 : Int) := by rw [show g56 127 33 = g51 127 33 from hF56_ 127 33 (by decide)]; exact hN51
          refine wp_eq (L' := [(2, 127), (0, w), (0, j), (0, x), (9, 0), (9, 0), (9, 0)]) (st' := [(0, (psm (g51 139) P (j.toNat)))]) (g' := g56) ?_
          refine wp_n 2 (pc' := 62) (L' := [(2, 127), (0, w), (0, j), (0, x), (0, (psm (g51 139) P (j.toNat))), (9, 0), (9, 0)]) (st' := [(0, x)]) (g' := g56) rfl ?_
          refine wp_if_ne rfl (fun c15 => ?_) (fun c15 => ?_)
          · refine wp_n 2 (pc' := 70) (L' := [(2, 127), (0, w), (0, j), (0, x), (0, (psm (g51 139) P (j.toNat))), (9, 0), (9, 0)]) (st' := [(0, 1), (0, x)]) (g' := g56) rfl ?_
            refine wp_ic_ne rfl (fun c16 => ?_) (fun c16 => ?_)
            · refine wp_n 6 (pc' := 94) (L' := [(2, 127), (0, w), (0, j), (0, x), (0, (psm (g51 139) P (j.toNat))), (0, (x - 10)), (0, 0)]) (st' := []) (g' := g56) rfl ?_
              have L94 : ∀ (lf : Nat) (k : Nat), P - k < lf → (k ≤ P) → ((cnB (pks (g51 139) P j.toNat) k : Int) ≤ x - 10) → Wp sn sx 7 T238 94 [(2, 127), (0, w), (0, j), (0, x), (0, (psm (g51 139) P (j.toNat))), (0, ((x - 10) - ((cnB (pks (g51 139) P j.toNat) k : Nat) : Int))), (0, ((k : Nat) : Int))] [] (SH b) g56 (fun r => ∃ g' v, r = (some (0, v), SH b, g') ∧ NiA P c w j x v ∧ FrN g g') := by
                intro lf
                induction lf with
                | zero => intro k hlf; exact absurd hlf (Nat.not_lt_zero _)
                | succ lf ih94 =>
                  intro k hlf hk hc
                  have hkP : k < P := by
                    by_cases e : k = P
                    · subst e; rw [hcn51] at hc; omega
                    · omega
                  have hCk := hC56 k (by omega)
                  have hckl := cnB_le (pks (g51 139) P j.toNat) k
                  refine wp_n 3 (pc' := 100) (L' := [(2, 127), (0, w), (0, j), (0, x), (0, (psm (g51 139) P (j.toNat))), (0, ((x - 10) - ((cnB (pks (g51 139) P j.toNat) k : Nat) : Int))), (0, ((k : Nat) : Int))]) (st' := [(0, ((k : Nat) : Int)), (2, 140)]) (g' := g56) rfl ?_
                  refine wp_bald (k := 140) (k) rfl rfl (by omega) (by omega) (by decide) ?_
                  refine wp_if_eq rfl (fun c17 => ?_) (fun c17 => ?_)
                  · have hxf : ¬ (pks (g51 139) P j.toNat) k = true := fun e => by (rw [e] at hCk; simp only [if_true] at hCk; omega)
                    refine wp_n 4 (pc' := 117) (L' := [(2, 127), (0, w), (0, j), (0, x), (0, (psm (g51 139) P (j.toNat))), (0, ((x - 10) - ((cnB (pks (g51 139) P j.toNat) k : Nat) : Int))), (0, ((k : Nat) : Int))]) (st' := [(0, ((k : Nat) : Int)), (2, 140), (0, ((x - 10) - ((cnB (pks (g51 139) P j.toNat) k : Nat) : Int)))]) (g' := g56) rfl ?_
                    refine wp_bald (k := 140) (k) rfl rfl (by omega) (by omega) (by decide) ?_
                    refine wp_if_eq rfl (fun c18 => ?_) (fun c18 => ?_)
                    · have hxf : ¬ (pks (g51 139) P j.toNat) k = true := fun e => by (rw [e] at hCk; simp only [if_true] at hCk; omega)
                      refine wp_n 5 (pc' := 94) (L' := [(2, 127), (0, w), (0, j), (0, x), (0, (psm (g51 139) P (j.toNat))), (0, (((x - 10) - ((cnB (pks (g51 139) P j.toNat) k : Nat) : Int)) - 0)), (0, (((k : Nat) : Int) + 1))]) (st' := []) (g' := g56) rfl ?_
                      refine wp_eq (ih94 (k + 1) ?_ ?_ ?_) (by first | exact absurd hxt hxf | (rw [cnB, if_pos hxt]; simp only [Int.natCast_add, Int.natCast_one, Int.sub_sub]; rfl) | (rw [cnB, if_neg hxf]; simp only [Nat.add_zero, Int.sub_zero]; rfl)) (by rfl) (by rfl)
                      · omega
                      · omega
                      · first | exact absurd hxt hxf | (rw [cnB, if_pos hxt]; omega) | (rw [cnB, if_neg hxf]; omega)
                    · have hxt : (pks (g51 139) P j.toNat) k = true := by cases hx : (pks (g51 139) P j.toNat) k with | true => rfl | false => (rw [hx] at hCk; simp only [Bool.false_eq_true, if_false] at hCk; omega)
                      refine wp_n 6 (pc' := 94) (L' := [(2, 127), (0, w), (0, j), (0, x), (0, (psm (g51 139) P (j.toNat))), (0, (((x - 10) - ((cnB (pks (g51 139) P j.toNat) k : Nat) : Int)) - 1)), (0, (((k : Nat) : Int) + 1))]) (st' := []) (g' := g56) rfl ?_
                      refine wp_eq (ih94 (k + 1) ?_ ?_ ?_) (by first | exact absurd hxt hxf | (rw [cnB, if_pos hxt]; simp only [Int.natCast_add, Int.natCast_one, Int.sub_sub]; rfl) | (rw [cnB, if_neg hxf]; simp only [Nat.add_zero, Int.sub_zero]; rfl)) (by rfl) (by rfl)
                      · omega
                      · omega
                      · first | exact absurd hxt hxf | (rw [cnB, if_pos hxt]; omega) | (rw [cnB, if_neg hxf]; omega)
                  · have hxt : (pks (g51 139) P j.toNat) k = true := by cases hx : (pks (g51 139) P j.toNat) k with | true => rfl | false => (rw [hx] at hCk; simp only [Bool.false_eq_true, if_false] at hCk; omega)
                    refine wp_n 1 (pc' := 106) (L' := [(2, 127), (0, w), (0, j), (0, x), (0, (psm (g51 139) P (j.toNat))), (0, ((x - 10) - ((cnB (pks (g51 139) P j.toNat) k : Nat) : Int))), (0, ((k : Nat) : Int))]) (st' := [(0, ((x - 10) - ((cnB (pks (g51 139) P j.toNat) k : Nat) : Int)))]) (g' := g56) rfl ?_
                    refine wp_if_le rfl (fun c19 => ?_) (fun c19 => ?_)
                    · refine wp_n 1 (pc' := 137) (L' := [(2, 127), (0, w), (0, j), (0, x), (0, (psm (g51 139) P (j.toNat))), (0, ((x - 10) - ((cnB (pks (g51 139) P j.toNat) k : Nat) : Int))), (0, ((k : Nat) : Int))]) (st' := [(0, ((k : Nat) : Int))]) (g' := g56) rfl ?_
                      exact wp_ret rfl rfl rfl ⟨_, _, rfl, Or.inl ⟨by unfold NiD; omega, _, _, hA51, Or.inr (Or.inr ⟨by omega, k, rfl, by omega, hxt, by omega⟩)⟩, hF56⟩
                    · refine wp_n 4 (pc' := 117) (L' := [(2, 127), (0, w), (0, j), (0, x), (0, (psm (g51 139) P (j.toNat))), (0, ((x - 10) - ((cnB (pks (g51 139) P j.toNat) k : Nat) : Int))), (0, ((k : Nat) : Int))]) (st' := [(0, ((k : Nat) : Int)), (2, 140), (0, ((x - 10) - ((cnB (pks (g51 139) P j.toNat) k : Nat) : Int)))]) (g' := g56) rfl ?_
                      refine wp_bald (k := 140) (k) rfl rfl (by omega) (by omega) (by decide) ?_
                      refine wp_if_eq rfl (fun c20 => ?_) (fun c20 => ?_)
                      · have hxf : ¬ (pks (g51 139) P j.toNat) k = true := fun e => by (rw [e] at hCk; simp only [if_true] at hCk; omega)
                        refine wp_n 5 (pc' := 94) (L' := [(2, 127), (0, w), (0, j), (0, x), (0, (psm (g51 139) P (j.toNat))), (0, (((x - 10) - ((cnB (pks (g51 139) P j.toNat) k : Nat) : Int)) - 0)), (0, (((k : Nat) : Int) + 1))]) (st' := []) (g' := g56) rfl ?_
                        refine wp_eq (ih94 (k + 1) ?_ ?_ ?_) (by first | exact absurd hxt hxf | (rw [cnB, if_pos hxt]; simp only [Int.natCast_add, Int.natCast_one, Int.sub_sub]; rfl) | (rw [cnB, if_neg hxf]; simp only [Nat.add_zero, Int.sub_zero]; rfl)) (by rfl) (by rfl)
                        · omega
                        · omega
                        · first | exact absurd hxt hxf | (rw [cnB, if_pos hxt]; omega) | (rw [cnB, if_neg hxf]; omega)
                      · have hxt : (pks (g51 139) P j.toNat) k = true := by cases hx : (pks (g51 139) P j.toNat) k with | true => rfl | false => (rw [hx] at hCk; simp only [Bool.false_eq_true, if_false] at hCk; omega)
                        refine wp_n 6 (pc' := 94) (L' := [(2, 127), (0, w), (0, j), (0, x), (0, (psm (g51 139) P (j.toNat))), (0, (((x - 10) - ((cnB (pks (g51 139) P j.toNat) k : Nat) : Int)) - 1)), (0, (((k : Nat) : Int) + 1))]) (st' := []) (g' := g56) rfl ?_
                        refine wp_eq (ih94 (k + 1) ?_ ?_ ?_) (by first | exact absurd hxt hxf | (rw [cnB, if_pos hxt]; simp only [Int.natCast_add, Int.natCast_one, Int.sub_sub]; rfl) | (rw [cnB, if_neg hxf]; simp only [Nat.add_zero, Int.sub_zero]; rfl)) (by rfl) (by rfl)
                        · omega
                        · omega
                        · first | exact absurd hxt hxf | (rw [cnB, if_pos hxt]; omega) | (rw [cnB, if_neg hxf]; omega)
              refine wp_eq (L94 (_ + 1) (0) (Nat.lt_succ_self _) ?_ ?_) (by rw [show ((cnB (pks (g51 139) P j.toNat) 0 : Nat) : Int) = 0 from rfl, Int.sub_zero]; rfl) (by rfl) (by rfl)
              · exact Nat.zero_le _
              · show (0 : Int) ≤ x - 10; omega
            · refine wp_n 3 (pc' := 78) (L' := [(2, 127), (0, w), (0, j), (0, x), (0, (psm (g51 139) P (j.toNat))), (9, 0), (9, 0)]) (st' := [(0, (g56 127 33)), (2, 127)]) (g' := g56) rfl ?_
              refine wp_eq (L' := [(2, 127), (0, w), (0, j), (0, x), (0, (psm (g51 139) P (j.toNat))), (9, 0), (9, 0)]) (st' := [(0, ((N51 : Nat) : Int)), (2, 127)]) (g' := g56) ?_ (by rfl) (by rw [hN56]) (by rfl)
              refine wp_n 2 (pc' := 81) (L' := [(2, 127), (0, w), (0, j), (0, x), (0, (psm (g51 139) P (j.toNat))), (9, 0), (9, 0)]) (st' := [(0, j), (0, (psm (g51 139) P (j.toNat))), (0, ((N51 : Nat) : Int)), (2, 127)]) (g' := g56) rfl ?_
              refine wp_cv (as := [(2, 127), (0, ((N51 : Nat) : Int)), (0, (psm (g51 139) P (j.toNat))), (0, j)]) (rest := []) rfl rfl rfl (Nat.le_of_ble_eq_true rfl) rfl (m_among (P := P) (x := (N51 : Int)) (y := psm (g51 139) P j.toNat) (z := j) (by omega) (by omega) h_j ((hF56 127 0 (by unfold Sm; omega)).trans hP) h5) (by decide) (fun r21 h22 => ?_)
              obtain ⟨g81, v81, rfl, hB81, hF81⟩ := h22
              have hAm : AmA P N51 (psm (g51 139) P j.toNat) j v81 := by
                rcases hB81 with ⟨q1, q2⟩ | q
                · refine Or.inl ⟨q1, ?_⟩
                  have hw0 : (0 : Int) < (P : Int) ^ (N51 : Int).toNat := Int.pow_pos (by omega)
                  exact ⟨q2.1, q2.2.1, q2.2.2.1, q2.2.2.2⟩
                · exact Or.inr q
              refine wp_eq (L' := [(2, 127), (0, w), (0, j), (0, x), (0, (psm (g51 139) P (j.toNat))), (9, 0), (9, 0)]) (st' := [(0, v81)]) (g' := g81) ?_
              exact wp_ret rfl rfl rfl ⟨_, _, rfl, Or.inl ⟨by unfold NiD; omega, _, _, hA51, Or.inr (Or.inl ⟨by omega, hAm⟩)⟩, hF56.r hF81⟩
          · refine wp_n 1 (pc' := 67) (L' := [(2, 127), (0, w), (0, j), (0, x), (0, (psm (g51 139) P (j.toNat))), (9, 0), (9, 0)]) (st' := [(0, (psm (g51 139) P (j.toNat)))]) (g' := g56) rfl ?_
            exact wp_ret rfl rfl rfl ⟨_, _, rfl, Or.inl ⟨by unfold NiD; omega, _, _, hA51, Or.inl ⟨by omega, rfl⟩⟩, hF56⟩
        · refine wp_eq (L' := [(2, 127), (0, w), (0, j), (0, x), (9, 0), (9, 0), (9, 0)]) (st' := [(0, 0)]) (g' := g) ?_
          refine wp_n 6 (pc' := 41) (L' := [(2, 127), (0, w), (0, j), (0, x), (9, 0), (9, 0), (9, 0)]) (st' := [(0, (9 + j)), (0, 10), (0, x)]) (g' := g) rfl ?_
          refine wp_cs (as := [(0, x), (0, 10), (0, (9 + j))]) (rest := []) rfl (by decide) rfl (Nat.le_of_ble_eq_true rfl) (e_isIn (by omega) (by omega) (by omega)) (by decide) (fun r24 h25 => ?_)
          rcases h25 with ⟨rfl, p23⟩ | ⟨rfl, p23⟩
          · refine wp_eq (L' := [(2, 127), (0, w), (0, j), (0, x), (9, 0), (9, 0), (9, 0)]) (st' := [(0, 1)]) (g' := g) ?_
            refine wp_n 3 (pc' := 51) (L' := [(2, 127), (0, w), (0, j), (0, x), (9, 0), (9, 0), (9, 0)]) (st' := [(0, w), (2, 127)]) (g' := g) rfl ?_
            refine wp_cv (as := [(2, 127), (0, w)]) (rest := []) rfl rfl rfl (Nat.le_of_ble_eq_true rfl) rfl (m_fall (c := c) (P := P) (w := w) (by assumption) hI hM) (by decide) (fun r26 h27 => ?_)
            obtain ⟨g51, N51, rfl, hN51, hb51, hA51, hF51⟩ := h27
            obtain ⟨S51, hS51, hNe, hTe⟩ := id hA51
            have hn := hI.rg.r10_6 4 rfl
            have hTb : ∀ p, p < P → 0 ≤ g51 139 p ∧ g51 139 p ≤ 200 := fun p hp => by
              rw [hTe p hp]
              have := fallT_in (ev := c 11) (tb := c 12) (fl := c 14) (S := S51) (w := w) (p := p) (c 10 4).toNat
              have := fallN_le (ev := c 11) (tb := c 12) (fl := c 14) (S := S51) (w := w) (c 10 4).toNat
              omega
            have hP51 : g51 127 0 = (P : Int) := (hF51 127 0 (by unfold Sm; omega)).trans hP
            have hs51 := psm_in (P := P) hTb j.toNat (by omega)
            have hcn51 := (pks_cn (T := g51 139) (P := P) j.toNat (by omega)).1
            refine wp_eq (L' := [(2, 127), (0, w), (0, j), (0, x), (9, 0), (9, 0), (9, 0)]) (st' := []) (g' := g51) ?_
            refine wp_n 2 (pc' := 56) (L' := [(2, 127), (0, w), (0, j), (0, x), (9, 0), (9, 0), (9, 0)]) (st' := [(0, j), (2, 127)]) (g' := g51) rfl ?_
            refine wp_eq (L' := [(2, 127), (0, w), (0, j), (0, x), (9, 0), (9, 0), (9, 0)]) (st' := [(0, ((j.toNat : Nat) : Int)), (2, 127)]) (g' := g51) ?_ (by rfl) (by rw [Int.toNat_of_nonneg (by omega)]) (by rfl)
            refine wp_cv (as := [(2, 127), (0, ((j.toNat : Nat) : Int))]) (rest := []) rfl rfl rfl (Nat.le_of_ble_eq_true rfl) rfl (m_pickMost (P := P) (j := (j.toNat)) hP51 h5 (by omega) hTb) (by decide) (fun r28 h29 => ?_)
            obtain ⟨g56, rfl, hC56, hF56⟩ := h29
            have hF56_ := hF56
            have hF56 : FrN g g56 := hF51.trans fun c k hc => hF56_ c k (by unfold Sm at hc; omega)
            have hN56 : g56 127 33 = (N51 : Int) := by rw [show g56 127 33 = g51 127 33 from hF56_ 127 33 (by decide)]; exact hN51
            refine wp_eq (L' := [(2, 127), (0, w), (0, j), (0, x), (9, 0), (9, 0), (9, 0)]) (st' := [(0, (psm (g51 139) P (j.toNat)))]) (g' := g56) ?_
            refine wp_n 2 (pc' := 62) (L' := [(2, 127), (0, w), (0, j), (0, x), (0, (psm (g51 139) P (j.toNat))), (9, 0), (9, 0)]) (st' := [(0, x)]) (g' := g56) rfl ?_
            refine wp_if_ne rfl (fun c30 => ?_) (fun c30 => ?_)
            · refine wp_n 2 (pc' := 70) (L' := [(2, 127), (0, w), (0, j), (0, x), (0, (psm (g51 139) P (j.toNat))), (9, 0), (9, 0)]) (st' := [(0, 1), (0, x)]) (g' := g56) rfl ?_
              refine wp_ic_ne rfl (fun c31 => ?_) (fun c31 => ?_)
              · refine wp_n 6 (pc' := 94) (L' := [(2, 127), (0, w), (0, j), (0, x), (0, (psm (g51 139) P (j.toNat))), (0, (x - 10)), (0, 0)]) (st' := []) (g' := g56) rfl ?_
                have L94 : ∀ (lf : Nat) (k : Nat), P - k < lf → (k ≤ P) → ((cnB (pks (g51 139) P j.toNat) k : Int) ≤ x - 10) → Wp sn sx 7 T238 94 [(2, 127), (0, w), (0, j), (0, x), (0, (psm (g51 139) P (j.toNat))), (0, ((x - 10) - ((cnB (pks (g51 139) P j.toNat) k : Nat) : Int))), (0, ((k : Nat) : Int))] [] (SH b) g56 (fun r => ∃ g' v, r = (some (0, v), SH b, g') ∧ NiA P c w j x v ∧ FrN g g') := by
                  intro lf
                  induction lf with
                  | zero => intro k hlf; exact absurd hlf (Nat.not_lt_zero _)
                  | succ lf ih94 =>
                    intro k hlf hk hc
                    have hkP : k < P := by
                      by_cases e : k = P
                      · subst e; rw [hcn51] at hc; omega
                      · omega
                    have hCk := hC56 k (by omega)
                    have hckl := cnB_le (pks (g51 139) P j.toNat) k
                    refine wp_n 3 (pc' := 100) (L' := [(2, 127), (0, w), (0, j), (0, x), (0, (psm (g51 139) P (j.toNat))), (0, ((x - 10) - ((cnB (pks (g51 139) P j.toNat) k : Nat) : Int))), (0, ((k : Nat) : Int))]) (st' := [(0, ((k : Nat) : Int)), (2, 140)]) (g' := g56) rfl ?_
                    refine wp_bald (k := 140) (k) rfl rfl (by omega) (by omega) (by decide) ?_
                    refine wp_if_eq rfl (fun c32 => ?_) (fun c32 => ?_)
                    · have hxf : ¬ (pks (g51 139) P j.toNat) k = true := fun e => by (rw [e] at hCk; simp only [if_true] at hCk; omega)
                      refine wp_n 4 (pc' := 117) (L' := [(2, 127), (0, w), (0, j), (0, x), (0, (psm (g51 139) P (j.toNat))), (0, ((x - 10) - ((cnB (pks (g51 139) P j.toNat) k : Nat) : Int))), (0, ((k : Nat) : Int))]) (st' := [(0, ((k : Nat) : Int)), (2, 140), (0, ((x - 10) - ((cnB (pks (g51 139) P j.toNat) k : Nat) : Int)))]) (g' := g56) rfl ?_
                      refine wp_bald (k := 140) (k) rfl rfl (by omega) (by omega) (by decide) ?_
                      refine wp_if_eq rfl (fun c33 => ?_) (fun c33 => ?_)
                      · have hxf : ¬ (pks (g51 139) P j.toNat) k = true := fun e => by (rw [e] at hCk; simp only [if_true] at hCk; omega)
                        refine wp_n 5 (pc' := 94) (L' := [(2, 127), (0, w), (0, j), (0, x), (0, (psm (g51 139) P (j.toNat))), (0, (((x - 10) - ((cnB (pks (g51 139) P j.toNat) k : Nat) : Int)) - 0)), (0, (((k : Nat) : Int) + 1))]) (st' := []) (g' := g56) rfl ?_
                        refine wp_eq (ih94 (k + 1) ?_ ?_ ?_) (by first | exact absurd hxt hxf | (rw [cnB, if_pos hxt]; simp only [Int.natCast_add, Int.natCast_one, Int.sub_sub]; rfl) | (rw [cnB, if_neg hxf]; simp only [Nat.add_zero, Int.sub_zero]; rfl)) (by rfl) (by rfl)
                        · omega
                        · omega
                        · first | exact absurd hxt hxf | (rw [cnB, if_pos hxt]; omega) | (rw [cnB, if_neg hxf]; omega)
                      · have hxt : (pks (g51 139) P j.toNat) k = true := by cases hx : (pks (g51 139) P j.toNat) k with | true => rfl | false => (rw [hx] at hCk; simp only [Bool.false_eq_true, if_false] at hCk; omega)
                        refine wp_n 6 (pc' := 94) (L' := [(2, 127), (0, w), (0, j), (0, x), (0, (psm (g51 139) P (j.toNat))), (0, (((x - 10) - ((cnB (pks (g51 139) P j.toNat) k : Nat) : Int)) - 1)), (0, (((k : Nat) : Int) + 1))]) (st' := []) (g' := g56) rfl ?_
                        refine wp_eq (ih94 (k + 1) ?_ ?_ ?_) (by first | exact absurd hxt hxf | (rw [cnB, if_pos hxt]; simp only [Int.natCast_add, Int.natCast_one, Int.sub_sub]; rfl) | (rw [cnB, if_neg hxf]; simp only [Nat.add_zero, Int.sub_zero]; rfl)) (by rfl) (by rfl)
                        · omega
                        · omega
                        · first | exact absurd hxt hxf | (rw [cnB, if_pos hxt]; omega) | (rw [cnB, if_neg hxf]; omega)
                    · have hxt : (pks (g51 139) P j.toNat) k = true := by cases hx : (pks (g51 139) P j.toNat) k with | true => rfl | false => (rw [hx] at hCk; simp only [Bool.false_eq_true, if_false] at hCk; omega)
                      refine wp_n 1 (pc' := 106) (L' := [(2, 127), (0, w), (0, j), (0, x), (0, (psm (g51 139) P (j.toNat))), (0, ((x - 10) - ((cnB (pks (g51 139) P j.toNat) k : Nat) : Int))), (0, ((k : Nat) : Int))]) (st' := [(0, ((x - 10) - ((cnB (pks (g51 139) P j.toNat) k : Nat) : Int)))]) (g' := g56) rfl ?_
                      refine wp_if_le rfl (fun c34 => ?_) (fun c34 => ?_)
                      · refine wp_n 1 (pc' := 137) (L' := [(2, 127), (0, w), (0, j), (0, x), (0, (psm (g51 139) P (j.toNat))), (0, ((x - 10) - ((cnB (pks (g51 139) P j.toNat) k : Nat) : Int))), (0, ((k : Nat) : Int))]) (st' := [(0, ((k : Nat) : Int))]) (g' := g56) rfl ?_
                        exact wp_ret rfl rfl rfl ⟨_, _, rfl, Or.inl ⟨by unfold NiD; omega, _, _, hA51, Or.inr (Or.inr ⟨by omega, k, rfl, by omega, hxt, by omega⟩)⟩, hF56⟩
                      · refine wp_n 4 (pc' := 117) (L' := [(2, 127), (0, w), (0, j), (0, x), (0, (psm (g51 139) P (j.toNat))), (0, ((x - 10) - ((cnB (pks (g51 139) P j.toNat) k : Nat) : Int))), (0, ((k : Nat) : Int))]) (st' := [(0, ((k : Nat) : Int)), (2, 140), (0, ((x - 10) - ((cnB (pks (g51 139) P j.toNat) k : Nat) : Int)))]) (g' := g56) rfl ?_
                        refine wp_bald (k := 140) (k) rfl rfl (by omega) (by omega) (by decide) ?_
                        refine wp_if_eq rfl (fun c35 => ?_) (fun c35 => ?_)
                        · have hxf : ¬ (pks (g51 139) P j.toNat) k = true := fun e => by (rw [e] at hCk; simp only [if_true] at hCk; omega)
                          refine wp_n 5 (pc' := 94) (L' := [(2, 127), (0, w), (0, j), (0, x), (0, (psm (g51 139) P (j.toNat))), (0, (((x - 10) - ((cnB (pks (g51 139) P j.toNat) k : Nat) : Int)) - 0)), (0, (((k : Nat) : Int) + 1))]) (st' := []) (g' := g56) rfl ?_
                          refine wp_eq (ih94 (k + 1) ?_ ?_ ?_) (by first | exact absurd hxt hxf | (rw [cnB, if_pos hxt]; simp only [Int.natCast_add, Int.natCast_one, Int.sub_sub]; rfl) | (rw [cnB, if_neg hxf]; simp only [Nat.add_zero, Int.sub_zero]; rfl)) (by rfl) (by rfl)
                          · omega
                          · omega
                          · first | exact absurd hxt hxf | (rw [cnB, if_pos hxt]; omega) | (rw [cnB, if_neg hxf]; omega)
                        · have hxt : (pks (g51 139) P j.toNat) k = true := by cases hx : (pks (g51 139) P j.toNat) k with | true => rfl | false => (rw [hx] at hCk; simp only [Bool.false_eq_true, if_false] at hCk; omega)
                          refine wp_n 6 (pc' := 94) (L' := [(2, 127), (0, w), (0, j), (0, x), (0, (psm (g51 139) P (j.toNat))), (0, (((x - 10) - ((cnB (pks (g51 139) P j.toNat) k : Nat) : Int)) - 1)), (0, (((k : Nat) : Int) + 1))]) (st' := []) (g' := g56) rfl ?_
                          refine wp_eq (ih94 (k + 1) ?_ ?_ ?_) (by first | exact absurd hxt hxf | (rw [cnB, if_pos hxt]; simp only [Int.natCast_add, Int.natCast_one, Int.sub_sub]; rfl) | (rw [cnB, if_neg hxf]; simp only [Nat.add_zero, Int.sub_zero]; rfl)) (by rfl) (by rfl)
                          · omega
                          · omega
                          · first | exact absurd hxt hxf | (rw [cnB, if_pos hxt]; omega) | (rw [cnB, if_neg hxf]; omega)
                refine wp_eq (L94 (_ + 1) (0) (Nat.lt_succ_self _) ?_ ?_) (by rw [show ((cnB (pks (g51 139) P j.toNat) 0 : Nat) : Int) = 0 from rfl, Int.sub_zero]; rfl) (by rfl) (by rfl)
                · exact Nat.zero_le _
                · show (0 : Int) ≤ x - 10; omega
              · refine wp_n 3 (pc' := 78) (L' := [(2, 127), (0, w), (0, j), (0, x), (0, (psm (g51 139) P (j.toNat))), (9, 0), (9, 0)]) (st' := [(0, (g56 127 33)), (2, 127)]) (g' := g56) rfl ?_
                refine wp_eq (L' := [(2, 127), (0, w), (0, j), (0, x), (0, (psm (g51 139) P (j.toNat))), (9, 0), (9, 0)]) (st' := [(0, ((N51 : Nat) : Int)), (2, 127)]) (g' := g56) ?_ (by rfl) (by rw [hN56]) (by rfl)
                refine wp_n 2 (pc' := 81) (L' := [(2, 127), (0, w), (0, j), (0, x), (0, (psm (g51 139) P (j.toNat))), (9, 0), (9, 0)]) (st' := [(0, j), (0, (psm (g51 139) P (j.toNat))), (0, ((N51 : Nat) : Int)), (2, 127)]) (g' := g56) rfl ?_
                refine wp_cv (as := [(2, 127), (0, ((N51 : Nat) : Int)), (0, (psm (g51 139) P (j.toNat))), (0, j)]) (rest := []) rfl rfl rfl (Nat.le_of_ble_eq_true rfl) rfl (m_among (P := P) (x := (N51 : Int)) (y := psm (g51 139) P j.toNat) (z := j) (by omega) (by omega) h_j ((hF56 127 0 (by unfold Sm; omega)).trans hP) h5) (by decide) (fun r36 h37 => ?_)
                obtain ⟨g81, v81, rfl, hB81, hF81⟩ := h37
                have hAm : AmA P N51 (psm (g51 139) P j.toNat) j v81 := by
                  rcases hB81 with ⟨q1, q2⟩ | q
                  · refine Or.inl ⟨q1, ?_⟩
                    have hw0 : (0 : Int) < (P : Int) ^ (N51 : Int).toNat := Int.pow_pos (by omega)
                    exact ⟨q2.1, q2.2.1, q2.2.2.1, q2.2.2.2⟩
                  · exact Or.inr q
                refine wp_eq (L' := [(2, 127), (0, w), (0, j), (0, x), (0, (psm (g51 139) P (j.toNat))), (9, 0), (9, 0)]) (st' := [(0, v81)]) (g' := g81) ?_
                exact wp_ret rfl rfl rfl ⟨_, _, rfl, Or.inl ⟨by unfold NiD; omega, _, _, hA51, Or.inr (Or.inl ⟨by omega, hAm⟩)⟩, hF56.r hF81⟩
            · refine wp_n 1 (pc' := 67) (L' := [(2, 127), (0, w), (0, j), (0, x), (0, (psm (g51 139) P (j.toNat))), (9, 0), (9, 0)]) (st' := [(0, (psm (g51 139) P (j.toNat)))]) (g' := g56) rfl ?_
              exact wp_ret rfl rfl rfl ⟨_, _, rfl, Or.inl ⟨by unfold NiD; omega, _, _, hA51, Or.inl ⟨by omega, rfl⟩⟩, hF56⟩
          · refine wp_eq (L' := [(2, 127), (0, w), (0, j), (0, x), (9, 0), (9, 0), (9, 0)]) (st' := [(0, 0)]) (g' := g) ?_
            refine wp_n 2 (pc' := 48) (L' := [(2, 127), (0, w), (0, j), (0, x), (9, 0), (9, 0), (9, 0)]) (st' := [(0, (-1))]) (g' := g) rfl ?_
            exact wp_ret rfl rfl rfl ⟨_, _, rfl, Or.inr ⟨by unfold NiD; omega, rfl⟩, FrN.rfl⟩
    · refine wp_eq (L' := [(2, 127), (0, w), (0, j), (0, x), (9, 0), (9, 0), (9, 0)]) (st' := [(0, 0)]) (g' := g) ?_
      refine wp_n 2 (pc' := 48) (L' := [(2, 127), (0, w), (0, j), (0, x), (9, 0), (9, 0), (9, 0)]) (st' := [(0, (-1))]) (g' := g) rfl ?_
      exact wp_ret rfl rfl rfl ⟨_, _, rfl, Or.inr ⟨by unfold NiD; omega, rfl⟩, FrN.rfl⟩
  · refine wp_eq (L' := [(2, 127), (0, w), (0, j), (0, x), (9, 0), (9, 0), (9, 0)]) (st' := [(0, 0)]) (g' := g) ?_
    refine wp_n 2 (pc' := 48) (L' := [(2, 127), (0, w), (0, j), (0, x), (9, 0), (9, 0), (9, 0)]) (st' := [(0, (-1))]) (g' := g) rfl ?_
    exact wp_ret rfl rfl rfl ⟨_, _, rfl, Or.inr ⟨by unfold NiD; omega, rfl⟩, FrN.rfl⟩
theorem M_nine {sn : Nat} {sx : Nat → Int} {b : Nat} {g c : am_G} {P : Nat} {w j x : Int} (h_w : R32 w) (h_j : R32 j) (h_x : R32 x) (hI : CInv P c) (hM : MRel c g) : Ev sn sx 8 238 [(2, 127), (0, w), (0, j), (0, x)] (SH b) g (MPost b g (fun c1 v1 => NiA P c w j x v1 ∧ CoE c c1)) := (m_nine h_w h_j h_x hI hM).mono fun r hh => mpost_n (A := NiA P c w j x) hM (fun _ _ => NiA.uniq hI) hh
