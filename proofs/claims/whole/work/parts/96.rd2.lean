/-! THE CLASS'S READER: a one, a product, a sum -/
def ROne (T : Nat → Int) (L t k o p F : Nat) (g : am_G) (r : am_R) : Prop := (∃ g' p' C, r = (none, SH 7, g') ∧ FrDt t g g' ∧ RdG T L t k p' (F + C.length) g' ∧ p < p' ∧ p + C.length ≤ p' ∧ CdK t F g g' ∧ CdW t F C g' ∧ CW k (25 - 3 * (o : Int)) C ∧ POne T L k o p p' C) ∨ ∃ g' f q, r = (none, SH 7, g') ∧ FrDt t g g' ∧ RdX T L t k f q g' ∧ POneF T L k o p f q
def RPr (T : Nat → Int) (L t k o p F : Nat) (g : am_G) (r : am_R) : Prop := (∃ g' p' C, r = (none, SH 7, g') ∧ FrDt t g g' ∧ RdG T L t k p' (F + C.length) g' ∧ p < p' ∧ p + C.length ≤ p' ∧ CdK t F g g' ∧ CdW t F C g' ∧ CW k (26 - 3 * (o : Int)) C ∧ PPr T L k o p p' C ∧ (tK T L p' ≠ 42 ∧ tK T L p' ≠ 47)) ∨ ∃ g' f q, r = (none, SH 7, g') ∧ FrDt t g g' ∧ RdX T L t k f q g' ∧ PPrF T L k o p f q
def RSm (T : Nat → Int) (L t k o p F : Nat) (g : am_G) (r : am_R) : Prop := (∃ g' p' C, r = (none, SH 7, g') ∧ FrDt t g g' ∧ RdG T L t k p' (F + C.length) g' ∧ p < p' ∧ p + C.length ≤ p' ∧ CdK t F g g' ∧ CdW t F C g' ∧ CW k (27 - 3 * (o : Int)) C ∧ PSm T L k o p p' C ∧ (tK T L p' ≠ 43 ∧ tK T L p' ≠ 45 ∧ tK T L p' ≠ 42 ∧ tK T L p' ≠ 47)) ∨ ∃ g' f q, r = (none, SH 7, g') ∧ FrDt t g g' ∧ RdX T L t k f q g' ∧ PSmF T L k o p f q
def SpOne (o K : Nat) : Prop := ∀ (sn : Nat) (sx : Nat → Int) (g : am_G) (T : Nat → Int) (L t k p F : Nat), RdG T L t k p F g → F ≤ p → Ev sn sx K 63 [(2, 47), (0, (o : Int))] (SH 7) g (ROne T L t k o p F g)
def SpPr (o K : Nat) : Prop := ∀ (sn : Nat) (sx : Nat → Int) (g : am_G) (T : Nat → Int) (L t k p F : Nat), RdG T L t k p F g → F ≤ p → Ev sn sx K 62 [(2, 47), (0, (o : Int))] (SH 7) g (RPr T L t k o p F g)
def SpSm (o K : Nat) : Prop := ∀ (sn : Nat) (sx : Nat → Int) (g : am_G) (T : Nat → Int) (L t k p F : Nat), RdG T L t k p F g → F ≤ p → Ev sn sx K 61 [(2, 47), (0, (o : Int))] (SH 7) g (RSm T L t k o p F g)
set_option maxHeartbeats 400000 in
set_option maxRecDepth 20000 in
theorem e_oneX {sn : Nat} {sx : Nat → Int} {g : am_G} {T : Nat → Int} {L t k f q : Nat} {n : Int} (hX : RdX T L t k f q g) : Ev sn sx 1 63 [(2, 47), (0, n)] (SH 7) g (fun r => r = (none, SH 7, g)) := by
  have hb := hX.b
  refine ev_of (K := 0) T63 (by decide) rfl rfl (Nat.le_of_ble_eq_true rfl) ?_
  refine wp_eq (L' := [(2, 47), (0, n)]) (st' := []) (g' := g) ?_
  refine wp_n 2 (pc' := 4) (L' := [(2, 47), (0, n)]) (st' := [(0, (g 47 2))]) (g' := g) rfl ?_
  refine wp_eq (L' := [(2, 47), (0, n)]) (st' := [(0, ((f : Nat) : Int))]) (g' := g) ?_ (by rfl) (by rw [hX.f]) (by rfl)
  refine wp_if_eq rfl (fun c1 => ?_) (fun c1 => ?_)
  · exfalso; omega
  · exact wp_ret rfl rfl rfl rfl
theorem wx_pr {sn : Nat} {sx : Nat → Int} {K : Nat} {g : am_G} {Q : am_R → Prop} {T : Nat → Int} {L t k f q : Nat} {n i : Int} {w3 : am_V} (hX : RdX T L t k f q g) (hQ : Q (none, SH 7, g)) : Wp sn sx K T62 7 [(2, 47), (0, n), (0, i), w3] [] (SH 7) g Q := by
  have hb := hX.b
  have hf := hX.f
  refine wp_n 4 (pc' := 13) (L' := [(2, 47), (0, n), (0, i), w3]) (st' := [(0, 300), (0, i)]) (g' := g) rfl ?_
  refine wp_ic_ge rfl (fun _ => wp_ret rfl rfl rfl hQ) (fun _ => ?_)
  refine wp_n 2 (pc' := 20) (L' := [(2, 47), (0, n), (0, i), w3]) (st' := [(0, (g 47 2))]) (g' := g) rfl ?_
  refine wp_if_ne rfl (fun _ => wp_ret rfl rfl rfl hQ) (fun c => ?_)
  exfalso; omega
theorem wx_sm {sn : Nat} {sx : Nat → Int} {K : Nat} {g : am_G} {Q : am_R → Prop} {T : Nat → Int} {L t k f q : Nat} {n i : Int} {w3 : am_V} (hX : RdX T L t k f q g) (hQ : Q (none, SH 7, g)) : Wp sn sx K T61 7 [(2, 47), (0, n), (0, i), w3] [] (SH 7) g Q := by
  have hb := hX.b
  have hf := hX.f
  refine wp_n 4 (pc' := 13) (L' := [(2, 47), (0, n), (0, i), w3]) (st' := [(0, 300), (0, i)]) (g' := g) rfl ?_
  refine wp_ic_ge rfl (fun _ => wp_ret rfl rfl rfl hQ) (fun _ => ?_)
  refine wp_n 2 (pc' := 20) (L' := [(2, 47), (0, n), (0, i), w3]) (st' := [(0, (g 47 2))]) (g' := g) rfl ?_
  refine wp_if_ne rfl (fun _ => wp_ret rfl rfl rfl hQ) (fun c => ?_)
  exfalso; omega
set_option maxHeartbeats 400000 in
set_option maxRecDepth 20000 in
theorem e_prX {sn : Nat} {sx : Nat → Int} {g : am_G} {T : Nat → Int} {L t k f q : Nat} {n : Int} (hX : RdX T L t k f q g) : Ev sn sx 2 62 [(2, 47), (0, n)] (SH 7) g (fun r => r = (none, SH 7, g)) := by
  refine ev_of (K := 1) T62 (by decide) rfl rfl (Nat.le_of_ble_eq_true rfl) ?_
  refine wp_eq (L' := [(2, 47), (0, n), (9, 0), (9, 0)]) (st' := []) (g' := g) ?_
  refine wp_n 2 (pc' := 2) (L' := [(2, 47), (0, n), (9, 0), (9, 0)]) (st' := [(0, n), (2, 47)]) (g' := g) rfl ?_
  refine wp_cv (as := [(2, 47), (0, n)]) (rest := []) rfl rfl rfl (Nat.le_of_ble_eq_true rfl) rfl (e_oneX hX) (by decide) (fun r1 h2 => ?_)
  obtain rfl := h2
  refine wp_eq (L' := [(2, 47), (0, n), (9, 0), (9, 0)]) (st' := []) (g' := g) ?_
  refine wp_n 2 (pc' := 7) (L' := [(2, 47), (0, n), (0, 0), (9, 0)]) (st' := []) (g' := g) rfl ?_
  exact wx_pr hX rfl
set_option maxHeartbeats 400000 in
set_option maxRecDepth 20000 in
theorem e_smX {sn : Nat} {sx : Nat → Int} {g : am_G} {T : Nat → Int} {L t k f q : Nat} {n : Int} (hX : RdX T L t k f q g) : Ev sn sx 3 61 [(2, 47), (0, n)] (SH 7) g (fun r => r = (none, SH 7, g)) := by
  refine ev_of (K := 2) T61 (by decide) rfl rfl (Nat.le_of_ble_eq_true rfl) ?_
  refine wp_eq (L' := [(2, 47), (0, n), (9, 0), (9, 0)]) (st' := []) (g' := g) ?_
  refine wp_n 2 (pc' := 2) (L' := [(2, 47), (0, n), (9, 0), (9, 0)]) (st' := [(0, n), (2, 47)]) (g' := g) rfl ?_
  refine wp_cv (as := [(2, 47), (0, n)]) (rest := []) rfl rfl rfl (Nat.le_of_ble_eq_true rfl) rfl (e_prX hX) (by decide) (fun r1 h2 => ?_)
  obtain rfl := h2
  refine wp_eq (L' := [(2, 47), (0, n), (9, 0), (9, 0)]) (st' := []) (g' := g) ?_
  refine wp_n 2 (pc' := 7) (L' := [(2, 47), (0, n), (0, 0), (9, 0)]) (st' := []) (g' := g) rfl ?_
  exact wx_sm hX rfl
set_option maxHeartbeats 400000 in
set_option maxRecDepth 20000 in
theorem e_pair_of {sn : Nat} {sx : Nat → Int} {g : am_G} {T : Nat → Int} {L t k o p F K : Nat} (hK0 : 11 ≤ K) (hG : RdG T L t k p F g) (hFp : F ≤ p) (ho : o ≤ 8) (hI : o < 8 → SpSm (o + 1) K) (hk : tK T L p = -2) (hv : 15 ≤ tV T L p) {c : Int} (hc : c = if tV T L p = 15 then 20004 else 20005) : Ev sn sx (K + 3) 66 [(2, 47), (0, ((o : Nat) : Int)), (0, c)] (SH 7) g (ROne T L t k o p F g) := by
  have hb := hG.b
  have hl := hG.pl
  have hl3 := hG.l3
  have hvb := hG.vb
  have hcr : 20000 ≤ c ∧ c ≤ 20005 := by rw [hc]; split <;> omega
  refine ev_of (K := (K + 2)) T66 (by decide) rfl rfl (Nat.le_of_ble_eq_true rfl) ?_
  refine wp_eq (L' := [(2, 47), (0, ((o : Nat) : Int)), (0, c)]) (st' := []) (g' := g) ?_
  refine wp_n 1 (pc' := 1) (L' := [(2, 47), (0, ((o : Nat) : Int)), (0, c)]) (st' := [(2, 47)]) (g' := g) rfl ?_
  refine wp_cv (as := [(2, 47)]) (rest := []) rfl rfl rfl (Nat.le_of_ble_eq_true rfl) rfl (e_advG hG) (by omega) (fun r1 h2 => ?_)
  obtain ⟨g1, rfl, hG1, hF1⟩ := h2
  have hb1 := hG1.b
  have hlt1 := hG.lt (by omega)
  have hn1 := nx_in (T := T) hG.pl
  have hl1 := hG1.pl
  refine wp_eq (L' := [(2, 47), (0, ((o : Nat) : Int)), (0, c)]) (st' := []) (g' := g1) ?_
  refine wp_n 2 (pc' := 8) (L' := [(2, 47), (0, ((o : Nat) : Int)), (0, c)]) (st' := [(0, (g1 47 9))]) (g' := g1) rfl ?_
  refine wp_eq (L' := [(2, 47), (0, ((o : Nat) : Int)), (0, c)]) (st' := [(0, (tK T L (nx T L p)))]) (g' := g1) ?_ (by rfl) (by rw [hG1.k]) (by rfl)
  refine wp_n 1 (pc' := 10) (L' := [(2, 47), (0, ((o : Nat) : Int)), (0, c)]) (st' := [(0, 40), (0, (tK T L (nx T L p)))]) (g' := g1) rfl ?_
  refine wp_ic_eq rfl (fun c3 => ?_) (fun c3 => ?_)
  · refine wp_n 2 (pc' := 23) (L' := [(2, 47), (0, ((o : Nat) : Int)), (0, c)]) (st' := [(0, ((o : Nat) : Int)), (2, 47)]) (g' := g1) rfl ?_
    refine wp_cv (as := [(2, 47), (0, ((o : Nat) : Int))]) (rest := []) rfl rfl rfl (Nat.le_of_ble_eq_true rfl) rfl (e_mayOpen hG1 (by omega) ho) (by omega) (fun r4 h5 => ?_)
    rcases h5 with ⟨rfl, ho23⟩ | ⟨g23, rfl, ho23, hX23, hF23⟩
    · refine wp_eq (L' := [(2, 47), (0, ((o : Nat) : Int)), (0, c)]) (st' := [(0, 1)]) (g' := g1) ?_
      refine wp_n 2 (pc' := 30) (L' := [(2, 47), (0, ((o : Nat) : Int)), (0, c)]) (st' := [(2, 47)]) (g' := g1) rfl ?_
      refine wp_cv (as := [(2, 47)]) (rest := []) rfl rfl rfl (Nat.le_of_ble_eq_true rfl) rfl (e_advG hG1) (by omega) (fun r6 h7 => ?_)
      obtain ⟨g30, rfl, hG30, hF30⟩ := h7
      have hb30 := hG30.b
      have hlt30 := hG1.lt (by omega)
      have hn30 := nx_in (T := T) hG1.pl
      have hl30 := hG30.pl
      refine wp_eq (L' := [(2, 47), (0, ((o : Nat) : Int)), (0, c)]) (st' := []) (g' := g30) ?_
      refine wp_n 4 (pc' := 37) (L' := [(2, 47), (0, ((o : Nat) : Int)), (0, c)]) (st' := [(0, (((o : Nat) : Int) + 1)), (2, 47)]) (g' := g30) rfl ?_
      refine wp_eq (L' := [(2, 47), (0, ((o : Nat) : Int)), (0, c)]) (st' := [(0, (((o + 1) : Nat) : Int)), (2, 47)]) (g' := g30) ?_ (by rfl) (by rfl) (by rfl)
      refine wp_cv (as := [(2, 47), (0, (((o + 1) : Nat) : Int))]) (rest := []) rfl rfl rfl (Nat.le_of_ble_eq_true rfl) rfl (hI ho23 sn sx _ T L t k _ _ hG30 (by omega)) (by omega) (fun r8 h9 => ?_)
      rcases h9 with ⟨g37, p37, C37, rfl, hF37, hG37, hp37, hc37, hK37, hW37, hC37, hP37, hq37⟩ | ⟨x37, f37, q37, rfl, hF37, hX37, hP37⟩
      · have hb37 := hG37.b
        have hl37 := hG37.pl
        refine wp_eq (L' := [(2, 47), (0, ((o : Nat) : Int)), (0, c)]) (st' := []) (g' := g37) ?_
        refine wp_n 2 (pc' := 43) (L' := [(2, 47), (0, ((o : Nat) : Int)), (0, c)]) (st' := [(0, 44), (2, 47)]) (g' := g37) rfl ?_
        refine wp_cv (as := [(2, 47), (0, 44)]) (rest := []) rfl rfl rfl (Nat.le_of_ble_eq_true rfl) rfl (e_expG hG37 (by omega) (by decide)) (by omega) (fun r10 h11 => ?_)
        rcases h11 with ⟨g43, rfl, he43, hG43, hF43⟩ | ⟨x43, rfl, he43, hX43, hF43⟩
        · have hb43 := hG43.b
          have hlt43 := hG37.lt (by omega)
          have hn43 := nx_in (T := T) hG37.pl
          have hl43 := hG43.pl
          refine wp_eq (L' := [(2, 47), (0, ((o : Nat) : Int)), (0, c)]) (st' := []) (g' := g43) ?_
          refine wp_n 4 (pc' := 50) (L' := [(2, 47), (0, ((o : Nat) : Int)), (0, c)]) (st' := [(0, (((o : Nat) : Int) + 1)), (2, 47)]) (g' := g43) rfl ?_
          refine wp_eq (L' := [(2, 47), (0, ((o : Nat) : Int)), (0, c)]) (st' := [(0, (((o + 1) : Nat) : Int)), (2, 47)]) (g' := g43) ?_ (by rfl) (by rfl) (by rfl)
          refine wp_cv (as := [(2, 47), (0, (((o + 1) : Nat) : Int))]) (rest := []) rfl rfl rfl (Nat.le_of_ble_eq_true rfl) rfl (hI ho23 sn sx _ T L t k _ _ hG43 (by omega)) (by omega) (fun r12 h13 => ?_)
          rcases h13 with ⟨g50, p50, C50, rfl, hF50, hG50, hp50, hc50, hK50, hW50, hC50, hP50, hq50⟩ | ⟨x50, f50, q50, rfl, hF50, hX50, hP50⟩
          · have hb50 := hG50.b
            have hl50 := hG50.pl
            refine wp_eq (L' := [(2, 47), (0, ((o : Nat) : Int)), (0, c)]) (st' := []) (g' := g50) ?_
            refine wp_n 2 (pc' := 56) (L' := [(2, 47), (0, ((o : Nat) : Int)), (0, c)]) (st' := [(0, 41), (2, 47)]) (g' := g50) rfl ?_
            refine wp_cv (as := [(2, 47), (0, 41)]) (rest := []) rfl rfl rfl (Nat.le_of_ble_eq_true rfl) rfl (e_expG hG50 (by omega) (by decide)) (by omega) (fun r14 h15 => ?_)
            rcases h15 with ⟨g56, rfl, he56, hG56, hF56⟩ | ⟨x56, rfl, he56, hX56, hF56⟩
            · have hb56 := hG56.b
              have hlt56 := hG50.lt (by omega)
              have hn56 := nx_in (T := T) hG50.pl
              have hl56 := hG56.pl
              refine wp_eq (L' := [(2, 47), (0, ((o : Nat) : Int)), (0, c)]) (st' := []) (g' := g56) ?_
              refine wp_n 2 (pc' := 61) (L' := [(2, 47), (0, ((o : Nat) : Int)), (0, c)]) (st' := [(0, c), (2, 47)]) (g' := g56) rfl ?_
              refine wp_cv (as := [(2, 47), (0, c)]) (rest := []) rfl rfl rfl (Nat.le_of_ble_eq_true rfl) rfl (e_putG hG56 (by omega)) (by omega) (fun r16 h17 => ?_)
              obtain ⟨g61, rfl, hG61, hF61, hK61, hW61⟩ := h17
              refine wp_eq (L' := [(2, 47), (0, ((o : Nat) : Int)), (0, c)]) (st' := []) (g' := g61) ?_
              exact wp_ret rfl rfl rfl (Or.inl ⟨_, nx T L p50, C37 ++ (C50 ++ [c]), rfl, (((((((FrDt.rfl.trans hF1.d).trans hF30.d).trans hF37).trans hF43.d).trans hF50).trans hF56.d).trans hF61), (by rw [show F + (C37 ++ (C50 ++ [c]) : List Int).length = F + C37.length + C50.length + 1 by simp only [List.length_append, List.length_cons, List.length_nil]; omega]; exact hG61), by omega, by simp only [List.length_append, List.length_cons, List.length_nil]; omega, fun j hj => by rw [hK61 j (by omega), hF56 7 j (by omega), hK50 j (by omega), hF43 7 j (by omega), hK37 j (by omega), hF30 7 j (by omega), hF1 7 j (by omega)], CdW.app (fun i hi => by rw [hK61 _ (by omega), hF56 7 _ (by omega), hK50 _ (by omega), hF43 7 _ (by omega)]; exact hW37 i hi) (CdW.app (fun i hi => by rw [hK61 _ (by omega), hF56 7 _ (by omega)]; exact hW50 i hi) hW61), (hC37.up (by omega)).bin (hC50.up (by omega)) hcr (by omega), by rw [hc]; exact one_pair hk hv (by omega) ho23 hP37 he43 hP50 he56⟩)
            · refine wp_eq (L' := [(2, 47), (0, ((o : Nat) : Int)), (0, c)]) (st' := []) (g' := x56) ?_
              refine wp_n 2 (pc' := 61) (L' := [(2, 47), (0, ((o : Nat) : Int)), (0, c)]) (st' := [(0, c), (2, 47)]) (g' := x56) rfl ?_
              refine wp_cv (as := [(2, 47), (0, c)]) (rest := []) rfl rfl rfl (Nat.le_of_ble_eq_true rfl) rfl (e_putX hX56) (by omega) (fun r18 h19 => ?_)
              obtain ⟨x61hX56, rfl, hX61, hF61⟩ := h19
              refine wp_eq (L' := [(2, 47), (0, ((o : Nat) : Int)), (0, c)]) (st' := []) (g' := x61hX56) ?_
              exact wp_ret rfl rfl rfl (Or.inr ⟨_, _, _, rfl, (((((((FrDt.rfl.trans hF1.d).trans hF30.d).trans hF37).trans hF43.d).trans hF50).trans hF56).trans hF61), hX61, one_pairD hk hv (by omega) ho23 hP37 he43 hP50 he56 hq50⟩)
          · refine wp_eq (L' := [(2, 47), (0, ((o : Nat) : Int)), (0, c)]) (st' := []) (g' := x50) ?_
            refine wp_n 2 (pc' := 56) (L' := [(2, 47), (0, ((o : Nat) : Int)), (0, c)]) (st' := [(0, 41), (2, 47)]) (g' := x50) rfl ?_
            refine wp_cv (as := [(2, 47), (0, 41)]) (rest := []) rfl rfl rfl (Nat.le_of_ble_eq_true rfl) rfl (e_expX hX50) (by omega) (fun r20 h21 => ?_)
            obtain rfl := h21
            refine wp_eq (L' := [(2, 47), (0, ((o : Nat) : Int)), (0, c)]) (st' := []) (g' := x50) ?_
            refine wp_n 2 (pc' := 61) (L' := [(2, 47), (0, ((o : Nat) : Int)), (0, c)]) (st' := [(0, c), (2, 47)]) (g' := x50) rfl ?_
            refine wp_cv (as := [(2, 47), (0, c)]) (rest := []) rfl rfl rfl (Nat.le_of_ble_eq_true rfl) rfl (e_putX hX50) (by omega) (fun r22 h23 => ?_)
            obtain ⟨x61hX50, rfl, hX61, hF61⟩ := h23
            refine wp_eq (L' := [(2, 47), (0, ((o : Nat) : Int)), (0, c)]) (st' := []) (g' := x61hX50) ?_
            exact wp_ret rfl rfl rfl (Or.inr ⟨_, _, _, rfl, ((((((FrDt.rfl.trans hF1.d).trans hF30.d).trans hF37).trans hF43.d).trans hF50).trans hF61), hX61, one_pairC hk hv (by omega) ho23 hP37 he43 hP50⟩)
        · refine wp_eq (L' := [(2, 47), (0, ((o : Nat) : Int)), (0, c)]) (st' := []) (g' := x43) ?_
          refine wp_n 4 (pc' := 50) (L' := [(2, 47), (0, ((o : Nat) : Int)), (0, c)]) (st' := [(0, (((o : Nat) : Int) + 1)), (2, 47)]) (g' := x43) rfl ?_
          refine wp_eq (L' := [(2, 47), (0, ((o : Nat) : Int)), (0, c)]) (st' := [(0, (((o + 1) : Nat) : Int)), (2, 47)]) (g' := x43) ?_ (by rfl) (by rfl) (by rfl)
          refine wp_cv (as := [(2, 47), (0, (((o + 1) : Nat) : Int))]) (rest := []) rfl rfl rfl (Nat.le_of_ble_eq_true rfl) rfl (e_smX hX43) (by omega) (fun r24 h25 => ?_)
          obtain rfl := h25
          refine wp_eq (L' := [(2, 47), (0, ((o : Nat) : Int)), (0, c)]) (st' := []) (g' := x43) ?_
          refine wp_n 2 (pc' := 56) (L' := [(2, 47), (0, ((o : Nat) : Int)), (0, c)]) (st' := [(0, 41), (2, 47)]) (g' := x43) rfl ?_
          refine wp_cv (as := [(2, 47), (0, 41)]) (rest := []) rfl rfl rfl (Nat.le_of_ble_eq_true rfl) rfl (e_expX hX43) (by omega) (fun r26 h27 => ?_)
          obtain rfl := h27
          refine wp_eq (L' := [(2, 47), (0, ((o : Nat) : Int)), (0, c)]) (st' := []) (g' := x43) ?_
          refine wp_n 2 (pc' := 61) (L' := [(2, 47), (0, ((o : Nat) : Int)), (0, c)]) (st' := [(0, c), (2, 47)]) (g' := x43) rfl ?_
          refine wp_cv (as := [(2, 47), (0, c)]) (rest := []) rfl rfl rfl (Nat.le_of_ble_eq_true rfl) rfl (e_putX hX43) (by omega) (fun r28 h29 => ?_)
          obtain ⟨x61hX43, rfl, hX61, hF61⟩ := h29
          refine wp_eq (L' := [(2, 47), (0, ((o : Nat) : Int)), (0, c)]) (st' := []) (g' := x61hX43) ?_
          exact wp_ret rfl rfl rfl (Or.inr ⟨_, _, _, rfl, (((((FrDt.rfl.trans hF1.d).trans hF30.d).trans hF37).trans hF43).trans hF61), hX61, one_pairB hk hv (by omega) ho23 hP37 he43 hq37⟩)
      · refine wp_eq (L' := [(2, 47), (0, ((o : Nat) : Int)), (0, c)]) (st' := []) (g' := x37) ?_
        refine wp_n 2 (pc' := 43) (L' := [(2, 47), (0, ((o : Nat) : Int)), (0, c)]) (st' := [(0, 44), (2, 47)]) (g' := x37) rfl ?_
        refine wp_cv (as := [(2, 47), (0, 44)]) (rest := []) rfl rfl rfl (Nat.le_of_ble_eq_true rfl) rfl (e_expX hX37) (by omega) (fun r30 h31 => ?_)
        obtain rfl := h31
        refine wp_eq (L' := [(2, 47), (0, ((o : Nat) : Int)), (0, c)]) (st' := []) (g' := x37) ?_
        refine wp_n 4 (pc' := 50) (L' := [(2, 47), (0, ((o : Nat) : Int)), (0, c)]) (st' := [(0, (((o : Nat) : Int) + 1)), (2, 47)]) (g' := x37) rfl ?_
        refine wp_eq (L' := [(2, 47), (0, ((o : Nat) : Int)), (0, c)]) (st' := [(0, (((o + 1) : Nat) : Int)), (2, 47)]) (g' := x37) ?_ (by rfl) (by rfl) (by rfl)
        refine wp_cv (as := [(2, 47), (0, (((o + 1) : Nat) : Int))]) (rest := []) rfl rfl rfl (Nat.le_of_ble_eq_true rfl) rfl (e_smX hX37) (by omega) (fun r32 h33 => ?_)
        obtain rfl := h33
        refine wp_eq (L' := [(2, 47), (0, ((o : Nat) : Int)), (0, c)]) (st' := []) (g' := x37) ?_
        refine wp_n 2 (pc' := 56) (L' := [(2, 47), (0, ((o : Nat) : Int)), (0, c)]) (st' := [(0, 41), (2, 47)]) (g' := x37) rfl ?_
        refine wp_cv (as := [(2, 47), (0, 41)]) (rest := []) rfl rfl rfl (Nat.le_of_ble_eq_true rfl) rfl (e_expX hX37) (by omega) (fun r34 h35 => ?_)
        obtain rfl := h35
        refine wp_eq (L' := [(2, 47), (0, ((o : Nat) : Int)), (0, c)]) (st' := []) (g' := x37) ?_
        refine wp_n 2 (pc' := 61) (L' := [(2, 47), (0, ((o : Nat) : Int)), (0, c)]) (st' := [(0, c), (2, 47)]) (g' := x37) rfl ?_
        refine wp_cv (as := [(2, 47), (0, c)]) (rest := []) rfl rfl rfl (Nat.le_of_ble_eq_true rfl) rfl (e_putX hX37) (by omega) (fun r36 h37 => ?_)
        obtain ⟨x61hX37, rfl, hX61, hF61⟩ := h37
        refine wp_eq (L' := [(2, 47), (0, ((o : Nat) : Int)), (0, c)]) (st' := []) (g' := x61hX37) ?_
        exact wp_ret rfl rfl rfl (Or.inr ⟨_, _, _, rfl, ((((FrDt.rfl.trans hF1.d).trans hF30.d).trans hF37).trans hF61), hX61, one_pairA hk hv (by omega) ho23 hP37⟩)
    · refine wp_eq (L' := [(2, 47), (0, ((o : Nat) : Int)), (0, c)]) (st' := [(0, 0)]) (g' := g23) ?_
      refine wp_n 1 (pc' := 64) (L' := [(2, 47), (0, ((o : Nat) : Int)), (0, c)]) (st' := []) (g' := g23) rfl ?_
      exact wp_ret rfl rfl rfl (Or.inr ⟨_, _, _, rfl, ((FrDt.rfl.trans hF1.d).trans hF23), hX23, by rw [ho23]; exact one_pairF3 hk hv (by omega)⟩)
  · refine wp_n 2 (pc' := 15) (L' := [(2, 47), (0, ((o : Nat) : Int)), (0, c)]) (st' := [(0, 1), (2, 47)]) (g' := g1) rfl ?_
    refine wp_cv (as := [(2, 47), (0, 1)]) (rest := []) rfl rfl rfl (Nat.le_of_ble_eq_true rfl) rfl (e_refuseG (f := 1) hG1 (by omega) (by omega)) (by omega) (fun r38 h39 => ?_)
    obtain ⟨g15, rfl, hX15, hF15⟩ := h39
    refine wp_eq (L' := [(2, 47), (0, ((o : Nat) : Int)), (0, c)]) (st' := []) (g' := g15) ?_
    refine wp_n 1 (pc' := 64) (L' := [(2, 47), (0, ((o : Nat) : Int)), (0, c)]) (st' := []) (g' := g15) rfl ?_
    exact wp_ret rfl rfl rfl (Or.inr ⟨_, _, _, rfl, ((FrDt.rfl.trans hF1.d).trans hF15), hX15, one_pairF1 hk hv (by omega)⟩)
set_option maxHeartbeats 400000 in
set_option maxRecDepth 20000 in
theorem e_word_of {sn : Nat} {sx : Nat → Int} {g : am_G} {T : Nat → Int} {L t k o p F K : Nat} (hK0 : 11 ≤ K) (hG : RdG T L t k p F g) (hFp : F ≤ p) (ho : o ≤ 8) (hI : o < 8 → SpSm (o + 1) K) (hk : tK T L p = -2) : Ev sn sx (K + 4) 65 [(2, 47), (0, ((o : Nat) : Int))] (SH 7) g (ROne T L t k o p F g) := by
  have hb := hG.b
  have hl := hG.pl
  have hl3 := hG.l3
  have hvb := hG.vb
  have hvw := tV_word hG.pl hk
  have hlt := hG.lt (by omega)
  have hkk := hG.1.2.2.2.2
  have hn0 := nx_in (T := T) hG.pl
  refine ev_of (K := (K + 3)) T65 (by decide) rfl rfl (Nat.le_of_ble_eq_true rfl) ?_
  refine wp_eq (L' := [(2, 47), (0, ((o : Nat) : Int))]) (st' := []) (g' := g) ?_
  refine wp_n 2 (pc' := 4) (L' := [(2, 47), (0, ((o : Nat) : Int))]) (st' := [(0, (g 47 11))]) (g' := g) rfl ?_
  refine wp_eq (L' := [(2, 47), (0, ((o : Nat) : Int))]) (st' := [(0, (tV T L p))]) (g' := g) ?_ (by rfl) (by rw [hG.v (Or.inl hk)]) (by rfl)
  refine wp_n 1 (pc' := 6) (L' := [(2, 47), (0, ((o : Nat) : Int))]) (st' := [(0, 15), (0, (tV T L p))]) (g' := g) rfl ?_
  refine wp_ic_eq rfl (fun c1 => ?_) (fun c1 => ?_)
  · refine wp_n 4 (pc' := 24) (L' := [(2, 47), (0, ((o : Nat) : Int))]) (st' := [(0, (g 47 11)), (0, ((o : Nat) : Int)), (2, 47)]) (g' := g) rfl ?_
    refine wp_eq (L' := [(2, 47), (0, ((o : Nat) : Int))]) (st' := [(0, (tV T L p)), (0, ((o : Nat) : Int)), (2, 47)]) (g' := g) ?_ (by rfl) (by rw [hG.v (Or.inl hk)]) (by rfl)
    refine wp_n 1 (pc' := 26) (L' := [(2, 47), (0, ((o : Nat) : Int))]) (st' := [(0, 15), (0, (tV T L p)), (0, ((o : Nat) : Int)), (2, 47)]) (g' := g) rfl ?_
    refine wp_ic_ne rfl (fun c2 => ?_) (fun c2 => ?_)
    · refine wp_n 1 (pc' := 38) (L' := [(2, 47), (0, ((o : Nat) : Int))]) (st' := [(0, 20005), (0, ((o : Nat) : Int)), (2, 47)]) (g' := g) rfl ?_
      refine wp_cv (as := [(2, 47), (0, ((o : Nat) : Int)), (0, 20005)]) (rest := []) rfl rfl rfl (Nat.le_of_ble_eq_true rfl) rfl (e_pair_of hK0 hG hFp ho hI hk (by omega) (c := 20005) (by first | (exfalso; omega) | (rw [if_pos (by omega)]) | (rw [if_neg (by omega)]))) (by omega) (fun r38 hR38 => ?_)
      rcases hR38 with ⟨g38, p38, C38, rfl, hR38⟩ | ⟨g38, f38, q38, rfl, hR38⟩
      · refine wp_n 1 (pc' := 116) (L' := [(2, 47), (0, ((o : Nat) : Int))]) (st' := []) (g' := g38) rfl ?_
        exact wp_ret rfl rfl rfl (Or.inl ⟨_, _, _, rfl, hR38⟩)
      · refine wp_n 1 (pc' := 116) (L' := [(2, 47), (0, ((o : Nat) : Int))]) (st' := []) (g' := g38) rfl ?_
        exact wp_ret rfl rfl rfl (Or.inr ⟨_, _, _, rfl, hR38⟩)
    · refine wp_n 2 (pc' := 38) (L' := [(2, 47), (0, ((o : Nat) : Int))]) (st' := [(0, 20004), (0, ((o : Nat) : Int)), (2, 47)]) (g' := g) rfl ?_
      refine wp_cv (as := [(2, 47), (0, ((o : Nat) : Int)), (0, 20004)]) (rest := []) rfl rfl rfl (Nat.le_of_ble_eq_true rfl) rfl (e_pair_of hK0 hG hFp ho hI hk (by omega) (c := 20004) (by first | (exfalso; omega) | (rw [if_pos (by omega)]) | (rw [if_neg (by omega)]))) (by omega) (fun r38 hR38 => ?_)
      rcases hR38 with ⟨g38, p38, C38, rfl, hR38⟩ | ⟨g38, f38, q38, rfl, hR38⟩
      · refine wp_n 1 (pc' := 116) (L' := [(2, 47), (0, ((o : Nat) : Int))]) (st' := []) (g' := g38) rfl ?_
        exact wp_ret rfl rfl rfl (Or.inl ⟨_, _, _, rfl, hR38⟩)
      · refine wp_n 1 (pc' := 116) (L' := [(2, 47), (0, ((o : Nat) : Int))]) (st' := []) (g' := g38) rfl ?_
        exact wp_ret rfl rfl rfl (Or.inr ⟨_, _, _, rfl, hR38⟩)
  · refine wp_n 2 (pc' := 13) (L' := [(2, 47), (0, ((o : Nat) : Int))]) (st' := [(0, (g 47 11))]) (g' := g) rfl ?_
    refine wp_eq (L' := [(2, 47), (0, ((o : Nat) : Int))]) (st' := [(0, (tV T L p))]) (g' := g) ?_ (by rfl) (by rw [hG.v (Or.inl hk)]) (by rfl)
    refine wp_n 1 (pc' := 15) (L' := [(2, 47), (0, ((o : Nat) : Int))]) (st' := [(0, 16), (0, (tV T L p))]) (g' := g) rfl ?_
    refine wp_ic_ne rfl (fun c3 => ?_) (fun c3 => ?_)
    · refine wp_n 2 (pc' := 48) (L' := [(2, 47), (0, ((o : Nat) : Int))]) (st' := [(0, (g 47 11))]) (g' := g) rfl ?_
      refine wp_eq (L' := [(2, 47), (0, ((o : Nat) : Int))]) (st' := [(0, (tV T L p))]) (g' := g) ?_ (by rfl) (by rw [hG.v (Or.inl hk)]) (by rfl)
      refine wp_n 1 (pc' := 49) (L' := [(2, 47), (0, ((o : Nat) : Int))]) (st' := [(0, 4), (0, (tV T L p))]) (g' := g) rfl ?_
      refine wp_ic_ge rfl (fun c4 => ?_) (fun c4 => ?_)
      · refine wp_n 2 (pc' := 64) (L' := [(2, 47), (0, ((o : Nat) : Int))]) (st' := [(0, (g 47 11))]) (g' := g) rfl ?_
        refine wp_eq (L' := [(2, 47), (0, ((o : Nat) : Int))]) (st' := [(0, (tV T L p))]) (g' := g) ?_ (by rfl) (by rw [hG.v (Or.inl hk)]) (by rfl)
        refine wp_n 1 (pc' := 66) (L' := [(2, 47), (0, ((o : Nat) : Int))]) (st' := [(0, 9), (0, (tV T L p))]) (g' := g) rfl ?_
        refine wp_ic_ge rfl (fun c5 => ?_) (fun c5 => ?_)
        · refine wp_n 3 (pc' := 78) (L' := [(2, 47), (0, ((o : Nat) : Int))]) (st' := [(0, (g 47 6)), (0, 0)]) (g' := g) rfl ?_
          refine wp_eq (L' := [(2, 47), (0, ((o : Nat) : Int))]) (st' := [(0, ((k : Nat) : Int)), (0, 0)]) (g' := g) ?_ (by rfl) (by rw [hG.1.2.2.1]) (by rfl)
          refine wp_n 1 (pc' := 79) (L' := [(2, 47), (0, ((o : Nat) : Int))]) (st' := [(0, 2), (0, ((k : Nat) : Int)), (0, 0)]) (g' := g) rfl ?_
          refine wp_ic_ge rfl (fun c6 => ?_) (fun c6 => ?_)
          · refine wp_n 6 (pc' := 106) (L' := [(2, 47), (0, ((o : Nat) : Int))]) (st' := [(0, (g 47 11)), (0, 10000), (2, 47)]) (g' := g) rfl ?_
            refine wp_eq (L' := [(2, 47), (0, ((o : Nat) : Int))]) (st' := [(0, (tV T L p)), (0, 10000), (2, 47)]) (g' := g) ?_ (by rfl) (by rw [hG.v (Or.inl hk)]) (by rfl)
            refine wp_n 3 (pc' := 109) (L' := [(2, 47), (0, ((o : Nat) : Int))]) (st' := [(0, ((10000 + (tV T L p)) - 4)), (2, 47)]) (g' := g) rfl ?_
            refine wp_cv (as := [(2, 47), (0, ((10000 + (tV T L p)) - 4))]) (rest := []) rfl rfl rfl (Nat.le_of_ble_eq_true rfl) rfl (e_putG hG (by omega)) (by omega) (fun r7 h8 => ?_)
            obtain ⟨g109, rfl, hG109, hF109, hK109, hW109⟩ := h8
            refine wp_eq (L' := [(2, 47), (0, ((o : Nat) : Int))]) (st' := []) (g' := g109) ?_
            refine wp_n 1 (pc' := 113) (L' := [(2, 47), (0, ((o : Nat) : Int))]) (st' := [(2, 47)]) (g' := g109) rfl ?_
            refine wp_cv (as := [(2, 47)]) (rest := []) rfl rfl rfl (Nat.le_of_ble_eq_true rfl) rfl (e_advG hG109) (by omega) (fun r9 h10 => ?_)
            obtain ⟨g113, rfl, hG113, hF113⟩ := h10
            have hb113 := hG113.b
            have hlt113 := hG109.lt (by omega)
            have hn113 := nx_in (T := T) hG109.pl
            have hl113 := hG113.pl
            refine wp_eq (L' := [(2, 47), (0, ((o : Nat) : Int))]) (st' := []) (g' := g113) ?_
            exact wp_ret rfl rfl rfl (Or.inl ⟨_, nx T L p, [10000 + tV T L p - 4], rfl, ((FrDt.rfl.trans hF109).trans hF113.d), hG113, by omega, by show p + 1 ≤ _; omega, fun j hj => by rw [hF113 7 j (by omega), hK109 j (by omega)], fun i hi => by rw [hF113 7 _ (by omega)]; exact hW109 i hi, CW.one (by unfold codeOk; omega) (by omega) (by omega), one_nam hk (by omega) (by omega)⟩)
          · refine wp_n 5 (pc' := 92) (L' := [(2, 47), (0, ((o : Nat) : Int))]) (st' := [(0, 5), (2, 47)]) (g' := g) rfl ?_
            refine wp_cv (as := [(2, 47), (0, 5)]) (rest := []) rfl rfl rfl (Nat.le_of_ble_eq_true rfl) rfl (e_refuseG (f := 5) hG (by omega) (by omega)) (by omega) (fun r11 h12 => ?_)
            obtain ⟨g92, rfl, hX92, hF92⟩ := h12
            refine wp_eq (L' := [(2, 47), (0, ((o : Nat) : Int))]) (st' := []) (g' := g92) ?_
            refine wp_n 1 (pc' := 116) (L' := [(2, 47), (0, ((o : Nat) : Int))]) (st' := []) (g' := g92) rfl ?_
            exact wp_ret rfl rfl rfl (Or.inr ⟨_, _, _, rfl, (FrDt.rfl.trans hF92), hX92, one_namF hk (by omega) (by omega)⟩)
        · refine wp_n 4 (pc' := 78) (L' := [(2, 47), (0, ((o : Nat) : Int))]) (st' := [(0, (g 47 6)), (0, 1)]) (g' := g) rfl ?_
          refine wp_eq (L' := [(2, 47), (0, ((o : Nat) : Int))]) (st' := [(0, ((k : Nat) : Int)), (0, 1)]) (g' := g) ?_ (by rfl) (by rw [hG.1.2.2.1]) (by rfl)
          refine wp_n 1 (pc' := 79) (L' := [(2, 47), (0, ((o : Nat) : Int))]) (st' := [(0, 2), (0, ((k : Nat) : Int)), (0, 1)]) (g' := g) rfl ?_
          refine wp_ic_ge rfl (fun c13 => ?_) (fun c13 => ?_)
          · refine wp_n 4 (pc' := 92) (L' := [(2, 47), (0, ((o : Nat) : Int))]) (st' := [(0, 5), (2, 47)]) (g' := g) rfl ?_
            refine wp_cv (as := [(2, 47), (0, 5)]) (rest := []) rfl rfl rfl (Nat.le_of_ble_eq_true rfl) rfl (e_refuseG (f := 5) hG (by omega) (by omega)) (by omega) (fun r14 h15 => ?_)
            obtain ⟨g92, rfl, hX92, hF92⟩ := h15
            refine wp_eq (L' := [(2, 47), (0, ((o : Nat) : Int))]) (st' := []) (g' := g92) ?_
            refine wp_n 1 (pc' := 116) (L' := [(2, 47), (0, ((o : Nat) : Int))]) (st' := []) (g' := g92) rfl ?_
            exact wp_ret rfl rfl rfl (Or.inr ⟨_, _, _, rfl, (FrDt.rfl.trans hF92), hX92, one_namF hk (by omega) (by omega)⟩)
          · refine wp_n 7 (pc' := 106) (L' := [(2, 47), (0, ((o : Nat) : Int))]) (st' := [(0, (g 47 11)), (0, 10000), (2, 47)]) (g' := g) rfl ?_
            refine wp_eq (L' := [(2, 47), (0, ((o : Nat) : Int))]) (st' := [(0, (tV T L p)), (0, 10000), (2, 47)]) (g' := g) ?_ (by rfl) (by rw [hG.v (Or.inl hk)]) (by rfl)
            refine wp_n 3 (pc' := 109) (L' := [(2, 47), (0, ((o : Nat) : Int))]) (st' := [(0, ((10000 + (tV T L p)) - 4)), (2, 47)]) (g' := g) rfl ?_
            refine wp_cv (as := [(2, 47), (0, ((10000 + (tV T L p)) - 4))]) (rest := []) rfl rfl rfl (Nat.le_of_ble_eq_true rfl) rfl (e_putG hG (by omega)) (by omega) (fun r16 h17 => ?_)
            obtain ⟨g109, rfl, hG109, hF109, hK109, hW109⟩ := h17
            refine wp_eq (L' := [(2, 47), (0, ((o : Nat) : Int))]) (st' := []) (g' := g109) ?_
            refine wp_n 1 (pc' := 113) (L' := [(2, 47), (0, ((o : Nat) : Int))]) (st' := [(2, 47)]) (g' := g109) rfl ?_
            refine wp_cv (as := [(2, 47)]) (rest := []) rfl rfl rfl (Nat.le_of_ble_eq_true rfl) rfl (e_advG hG109) (by omega) (fun r18 h19 => ?_)
            obtain ⟨g113, rfl, hG113, hF113⟩ := h19
            have hb113 := hG113.b
            have hlt113 := hG109.lt (by omega)
            have hn113 := nx_in (T := T) hG109.pl
            have hl113 := hG113.pl
            refine wp_eq (L' := [(2, 47), (0, ((o : Nat) : Int))]) (st' := []) (g' := g113) ?_
            exact wp_ret rfl rfl rfl (Or.inl ⟨_, nx T L p, [10000 + tV T L p - 4], rfl, ((FrDt.rfl.trans hF109).trans hF113.d), hG113, by omega, by show p + 1 ≤ _; omega, fun j hj => by rw [hF113 7 j (by omega), hK109 j (by omega)], fun i hi => by rw [hF113 7 _ (by omega)]; exact hW109 i hi, CW.one (by unfold codeOk; omega) (by omega) (by omega), one_nam hk (by omega) (by omega)⟩)
      · refine wp_n 2 (pc' := 54) (L' := [(2, 47), (0, ((o : Nat) : Int))]) (st' := [(0, 1), (2, 47)]) (g' := g) rfl ?_
        refine wp_cv (as := [(2, 47), (0, 1)]) (rest := []) rfl rfl rfl (Nat.le_of_ble_eq_true rfl) rfl (e_refuseG (f := 1) hG (by omega) (by omega)) (by omega) (fun r20 h21 => ?_)
        obtain ⟨g54, rfl, hX54, hF54⟩ := h21
        refine wp_eq (L' := [(2, 47), (0, ((o : Nat) : Int))]) (st' := []) (g' := g54) ?_
        refine wp_n 1 (pc' := 116) (L' := [(2, 47), (0, ((o : Nat) : Int))]) (st' := []) (g' := g54) rfl ?_
        exact wp_ret rfl rfl rfl (Or.inr ⟨_, _, _, rfl, (FrDt.rfl.trans hF54), hX54, one_badF (by omega) (fun _ => by omega) (by omega) (by omega)⟩)
    · refine wp_n 4 (pc' := 24) (L' := [(2, 47), (0, ((o : Nat) : Int))]) (st' := [(0, (g 47 11)), (0, ((o : Nat) : Int)), (2, 47)]) (g' := g) rfl ?_
      refine wp_eq (L' := [(2, 47), (0, ((o : Nat) : Int))]) (st' := [(0, (tV T L p)), (0, ((o : Nat) : Int)), (2, 47)]) (g' := g) ?_ (by rfl) (by rw [hG.v (Or.inl hk)]) (by rfl)
      refine wp_n 1 (pc' := 26) (L' := [(2, 47), (0, ((o : Nat) : Int))]) (st' := [(0, 15), (0, (tV T L p)), (0, ((o : Nat) : Int)), (2, 47)]) (g' := g) rfl ?_
      refine wp_ic_ne rfl (fun c22 => ?_) (fun c22 => ?_)
      · refine wp_n 1 (pc' := 38) (L' := [(2, 47), (0, ((o : Nat) : Int))]) (st' := [(0, 20005), (0, ((o : Nat) : Int)), (2, 47)]) (g' := g) rfl ?_
        refine wp_cv (as := [(2, 47), (0, ((o : Nat) : Int)), (0, 20005)]) (rest := []) rfl rfl rfl (Nat.le_of_ble_eq_true rfl) rfl (e_pair_of hK0 hG hFp ho hI hk (by omega) (c := 20005) (by first | (exfalso; omega) | (rw [if_pos (by omega)]) | (rw [if_neg (by omega)]))) (by omega) (fun r38 hR38 => ?_)
        rcases hR38 with ⟨g38, p38, C38, rfl, hR38⟩ | ⟨g38, f38, q38, rfl, hR38⟩
        · refine wp_n 1 (pc' := 116) (L' := [(2, 47), (0, ((o : Nat) : Int))]) (st' := []) (g' := g38) rfl ?_
          exact wp_ret rfl rfl rfl (Or.inl ⟨_, _, _, rfl, hR38⟩)
        · refine wp_n 1 (pc' := 116) (L' := [(2, 47), (0, ((o : Nat) : Int))]) (st' := []) (g' := g38) rfl ?_
          exact wp_ret rfl rfl rfl (Or.inr ⟨_, _, _, rfl, hR38⟩)
      · refine wp_n 2 (pc' := 38) (L' := [(2, 47), (0, ((o : Nat) : Int))]) (st' := [(0, 20004), (0, ((o : Nat) : Int)), (2, 47)]) (g' := g) rfl ?_
        refine wp_cv (as := [(2, 47), (0, ((o : Nat) : Int)), (0, 20004)]) (rest := []) rfl rfl rfl (Nat.le_of_ble_eq_true rfl) rfl (e_pair_of hK0 hG hFp ho hI hk (by omega) (c := 20004) (by first | (exfalso; omega) | (rw [if_pos (by omega)]) | (rw [if_neg (by omega)]))) (by omega) (fun r38 hR38 => ?_)
        rcases hR38 with ⟨g38, p38, C38, rfl, hR38⟩ | ⟨g38, f38, q38, rfl, hR38⟩
        · refine wp_n 1 (pc' := 116) (L' := [(2, 47), (0, ((o : Nat) : Int))]) (st' := []) (g' := g38) rfl ?_
          exact wp_ret rfl rfl rfl (Or.inl ⟨_, _, _, rfl, hR38⟩)
        · refine wp_n 1 (pc' := 116) (L' := [(2, 47), (0, ((o : Nat) : Int))]) (st' := []) (g' := g38) rfl ?_
          exact wp_ret rfl rfl rfl (Or.inr ⟨_, _, _, rfl, hR38⟩)
set_option maxHeartbeats 400000 in
set_option maxRecDepth 20000 in
theorem e_one_of {sn : Nat} {sx : Nat → Int} {g : am_G} {T : Nat → Int} {L t k o p F K : Nat} (hK0 : 11 ≤ K) (hG : RdG T L t k p F g) (hFp : F ≤ p) (ho : o ≤ 8) (hI : o < 8 → SpSm (o + 1) K) (hJ : o < 8 → SpOne (o + 1) K) : Ev sn sx (K + 5) 63 [(2, 47), (0, ((o : Nat) : Int))] (SH 7) g (ROne T L t k o p F g) := by
  have hb := hG.b
  have hl := hG.pl
  have hl3 := hG.l3
  have hvb := hG.vb
  have hn0 := nx_in (T := T) hG.pl
  have hlt0 : tK T L p ≠ -1 → p < L := hG.lt
  refine ev_of (K := (K + 4)) T63 (by decide) rfl rfl (Nat.le_of_ble_eq_true rfl) ?_
  refine wp_eq (L' := [(2, 47), (0, ((o : Nat) : Int))]) (st' := []) (g' := g) ?_
  refine wp_n 2 (pc' := 4) (L' := [(2, 47), (0, ((o : Nat) : Int))]) (st' := [(0, (g 47 2))]) (g' := g) rfl ?_
  refine wp_eq (L' := [(2, 47), (0, ((o : Nat) : Int))]) (st' := [(0, 0)]) (g' := g) ?_ (by rfl) (by rw [hG.f]) (by rfl)
  refine wp_n 3 (pc' := 12) (L' := [(2, 47), (0, ((o : Nat) : Int))]) (st' := [(0, (g 47 9))]) (g' := g) rfl ?_
  refine wp_eq (L' := [(2, 47), (0, ((o : Nat) : Int))]) (st' := [(0, (tK T L p))]) (g' := g) ?_ (by rfl) (by rw [hG.k]) (by rfl)
  refine wp_n 1 (pc' := 14) (L' := [(2, 47), (0, ((o : Nat) : Int))]) (st' := [(0, (-3)), (0, (tK T L p))]) (g' := g) rfl ?_
  refine wp_ic_ne rfl (fun c1 => ?_) (fun c1 => ?_)
  · refine wp_n 2 (pc' := 28) (L' := [(2, 47), (0, ((o : Nat) : Int))]) (st' := [(0, (g 47 9))]) (g' := g) rfl ?_
    refine wp_eq (L' := [(2, 47), (0, ((o : Nat) : Int))]) (st' := [(0, (tK T L p))]) (g' := g) ?_ (by rfl) (by rw [hG.k]) (by rfl)
    refine wp_n 1 (pc' := 30) (L' := [(2, 47), (0, ((o : Nat) : Int))]) (st' := [(0, (-2)), (0, (tK T L p))]) (g' := g) rfl ?_
    refine wp_ic_ne rfl (fun c2 => ?_) (fun c2 => ?_)
    · refine wp_n 2 (pc' := 45) (L' := [(2, 47), (0, ((o : Nat) : Int))]) (st' := [(0, (g 47 9))]) (g' := g) rfl ?_
      refine wp_eq (L' := [(2, 47), (0, ((o : Nat) : Int))]) (st' := [(0, (tK T L p))]) (g' := g) ?_ (by rfl) (by rw [hG.k]) (by rfl)
      refine wp_n 1 (pc' := 47) (L' := [(2, 47), (0, ((o : Nat) : Int))]) (st' := [(0, 40), (0, (tK T L p))]) (g' := g) rfl ?_
      refine wp_ic_ne rfl (fun c3 => ?_) (fun c3 => ?_)
      · refine wp_n 2 (pc' := 82) (L' := [(2, 47), (0, ((o : Nat) : Int))]) (st' := [(0, (g 47 9))]) (g' := g) rfl ?_
        refine wp_eq (L' := [(2, 47), (0, ((o : Nat) : Int))]) (st' := [(0, (tK T L p))]) (g' := g) ?_ (by rfl) (by rw [hG.k]) (by rfl)
        refine wp_n 1 (pc' := 84) (L' := [(2, 47), (0, ((o : Nat) : Int))]) (st' := [(0, 45), (0, (tK T L p))]) (g' := g) rfl ?_
        refine wp_ic_ne rfl (fun c4 => ?_) (fun c4 => ?_)
        · refine wp_n 2 (pc' := 118) (L' := [(2, 47), (0, ((o : Nat) : Int))]) (st' := [(0, 1), (2, 47)]) (g' := g) rfl ?_
          refine wp_cv (as := [(2, 47), (0, 1)]) (rest := []) rfl rfl rfl (Nat.le_of_ble_eq_true rfl) rfl (e_refuseG (f := 1) hG (by omega) (by omega)) (by omega) (fun r5 h6 => ?_)
          obtain ⟨g118, rfl, hX118, hF118⟩ := h6
          refine wp_eq (L' := [(2, 47), (0, ((o : Nat) : Int))]) (st' := []) (g' := g118) ?_
          exact wp_ret rfl rfl rfl (Or.inr ⟨_, _, _, rfl, (FrDt.rfl.trans hF118), hX118, one_badF (by omega) (fun q => by omega) (by omega) (by omega)⟩)
        · refine wp_n 2 (pc' := 89) (L' := [(2, 47), (0, ((o : Nat) : Int))]) (st' := [(0, ((o : Nat) : Int)), (2, 47)]) (g' := g) rfl ?_
          refine wp_cv (as := [(2, 47), (0, ((o : Nat) : Int))]) (rest := []) rfl rfl rfl (Nat.le_of_ble_eq_true rfl) rfl (e_mayOpen hG (by omega) ho) (by omega) (fun r7 h8 => ?_)
          rcases h8 with ⟨rfl, ho89⟩ | ⟨g89, rfl, ho89, hX89, hF89⟩
          · refine wp_eq (L' := [(2, 47), (0, ((o : Nat) : Int))]) (st' := [(0, 1)]) (g' := g) ?_
            refine wp_n 2 (pc' := 96) (L' := [(2, 47), (0, ((o : Nat) : Int))]) (st' := [(2, 47)]) (g' := g) rfl ?_
            refine wp_cv (as := [(2, 47)]) (rest := []) rfl rfl rfl (Nat.le_of_ble_eq_true rfl) rfl (e_advG hG) (by omega) (fun r9 h10 => ?_)
            obtain ⟨g96, rfl, hG96, hF96⟩ := h10
            have hb96 := hG96.b
            have hlt96 := hG.lt (by omega)
            have hn96 := nx_in (T := T) hG.pl
            have hl96 := hG96.pl
            refine wp_eq (L' := [(2, 47), (0, ((o : Nat) : Int))]) (st' := []) (g' := g96) ?_
            refine wp_n 4 (pc' := 103) (L' := [(2, 47), (0, ((o : Nat) : Int))]) (st' := [(0, (((o : Nat) : Int) + 1)), (2, 47)]) (g' := g96) rfl ?_
            refine wp_eq (L' := [(2, 47), (0, ((o : Nat) : Int))]) (st' := [(0, (((o + 1) : Nat) : Int)), (2, 47)]) (g' := g96) ?_ (by rfl) (by rfl) (by rfl)
            refine wp_cv (as := [(2, 47), (0, (((o + 1) : Nat) : Int))]) (rest := []) rfl rfl rfl (Nat.le_of_ble_eq_true rfl) rfl (hJ ho89 sn sx _ T L t k _ _ hG96 (by omega)) (by omega) (fun r11 h12 => ?_)
            rcases h12 with ⟨g103, p103, C103, rfl, hF103, hG103, hp103, hc103, hK103, hW103, hC103, hP103⟩ | ⟨x103, f103, q103, rfl, hF103, hX103, hP103⟩
            · have hb103 := hG103.b
              have hl103 := hG103.pl
              refine wp_eq (L' := [(2, 47), (0, ((o : Nat) : Int))]) (st' := []) (g' := g103) ?_
              refine wp_n 2 (pc' := 110) (L' := [(2, 47), (0, ((o : Nat) : Int))]) (st' := [(0, 20006), (2, 47)]) (g' := g103) rfl ?_
              refine wp_cv (as := [(2, 47), (0, 20006)]) (rest := []) rfl rfl rfl (Nat.le_of_ble_eq_true rfl) rfl (e_putG hG103 (by omega)) (by omega) (fun r13 h14 => ?_)
              obtain ⟨g110, rfl, hG110, hF110, hK110, hW110⟩ := h14
              refine wp_eq (L' := [(2, 47), (0, ((o : Nat) : Int))]) (st' := []) (g' := g110) ?_
              refine wp_n 1 (pc' := 121) (L' := [(2, 47), (0, ((o : Nat) : Int))]) (st' := []) (g' := g110) rfl ?_
              exact wp_ret rfl rfl rfl (Or.inl ⟨_, p103, C103 ++ [20006], rfl, (((FrDt.rfl.trans hF96.d).trans hF103).trans hF110), (by rw [show F + (C103 ++ [20006] : List Int).length = F + C103.length + 1 by simp only [List.length_append, List.length_cons, List.length_nil]; omega]; exact hG110), by omega, by simp only [List.length_append, List.length_cons, List.length_nil]; omega, fun j hj => by rw [hK110 j (by omega), hK103 j (by omega), hF96 7 j (by omega)], CdW.app (fun i hi => by rw [hK110 _ (by omega)]; exact hW103 i hi) hW110, (hC103.up (by omega)).neg (by omega), one_neg (by omega) ho89 hP103⟩)
            · refine wp_eq (L' := [(2, 47), (0, ((o : Nat) : Int))]) (st' := []) (g' := x103) ?_
              refine wp_n 2 (pc' := 110) (L' := [(2, 47), (0, ((o : Nat) : Int))]) (st' := [(0, 20006), (2, 47)]) (g' := x103) rfl ?_
              refine wp_cv (as := [(2, 47), (0, 20006)]) (rest := []) rfl rfl rfl (Nat.le_of_ble_eq_true rfl) rfl (e_putX hX103) (by omega) (fun r15 h16 => ?_)
              obtain ⟨x110hX103, rfl, hX110, hF110⟩ := h16
              refine wp_eq (L' := [(2, 47), (0, ((o : Nat) : Int))]) (st' := []) (g' := x110hX103) ?_
              refine wp_n 1 (pc' := 121) (L' := [(2, 47), (0, ((o : Nat) : Int))]) (st' := []) (g' := x110hX103) rfl ?_
              exact wp_ret rfl rfl rfl (Or.inr ⟨_, _, _, rfl, (((FrDt.rfl.trans hF96.d).trans hF103).trans hF110), hX110, one_negF (by omega) ho89 hP103⟩)
          · refine wp_eq (L' := [(2, 47), (0, ((o : Nat) : Int))]) (st' := [(0, 0)]) (g' := g89) ?_
            refine wp_n 1 (pc' := 121) (L' := [(2, 47), (0, ((o : Nat) : Int))]) (st' := []) (g' := g89) rfl ?_
            exact wp_ret rfl rfl rfl (Or.inr ⟨_, _, _, rfl, (FrDt.rfl.trans hF89), hX89, by rw [ho89]; exact one_opnF (by omega)⟩)
      · refine wp_n 2 (pc' := 52) (L' := [(2, 47), (0, ((o : Nat) : Int))]) (st' := [(0, ((o : Nat) : Int)), (2, 47)]) (g' := g) rfl ?_
        refine wp_cv (as := [(2, 47), (0, ((o : Nat) : Int))]) (rest := []) rfl rfl rfl (Nat.le_of_ble_eq_true rfl) rfl (e_mayOpen hG (by omega) ho) (by omega) (fun r17 h18 => ?_)
        rcases h18 with ⟨rfl, ho52⟩ | ⟨g52, rfl, ho52, hX52, hF52⟩
        · refine wp_eq (L' := [(2, 47), (0, ((o : Nat) : Int))]) (st' := [(0, 1)]) (g' := g) ?_
          refine wp_n 2 (pc' := 59) (L' := [(2, 47), (0, ((o : Nat) : Int))]) (st' := [(2, 47)]) (g' := g) rfl ?_
          refine wp_cv (as := [(2, 47)]) (rest := []) rfl rfl rfl (Nat.le_of_ble_eq_true rfl) rfl (e_advG hG) (by omega) (fun r19 h20 => ?_)
          obtain ⟨g59, rfl, hG59, hF59⟩ := h20
          have hb59 := hG59.b
          have hlt59 := hG.lt (by omega)
          have hn59 := nx_in (T := T) hG.pl
          have hl59 := hG59.pl
          refine wp_eq (L' := [(2, 47), (0, ((o : Nat) : Int))]) (st' := []) (g' := g59) ?_
          refine wp_n 4 (pc' := 66) (L' := [(2, 47), (0, ((o : Nat) : Int))]) (st' := [(0, (((o : Nat) : Int) + 1)), (2, 47)]) (g' := g59) rfl ?_
          refine wp_eq (L' := [(2, 47), (0, ((o : Nat) : Int))]) (st' := [(0, (((o + 1) : Nat) : Int)), (2, 47)]) (g' := g59) ?_ (by rfl) (by rfl) (by rfl)
          refine wp_cv (as := [(2, 47), (0, (((o + 1) : Nat) : Int))]) (rest := []) rfl rfl rfl (Nat.le_of_ble_eq_true rfl) rfl (hI ho52 sn sx _ T L t k _ _ hG59 (by omega)) (by omega) (fun r21 h22 => ?_)
          rcases h22 with ⟨g66, p66, C66, rfl, hF66, hG66, hp66, hc66, hK66, hW66, hC66, hP66, hq66⟩ | ⟨x66, f66, q66, rfl, hF66, hX66, hP66⟩
          · have hb66 := hG66.b
            have hl66 := hG66.pl
            refine wp_eq (L' := [(2, 47), (0, ((o : Nat) : Int))]) (st' := []) (g' := g66) ?_
            refine wp_n 2 (pc' := 72) (L' := [(2, 47), (0, ((o : Nat) : Int))]) (st' := [(0, 41), (2, 47)]) (g' := g66) rfl ?_
            refine wp_cv (as := [(2, 47), (0, 41)]) (rest := []) rfl rfl rfl (Nat.le_of_ble_eq_true rfl) rfl (e_expG hG66 (by omega) (by decide)) (by omega) (fun r23 h24 => ?_)
            rcases h24 with ⟨g72, rfl, he72, hG72, hF72⟩ | ⟨x72, rfl, he72, hX72, hF72⟩
            · have hb72 := hG72.b
              have hlt72 := hG66.lt (by omega)
              have hn72 := nx_in (T := T) hG66.pl
              have hl72 := hG72.pl
              refine wp_eq (L' := [(2, 47), (0, ((o : Nat) : Int))]) (st' := []) (g' := g72) ?_
              refine wp_n 1 (pc' := 121) (L' := [(2, 47), (0, ((o : Nat) : Int))]) (st' := []) (g' := g72) rfl ?_
              exact wp_ret rfl rfl rfl (Or.inl ⟨_, nx T L p66, C66, rfl, (((FrDt.rfl.trans hF59.d).trans hF66).trans hF72.d), hG72, by omega, by omega, fun j hj => by rw [hF72 7 j (by omega), hK66 j (by omega), hF59 7 j (by omega)], fun i hi => by rw [hF72 7 _ (by omega)]; exact hW66 i hi, hC66.up (by omega), one_par (by omega) ho52 hP66 he72⟩)
            · refine wp_eq (L' := [(2, 47), (0, ((o : Nat) : Int))]) (st' := []) (g' := x72) ?_
              refine wp_n 1 (pc' := 121) (L' := [(2, 47), (0, ((o : Nat) : Int))]) (st' := []) (g' := x72) rfl ?_
              exact wp_ret rfl rfl rfl (Or.inr ⟨_, _, _, rfl, (((FrDt.rfl.trans hF59.d).trans hF66).trans hF72), hX72, one_parF1 (by omega) ho52 hP66 he72 hq66⟩)
          · refine wp_eq (L' := [(2, 47), (0, ((o : Nat) : Int))]) (st' := []) (g' := x66) ?_
            refine wp_n 2 (pc' := 72) (L' := [(2, 47), (0, ((o : Nat) : Int))]) (st' := [(0, 41), (2, 47)]) (g' := x66) rfl ?_
            refine wp_cv (as := [(2, 47), (0, 41)]) (rest := []) rfl rfl rfl (Nat.le_of_ble_eq_true rfl) rfl (e_expX hX66) (by omega) (fun r25 h26 => ?_)
            obtain rfl := h26
            refine wp_eq (L' := [(2, 47), (0, ((o : Nat) : Int))]) (st' := []) (g' := x66) ?_
            refine wp_n 1 (pc' := 121) (L' := [(2, 47), (0, ((o : Nat) : Int))]) (st' := []) (g' := x66) rfl ?_
            exact wp_ret rfl rfl rfl (Or.inr ⟨_, _, _, rfl, ((FrDt.rfl.trans hF59.d).trans hF66), hX66, one_parF (by omega) ho52 hP66⟩)
        · refine wp_eq (L' := [(2, 47), (0, ((o : Nat) : Int))]) (st' := [(0, 0)]) (g' := g52) ?_
          refine wp_n 1 (pc' := 121) (L' := [(2, 47), (0, ((o : Nat) : Int))]) (st' := []) (g' := g52) rfl ?_
          exact wp_ret rfl rfl rfl (Or.inr ⟨_, _, _, rfl, (FrDt.rfl.trans hF52), hX52, by rw [ho52]; exact one_opnF (by omega)⟩)
    · refine wp_n 2 (pc' := 35) (L' := [(2, 47), (0, ((o : Nat) : Int))]) (st' := [(0, ((o : Nat) : Int)), (2, 47)]) (g' := g) rfl ?_
      refine wp_cv (as := [(2, 47), (0, ((o : Nat) : Int))]) (rest := []) rfl rfl rfl (Nat.le_of_ble_eq_true rfl) rfl (e_word_of hK0 hG hFp ho hI (by omega)) (by omega) (fun r35 hR35 => ?_)
      rcases hR35 with ⟨g35, p35, C35, rfl, hR35⟩ | ⟨g35, f35, q35, rfl, hR35⟩
      · refine wp_n 1 (pc' := 121) (L' := [(2, 47), (0, ((o : Nat) : Int))]) (st' := []) (g' := g35) rfl ?_
        exact wp_ret rfl rfl rfl (Or.inl ⟨_, _, _, rfl, hR35⟩)
      · refine wp_n 1 (pc' := 121) (L' := [(2, 47), (0, ((o : Nat) : Int))]) (st' := []) (g' := g35) rfl ?_
        exact wp_ret rfl rfl rfl (Or.inr ⟨_, _, _, rfl, hR35⟩)
  · have hlt1 := hG.lt (by omega)
    refine wp_n 1 (pc' := 18) (L' := [(2, 47), (0, ((o : Nat) : Int))]) (st' := [(2, 47)]) (g' := g) rfl ?_
    refine wp_cv (as := [(2, 47)]) (rest := []) rfl rfl rfl (Nat.le_of_ble_eq_true rfl) rfl (e_readNumber hG (by omega) (by omega)) (by omega) (fun r27 h28 => ?_)
    rcases h28 with ⟨g18, rfl, hv18, hG18, hF18, hK18, hW18⟩ | ⟨x18, rfl, hv18, hX18, hF18⟩
    · refine wp_eq (L' := [(2, 47), (0, ((o : Nat) : Int))]) (st' := []) (g' := g18) ?_
      refine wp_n 1 (pc' := 121) (L' := [(2, 47), (0, ((o : Nat) : Int))]) (st' := []) (g' := g18) rfl ?_
      exact wp_ret rfl rfl rfl (Or.inl ⟨_, nx T L p, [tV T L p], rfl, hF18, hG18, by omega, by show p + 1 ≤ _; omega, hK18, hW18, CW.one (Or.inl (by have := tV_num (T := T) hl (by omega); omega)) (by omega) (by omega), one_num (by omega) hv18⟩)
    · refine wp_eq (L' := [(2, 47), (0, ((o : Nat) : Int))]) (st' := []) (g' := x18) ?_
      refine wp_n 1 (pc' := 121) (L' := [(2, 47), (0, ((o : Nat) : Int))]) (st' := []) (g' := x18) rfl ?_
      exact wp_ret rfl rfl rfl (Or.inr ⟨_, _, _, rfl, hF18, hX18, one_numF (by omega) hv18⟩)
set_option maxHeartbeats 400000 in
set_option maxRecDepth 20000 in
theorem e_pr_of {sn : Nat} {sx : Nat → Int} {g : am_G} {T : Nat → Int} {L t k o p F K : Nat} (hK0 : 11 ≤ K) (hG : RdG T L t k p F g) (hFp : F ≤ p) (ho : o ≤ 8) (hS : SpOne o K) : Ev sn sx (K + 1) 62 [(2, 47), (0, ((o : Nat) : Int))] (SH 7) g (RPr T L t k o p F g) := by
  have hb := hG.b
  have hl := hG.pl
  have hl3 := hG.l3
  have hvb := hG.vb
  refine ev_of (K := K) T62 (by decide) rfl rfl (Nat.le_of_ble_eq_true rfl) ?_
  refine wp_eq (L' := [(2, 47), (0, ((o : Nat) : Int)), (9, 0), (9, 0)]) (st' := []) (g' := g) ?_
  refine wp_n 2 (pc' := 2) (L' := [(2, 47), (0, ((o : Nat) : Int)), (9, 0), (9, 0)]) (st' := [(0, ((o : Nat) : Int)), (2, 47)]) (g' := g) rfl ?_
  refine wp_cv (as := [(2, 47), (0, ((o : Nat) : Int))]) (rest := []) rfl rfl rfl (Nat.le_of_ble_eq_true rfl) rfl (hS sn sx _ T L t k _ _ hG (by omega)) (by omega) (fun r1 h2 => ?_)
  rcases h2 with ⟨g2, p2, C2, rfl, hF2, hG2, hp2, hc2, hK2, hW2, hC2, hP2⟩ | ⟨x2, f2, q2, rfl, hF2, hX2, hP2⟩
  · have hb2 := hG2.b
    have hl2 := hG2.pl
    refine wp_eq (L' := [(2, 47), (0, ((o : Nat) : Int)), (9, 0), (9, 0)]) (st' := []) (g' := g2) ?_
    refine wp_n 2 (pc' := 7) (L' := [(2, 47), (0, ((o : Nat) : Int)), (0, 0), (9, 0)]) (st' := []) (g' := g2) rfl ?_
    have L7 : ∀ (lf : Nat) (i : Nat) (h : am_G) (w3 : am_V) (pm : Nat) (C : List Int), 300 - i < lf → (RdG T L t k pm (F + C.length) h) → (FrDt t g h) → (p < pm ∧ p + i < pm) → (p + C.length ≤ pm) → (CdK t F g h) → (CdW t F C h) → (CW k (26 - 3 * (o : Int)) C) → (PPr T L k o p pm C) → Wp sn sx K T62 7 [(2, 47), (0, ((o : Nat) : Int)), (0, ((i : Nat) : Int)), w3] [] (SH 7) h (RPr T L t k o p F g) := by
      intro lf
      induction lf with
      | zero => intro i h w3 pm C hlf; exact absurd hlf (Nat.not_lt_zero _)
      | succ lf ih7 =>
        intro i h w3 pm C hlf hGm hFm hpm hcm hKm hWm hCm hPm
        refine wp_n 4 (pc' := 13) (L' := [(2, 47), (0, ((o : Nat) : Int)), (0, ((i : Nat) : Int)), w3]) (st' := [(0, 300), (0, ((i : Nat) : Int))]) (g' := h) rfl ?_
        refine wp_ic_ge rfl (fun c3 => ?_) (fun c3 => ?_)
        · have hz := hGm.pl
          exact wp_ret rfl rfl rfl (Or.inl ⟨_, pm, C, rfl, hFm, hGm, hpm.1, hcm, hKm, hWm, hCm, hPm, by first | (refine ⟨?_, ?_⟩ <;> omega) | (refine ⟨fun q => ?_, fun q => ?_⟩ <;> (have := hGm.lt (by omega); omega))⟩)
        · have hz := hGm.pl
          have hbm := hGm.b
          refine wp_n 2 (pc' := 20) (L' := [(2, 47), (0, ((o : Nat) : Int)), (0, ((i : Nat) : Int)), w3]) (st' := [(0, (h 47 2))]) (g' := h) rfl ?_
          refine wp_eq (L' := [(2, 47), (0, ((o : Nat) : Int)), (0, ((i : Nat) : Int)), w3]) (st' := [(0, 0)]) (g' := h) ?_ (by rfl) (by rw [hGm.f]) (by rfl)
          refine wp_n 3 (pc' := 27) (L' := [(2, 47), (0, ((o : Nat) : Int)), (0, ((i : Nat) : Int)), w3]) (st' := [(0, (h 47 9))]) (g' := h) rfl ?_
          refine wp_eq (L' := [(2, 47), (0, ((o : Nat) : Int)), (0, ((i : Nat) : Int)), w3]) (st' := [(0, (tK T L pm))]) (g' := h) ?_ (by rfl) (by rw [hGm.k]) (by rfl)
          refine wp_n 1 (pc' := 29) (L' := [(2, 47), (0, ((o : Nat) : Int)), (0, ((i : Nat) : Int)), w3]) (st' := [(0, 42), (0, (tK T L pm))]) (g' := h) rfl ?_
          refine wp_ic_eq rfl (fun c4 => ?_) (fun c4 => ?_)
          · refine wp_n 2 (pc' := 45) (L' := [(2, 47), (0, ((o : Nat) : Int)), (0, ((i : Nat) : Int)), w3]) (st' := [(0, (h 47 9))]) (g' := h) rfl ?_
            refine wp_eq (L' := [(2, 47), (0, ((o : Nat) : Int)), (0, ((i : Nat) : Int)), w3]) (st' := [(0, (tK T L pm))]) (g' := h) ?_ (by rfl) (by rw [hGm.k]) (by rfl)
            refine wp_n 1 (pc' := 47) (L' := [(2, 47), (0, ((o : Nat) : Int)), (0, ((i : Nat) : Int)), w3]) (st' := [(0, 42), (0, (tK T L pm))]) (g' := h) rfl ?_
            refine wp_ic_ne rfl (fun c5 => ?_) (fun c5 => ?_)
            · refine wp_n 3 (pc' := 61) (L' := [(2, 47), (0, ((o : Nat) : Int)), (0, ((i : Nat) : Int)), (0, 20003)]) (st' := [(2, 47)]) (g' := h) rfl ?_
              refine wp_cv (as := [(2, 47)]) (rest := []) rfl rfl rfl (Nat.le_of_ble_eq_true rfl) rfl (e_advG hGm) (by omega) (fun r6 h7 => ?_)
              obtain ⟨g61, rfl, hG61, hF61⟩ := h7
              have hb61 := hG61.b
              have hlt61 := hGm.lt (by omega)
              have hn61 := nx_in (T := T) hGm.pl
              have hl61 := hG61.pl
              refine wp_eq (L' := [(2, 47), (0, ((o : Nat) : Int)), (0, ((i : Nat) : Int)), (0, 20003)]) (st' := []) (g' := g61) ?_
              refine wp_n 2 (pc' := 66) (L' := [(2, 47), (0, ((o : Nat) : Int)), (0, ((i : Nat) : Int)), (0, 20003)]) (st' := [(0, ((o : Nat) : Int)), (2, 47)]) (g' := g61) rfl ?_
              refine wp_cv (as := [(2, 47), (0, ((o : Nat) : Int))]) (rest := []) rfl rfl rfl (Nat.le_of_ble_eq_true rfl) rfl (hS sn sx _ T L t k _ _ hG61 (by omega)) (by omega) (fun r8 h9 => ?_)
              rcases h9 with ⟨g66, p66, C66, rfl, hF66, hG66, hp66, hc66, hK66, hW66, hC66, hP66⟩ | ⟨x66, f66, q66, rfl, hF66, hX66, hP66⟩
              · have hb66 := hG66.b
                have hl66 := hG66.pl
                refine wp_eq (L' := [(2, 47), (0, ((o : Nat) : Int)), (0, ((i : Nat) : Int)), (0, 20003)]) (st' := []) (g' := g66) ?_
                refine wp_n 2 (pc' := 71) (L' := [(2, 47), (0, ((o : Nat) : Int)), (0, ((i : Nat) : Int)), (0, 20003)]) (st' := [(0, 20003), (2, 47)]) (g' := g66) rfl ?_
                refine wp_cv (as := [(2, 47), (0, 20003)]) (rest := []) rfl rfl rfl (Nat.le_of_ble_eq_true rfl) rfl (e_putG hG66 (by omega)) (by omega) (fun r10 h11 => ?_)
                obtain ⟨g71, rfl, hG71, hF71, hK71, hW71⟩ := h11
                refine wp_eq (L' := [(2, 47), (0, ((o : Nat) : Int)), (0, ((i : Nat) : Int)), (0, 20003)]) (st' := []) (g' := g71) ?_
                refine wp_n 2 (pc' := 7) (L' := [(2, 47), (0, ((o : Nat) : Int)), (0, (((i : Nat) : Int) + 1)), (0, 20003)]) (st' := []) (g' := g71) rfl ?_
                refine wp_eq (ih7 (i + 1) (g71) ((0, 20003)) (p66) (C ++ (C66 ++ [20003])) ?_ ?_ ?_ ?_ ?_ ?_ ?_ ?_ ?_) (by rfl) (by rfl) (by rfl)
                · omega
                · rw [show F + (C ++ (C66 ++ [20003]) : List Int).length = F + C.length + C66.length + 1 by simp only [List.length_append, List.length_cons, List.length_nil]; omega]; exact hG71
                · exact (((hFm.trans hF61.d).trans hF66).trans hF71)
                · omega
                · simp only [List.length_append, List.length_cons, List.length_nil]; omega
                · exact fun j hj => by rw [hK71 j (by omega), hK66 j (by omega), hF61 7 j (by omega), hKm j (by omega)]
                · exact CdW.app (fun i hi => by rw [hK71 _ (by omega), hK66 _ (by omega), hF61 7 _ (by omega)]; exact hWm i hi) (CdW.app (fun i hi => by rw [hK71 _ (by omega)]; exact hW66 i hi) hW71)
                · exact hCm.bin (hC66.up (by omega)) (by omega) (by omega)
                · have hnx := pr_next hPm (by omega) hP66
                  first
                  | (rw [if_pos (by omega)] at hnx; exact hnx)
                  | (rw [if_neg (by omega)] at hnx; exact hnx)
              · refine wp_eq (L' := [(2, 47), (0, ((o : Nat) : Int)), (0, ((i : Nat) : Int)), (0, 20003)]) (st' := []) (g' := x66) ?_
                refine wp_n 2 (pc' := 71) (L' := [(2, 47), (0, ((o : Nat) : Int)), (0, ((i : Nat) : Int)), (0, 20003)]) (st' := [(0, 20003), (2, 47)]) (g' := x66) rfl ?_
                refine wp_cv (as := [(2, 47), (0, 20003)]) (rest := []) rfl rfl rfl (Nat.le_of_ble_eq_true rfl) rfl (e_putX hX66) (by omega) (fun r12 h13 => ?_)
                obtain ⟨x71hX66, rfl, hX71, hF71⟩ := h13
                refine wp_eq (L' := [(2, 47), (0, ((o : Nat) : Int)), (0, ((i : Nat) : Int)), (0, 20003)]) (st' := []) (g' := x71hX66) ?_
                refine wp_n 2 (pc' := 7) (L' := [(2, 47), (0, ((o : Nat) : Int)), (0, (((i : Nat) : Int) + 1)), (0, 20003)]) (st' := []) (g' := x71hX66) rfl ?_
                exact wx_pr hX71 (Or.inr ⟨_, _, _, rfl, (((hFm.trans hF61.d).trans hF66).trans hF71), hX71, pr_nextF hPm (by omega) hP66⟩)
            · refine wp_n 4 (pc' := 61) (L' := [(2, 47), (0, ((o : Nat) : Int)), (0, ((i : Nat) : Int)), (0, 20002)]) (st' := [(2, 47)]) (g' := h) rfl ?_
              refine wp_cv (as := [(2, 47)]) (rest := []) rfl rfl rfl (Nat.le_of_ble_eq_true rfl) rfl (e_advG hGm) (by omega) (fun r14 h15 => ?_)
              obtain ⟨g61, rfl, hG61, hF61⟩ := h15
              have hb61 := hG61.b
              have hlt61 := hGm.lt (by omega)
              have hn61 := nx_in (T := T) hGm.pl
              have hl61 := hG61.pl
              refine wp_eq (L' := [(2, 47), (0, ((o : Nat) : Int)), (0, ((i : Nat) : Int)), (0, 20002)]) (st' := []) (g' := g61) ?_
              refine wp_n 2 (pc' := 66) (L' := [(2, 47), (0, ((o : Nat) : Int)), (0, ((i : Nat) : Int)), (0, 20002)]) (st' := [(0, ((o : Nat) : Int)), (2, 47)]) (g' := g61) rfl ?_
              refine wp_cv (as := [(2, 47), (0, ((o : Nat) : Int))]) (rest := []) rfl rfl rfl (Nat.le_of_ble_eq_true rfl) rfl (hS sn sx _ T L t k _ _ hG61 (by omega)) (by omega) (fun r16 h17 => ?_)
              rcases h17 with ⟨g66, p66, C66, rfl, hF66, hG66, hp66, hc66, hK66, hW66, hC66, hP66⟩ | ⟨x66, f66, q66, rfl, hF66, hX66, hP66⟩
              · have hb66 := hG66.b
                have hl66 := hG66.pl
                refine wp_eq (L' := [(2, 47), (0, ((o : Nat) : Int)), (0, ((i : Nat) : Int)), (0, 20002)]) (st' := []) (g' := g66) ?_
                refine wp_n 2 (pc' := 71) (L' := [(2, 47), (0, ((o : Nat) : Int)), (0, ((i : Nat) : Int)), (0, 20002)]) (st' := [(0, 20002), (2, 47)]) (g' := g66) rfl ?_
                refine wp_cv (as := [(2, 47), (0, 20002)]) (rest := []) rfl rfl rfl (Nat.le_of_ble_eq_true rfl) rfl (e_putG hG66 (by omega)) (by omega) (fun r18 h19 => ?_)
                obtain ⟨g71, rfl, hG71, hF71, hK71, hW71⟩ := h19
                refine wp_eq (L' := [(2, 47), (0, ((o : Nat) : Int)), (0, ((i : Nat) : Int)), (0, 20002)]) (st' := []) (g' := g71) ?_
                refine wp_n 2 (pc' := 7) (L' := [(2, 47), (0, ((o : Nat) : Int)), (0, (((i : Nat) : Int) + 1)), (0, 20002)]) (st' := []) (g' := g71) rfl ?_
                refine wp_eq (ih7 (i + 1) (g71) ((0, 20002)) (p66) (C ++ (C66 ++ [20002])) ?_ ?_ ?_ ?_ ?_ ?_ ?_ ?_ ?_) (by rfl) (by rfl) (by rfl)
                · omega
                · rw [show F + (C ++ (C66 ++ [20002]) : List Int).length = F + C.length + C66.length + 1 by simp only [List.length_append, List.length_cons, List.length_nil]; omega]; exact hG71
                · exact (((hFm.trans hF61.d).trans hF66).trans hF71)
                · omega
                · simp only [List.length_append, List.length_cons, List.length_nil]; omega
                · exact fun j hj => by rw [hK71 j (by omega), hK66 j (by omega), hF61 7 j (by omega), hKm j (by omega)]
                · exact CdW.app (fun i hi => by rw [hK71 _ (by omega), hK66 _ (by omega), hF61 7 _ (by omega)]; exact hWm i hi) (CdW.app (fun i hi => by rw [hK71 _ (by omega)]; exact hW66 i hi) hW71)
                · exact hCm.bin (hC66.up (by omega)) (by omega) (by omega)
                · have hnx := pr_next hPm (by omega) hP66
                  first
                  | (rw [if_pos (by omega)] at hnx; exact hnx)
                  | (rw [if_neg (by omega)] at hnx; exact hnx)
              · refine wp_eq (L' := [(2, 47), (0, ((o : Nat) : Int)), (0, ((i : Nat) : Int)), (0, 20002)]) (st' := []) (g' := x66) ?_
                refine wp_n 2 (pc' := 71) (L' := [(2, 47), (0, ((o : Nat) : Int)), (0, ((i : Nat) : Int)), (0, 20002)]) (st' := [(0, 20002), (2, 47)]) (g' := x66) rfl ?_
                refine wp_cv (as := [(2, 47), (0, 20002)]) (rest := []) rfl rfl rfl (Nat.le_of_ble_eq_true rfl) rfl (e_putX hX66) (by omega) (fun r20 h21 => ?_)
                obtain ⟨x71hX66, rfl, hX71, hF71⟩ := h21
                refine wp_eq (L' := [(2, 47), (0, ((o : Nat) : Int)), (0, ((i : Nat) : Int)), (0, 20002)]) (st' := []) (g' := x71hX66) ?_
                refine wp_n 2 (pc' := 7) (L' := [(2, 47), (0, ((o : Nat) : Int)), (0, (((i : Nat) : Int) + 1)), (0, 20002)]) (st' := []) (g' := x71hX66) rfl ?_
                exact wx_pr hX71 (Or.inr ⟨_, _, _, rfl, (((hFm.trans hF61.d).trans hF66).trans hF71), hX71, pr_nextF hPm (by omega) hP66⟩)
          · refine wp_n 2 (pc' := 36) (L' := [(2, 47), (0, ((o : Nat) : Int)), (0, ((i : Nat) : Int)), w3]) (st' := [(0, (h 47 9))]) (g' := h) rfl ?_
            refine wp_eq (L' := [(2, 47), (0, ((o : Nat) : Int)), (0, ((i : Nat) : Int)), w3]) (st' := [(0, (tK T L pm))]) (g' := h) ?_ (by rfl) (by rw [hGm.k]) (by rfl)
            refine wp_n 1 (pc' := 38) (L' := [(2, 47), (0, ((o : Nat) : Int)), (0, ((i : Nat) : Int)), w3]) (st' := [(0, 47), (0, (tK T L pm))]) (g' := h) rfl ?_
            refine wp_ic_ne rfl (fun c22 => ?_) (fun c22 => ?_)
            · exact wp_ret rfl rfl rfl (Or.inl ⟨_, pm, C, rfl, hFm, hGm, hpm.1, hcm, hKm, hWm, hCm, hPm, by first | (refine ⟨?_, ?_⟩ <;> omega) | (refine ⟨fun q => ?_, fun q => ?_⟩ <;> (have := hGm.lt (by omega); omega))⟩)
            · refine wp_n 2 (pc' := 45) (L' := [(2, 47), (0, ((o : Nat) : Int)), (0, ((i : Nat) : Int)), w3]) (st' := [(0, (h 47 9))]) (g' := h) rfl ?_
              refine wp_eq (L' := [(2, 47), (0, ((o : Nat) : Int)), (0, ((i : Nat) : Int)), w3]) (st' := [(0, (tK T L pm))]) (g' := h) ?_ (by rfl) (by rw [hGm.k]) (by rfl)
              refine wp_n 1 (pc' := 47) (L' := [(2, 47), (0, ((o : Nat) : Int)), (0, ((i : Nat) : Int)), w3]) (st' := [(0, 42), (0, (tK T L pm))]) (g' := h) rfl ?_
              refine wp_ic_ne rfl (fun c23 => ?_) (fun c23 => ?_)
              · refine wp_n 3 (pc' := 61) (L' := [(2, 47), (0, ((o : Nat) : Int)), (0, ((i : Nat) : Int)), (0, 20003)]) (st' := [(2, 47)]) (g' := h) rfl ?_
                refine wp_cv (as := [(2, 47)]) (rest := []) rfl rfl rfl (Nat.le_of_ble_eq_true rfl) rfl (e_advG hGm) (by omega) (fun r24 h25 => ?_)
                obtain ⟨g61, rfl, hG61, hF61⟩ := h25
                have hb61 := hG61.b
                have hlt61 := hGm.lt (by omega)
                have hn61 := nx_in (T := T) hGm.pl
                have hl61 := hG61.pl
                refine wp_eq (L' := [(2, 47), (0, ((o : Nat) : Int)), (0, ((i : Nat) : Int)), (0, 20003)]) (st' := []) (g' := g61) ?_
                refine wp_n 2 (pc' := 66) (L' := [(2, 47), (0, ((o : Nat) : Int)), (0, ((i : Nat) : Int)), (0, 20003)]) (st' := [(0, ((o : Nat) : Int)), (2, 47)]) (g' := g61) rfl ?_
                refine wp_cv (as := [(2, 47), (0, ((o : Nat) : Int))]) (rest := []) rfl rfl rfl (Nat.le_of_ble_eq_true rfl) rfl (hS sn sx _ T L t k _ _ hG61 (by omega)) (by omega) (fun r26 h27 => ?_)
                rcases h27 with ⟨g66, p66, C66, rfl, hF66, hG66, hp66, hc66, hK66, hW66, hC66, hP66⟩ | ⟨x66, f66, q66, rfl, hF66, hX66, hP66⟩
                · have hb66 := hG66.b
                  have hl66 := hG66.pl
                  refine wp_eq (L' := [(2, 47), (0, ((o : Nat) : Int)), (0, ((i : Nat) : Int)), (0, 20003)]) (st' := []) (g' := g66) ?_
                  refine wp_n 2 (pc' := 71) (L' := [(2, 47), (0, ((o : Nat) : Int)), (0, ((i : Nat) : Int)), (0, 20003)]) (st' := [(0, 20003), (2, 47)]) (g' := g66) rfl ?_
                  refine wp_cv (as := [(2, 47), (0, 20003)]) (rest := []) rfl rfl rfl (Nat.le_of_ble_eq_true rfl) rfl (e_putG hG66 (by omega)) (by omega) (fun r28 h29 => ?_)
                  obtain ⟨g71, rfl, hG71, hF71, hK71, hW71⟩ := h29
                  refine wp_eq (L' := [(2, 47), (0, ((o : Nat) : Int)), (0, ((i : Nat) : Int)), (0, 20003)]) (st' := []) (g' := g71) ?_
                  refine wp_n 2 (pc' := 7) (L' := [(2, 47), (0, ((o : Nat) : Int)), (0, (((i : Nat) : Int) + 1)), (0, 20003)]) (st' := []) (g' := g71) rfl ?_
                  refine wp_eq (ih7 (i + 1) (g71) ((0, 20003)) (p66) (C ++ (C66 ++ [20003])) ?_ ?_ ?_ ?_ ?_ ?_ ?_ ?_ ?_) (by rfl) (by rfl) (by rfl)
                  · omega
                  · rw [show F + (C ++ (C66 ++ [20003]) : List Int).length = F + C.length + C66.length + 1 by simp only [List.length_append, List.length_cons, List.length_nil]; omega]; exact hG71
                  · exact (((hFm.trans hF61.d).trans hF66).trans hF71)
                  · omega
                  · simp only [List.length_append, List.length_cons, List.length_nil]; omega
                  · exact fun j hj => by rw [hK71 j (by omega), hK66 j (by omega), hF61 7 j (by omega), hKm j (by omega)]
                  · exact CdW.app (fun i hi => by rw [hK71 _ (by omega), hK66 _ (by omega), hF61 7 _ (by omega)]; exact hWm i hi) (CdW.app (fun i hi => by rw [hK71 _ (by omega)]; exact hW66 i hi) hW71)
                  · exact hCm.bin (hC66.up (by omega)) (by omega) (by omega)
                  · have hnx := pr_next hPm (by omega) hP66
                    first
                    | (rw [if_pos (by omega)] at hnx; exact hnx)
                    | (rw [if_neg (by omega)] at hnx; exact hnx)
                · refine wp_eq (L' := [(2, 47), (0, ((o : Nat) : Int)), (0, ((i : Nat) : Int)), (0, 20003)]) (st' := []) (g' := x66) ?_
                  refine wp_n 2 (pc' := 71) (L' := [(2, 47), (0, ((o : Nat) : Int)), (0, ((i : Nat) : Int)), (0, 20003)]) (st' := [(0, 20003), (2, 47)]) (g' := x66) rfl ?_
                  refine wp_cv (as := [(2, 47), (0, 20003)]) (rest := []) rfl rfl rfl (Nat.le_of_ble_eq_true rfl) rfl (e_putX hX66) (by omega) (fun r30 h31 => ?_)
                  obtain ⟨x71hX66, rfl, hX71, hF71⟩ := h31
                  refine wp_eq (L' := [(2, 47), (0, ((o : Nat) : Int)), (0, ((i : Nat) : Int)), (0, 20003)]) (st' := []) (g' := x71hX66) ?_
                  refine wp_n 2 (pc' := 7) (L' := [(2, 47), (0, ((o : Nat) : Int)), (0, (((i : Nat) : Int) + 1)), (0, 20003)]) (st' := []) (g' := x71hX66) rfl ?_
                  exact wx_pr hX71 (Or.inr ⟨_, _, _, rfl, (((hFm.trans hF61.d).trans hF66).trans hF71), hX71, pr_nextF hPm (by omega) hP66⟩)
              · refine wp_n 4 (pc' := 61) (L' := [(2, 47), (0, ((o : Nat) : Int)), (0, ((i : Nat) : Int)), (0, 20002)]) (st' := [(2, 47)]) (g' := h) rfl ?_
                refine wp_cv (as := [(2, 47)]) (rest := []) rfl rfl rfl (Nat.le_of_ble_eq_true rfl) rfl (e_advG hGm) (by omega) (fun r32 h33 => ?_)
                obtain ⟨g61, rfl, hG61, hF61⟩ := h33
                have hb61 := hG61.b
                have hlt61 := hGm.lt (by omega)
                have hn61 := nx_in (T := T) hGm.pl
                have hl61 := hG61.pl
                refine wp_eq (L' := [(2, 47), (0, ((o : Nat) : Int)), (0, ((i : Nat) : Int)), (0, 20002)]) (st' := []) (g' := g61) ?_
                refine wp_n 2 (pc' := 66) (L' := [(2, 47), (0, ((o : Nat) : Int)), (0, ((i : Nat) : Int)), (0, 20002)]) (st' := [(0, ((o : Nat) : Int)), (2, 47)]) (g' := g61) rfl ?_
                refine wp_cv (as := [(2, 47), (0, ((o : Nat) : Int))]) (rest := []) rfl rfl rfl (Nat.le_of_ble_eq_true rfl) rfl (hS sn sx _ T L t k _ _ hG61 (by omega)) (by omega) (fun r34 h35 => ?_)
                rcases h35 with ⟨g66, p66, C66, rfl, hF66, hG66, hp66, hc66, hK66, hW66, hC66, hP66⟩ | ⟨x66, f66, q66, rfl, hF66, hX66, hP66⟩
                · have hb66 := hG66.b
                  have hl66 := hG66.pl
                  refine wp_eq (L' := [(2, 47), (0, ((o : Nat) : Int)), (0, ((i : Nat) : Int)), (0, 20002)]) (st' := []) (g' := g66) ?_
                  refine wp_n 2 (pc' := 71) (L' := [(2, 47), (0, ((o : Nat) : Int)), (0, ((i : Nat) : Int)), (0, 20002)]) (st' := [(0, 20002), (2, 47)]) (g' := g66) rfl ?_
                  refine wp_cv (as := [(2, 47), (0, 20002)]) (rest := []) rfl rfl rfl (Nat.le_of_ble_eq_true rfl) rfl (e_putG hG66 (by omega)) (by omega) (fun r36 h37 => ?_)
                  obtain ⟨g71, rfl, hG71, hF71, hK71, hW71⟩ := h37
                  refine wp_eq (L' := [(2, 47), (0, ((o : Nat) : Int)), (0, ((i : Nat) : Int)), (0, 20002)]) (st' := []) (g' := g71) ?_
                  refine wp_n 2 (pc' := 7) (L' := [(2, 47), (0, ((o : Nat) : Int)), (0, (((i : Nat) : Int) + 1)), (0, 20002)]) (st' := []) (g' := g71) rfl ?_
                  refine wp_eq (ih7 (i + 1) (g71) ((0, 20002)) (p66) (C ++ (C66 ++ [20002])) ?_ ?_ ?_ ?_ ?_ ?_ ?_ ?_ ?_) (by rfl) (by rfl) (by rfl)
                  · omega
                  · rw [show F + (C ++ (C66 ++ [20002]) : List Int).length = F + C.length + C66.length + 1 by simp only [List.length_append, List.length_cons, List.length_nil]; omega]; exact hG71
                  · exact (((hFm.trans hF61.d).trans hF66).trans hF71)
                  · omega
                  · simp only [List.length_append, List.length_cons, List.length_nil]; omega
                  · exact fun j hj => by rw [hK71 j (by omega), hK66 j (by omega), hF61 7 j (by omega), hKm j (by omega)]
                  · exact CdW.app (fun i hi => by rw [hK71 _ (by omega), hK66 _ (by omega), hF61 7 _ (by omega)]; exact hWm i hi) (CdW.app (fun i hi => by rw [hK71 _ (by omega)]; exact hW66 i hi) hW71)
                  · exact hCm.bin (hC66.up (by omega)) (by omega) (by omega)
                  · have hnx := pr_next hPm (by omega) hP66
                    first
                    | (rw [if_pos (by omega)] at hnx; exact hnx)
                    | (rw [if_neg (by omega)] at hnx; exact hnx)
                · refine wp_eq (L' := [(2, 47), (0, ((o : Nat) : Int)), (0, ((i : Nat) : Int)), (0, 20002)]) (st' := []) (g' := x66) ?_
                  refine wp_n 2 (pc' := 71) (L' := [(2, 47), (0, ((o : Nat) : Int)), (0, ((i : Nat) : Int)), (0, 20002)]) (st' := [(0, 20002), (2, 47)]) (g' := x66) rfl ?_
                  refine wp_cv (as := [(2, 47), (0, 20002)]) (rest := []) rfl rfl rfl (Nat.le_of_ble_eq_true rfl) rfl (e_putX hX66) (by omega) (fun r38 h39 => ?_)
                  obtain ⟨x71hX66, rfl, hX71, hF71⟩ := h39
                  refine wp_eq (L' := [(2, 47), (0, ((o : Nat) : Int)), (0, ((i : Nat) : Int)), (0, 20002)]) (st' := []) (g' := x71hX66) ?_
                  refine wp_n 2 (pc' := 7) (L' := [(2, 47), (0, ((o : Nat) : Int)), (0, (((i : Nat) : Int) + 1)), (0, 20002)]) (st' := []) (g' := x71hX66) rfl ?_
                  exact wx_pr hX71 (Or.inr ⟨_, _, _, rfl, (((hFm.trans hF61.d).trans hF66).trans hF71), hX71, pr_nextF hPm (by omega) hP66⟩)
    refine wp_eq (L7 (_ + 1) (0) (g2) ((9, 0)) (p2) (C2) (Nat.lt_succ_self _) ?_ ?_ ?_ ?_ ?_ ?_ ?_ ?_) (by first | rfl | (simp; done) | (simp; omega)) (by rfl) (by rfl)
    · exact hG2
    · exact hF2
    · omega
    · exact hc2
    · exact hK2
    · exact hW2
    · exact hC2.up (by omega)
    · exact pr_one hP2
  · refine wp_eq (L' := [(2, 47), (0, ((o : Nat) : Int)), (9, 0), (9, 0)]) (st' := []) (g' := x2) ?_
    refine wp_n 2 (pc' := 7) (L' := [(2, 47), (0, ((o : Nat) : Int)), (0, 0), (9, 0)]) (st' := []) (g' := x2) rfl ?_
    exact wx_pr hX2 (Or.inr ⟨_, _, _, rfl, (FrDt.rfl.trans hF2), hX2, pr_oneF hP2⟩)
set_option maxHeartbeats 400000 in
set_option maxRecDepth 20000 in
theorem e_sm_of {sn : Nat} {sx : Nat → Int} {g : am_G} {T : Nat → Int} {L t k o p F K : Nat} (hK0 : 11 ≤ K) (hG : RdG T L t k p F g) (hFp : F ≤ p) (ho : o ≤ 8) (hS : SpPr o K) : Ev sn sx (K + 1) 61 [(2, 47), (0, ((o : Nat) : Int))] (SH 7) g (RSm T L t k o p F g) := by
  have hb := hG.b
  have hl := hG.pl
  have hl3 := hG.l3
  have hvb := hG.vb
  refine ev_of (K := K) T61 (by decide) rfl rfl (Nat.le_of_ble_eq_true rfl) ?_
  refine wp_eq (L' := [(2, 47), (0, ((o : Nat) : Int)), (9, 0), (9, 0)]) (st' := []) (g' := g) ?_
  refine wp_n 2 (pc' := 2) (L' := [(2, 47), (0, ((o : Nat) : Int)), (9, 0), (9, 0)]) (st' := [(0, ((o : Nat) : Int)), (2, 47)]) (g' := g) rfl ?_
  refine wp_cv (as := [(2, 47), (0, ((o : Nat) : Int))]) (rest := []) rfl rfl rfl (Nat.le_of_ble_eq_true rfl) rfl (hS sn sx _ T L t k _ _ hG (by omega)) (by omega) (fun r1 h2 => ?_)
  rcases h2 with ⟨g2, p2, C2, rfl, hF2, hG2, hp2, hc2, hK2, hW2, hC2, hP2, hq2⟩ | ⟨x2, f2, q2, rfl, hF2, hX2, hP2⟩
  · have hb2 := hG2.b
    have hl2 := hG2.pl
    refine wp_eq (L' := [(2, 47), (0, ((o : Nat) : Int)), (9, 0), (9, 0)]) (st' := []) (g' := g2) ?_
    refine wp_n 2 (pc' := 7) (L' := [(2, 47), (0, ((o : Nat) : Int)), (0, 0), (9, 0)]) (st' := []) (g' := g2) rfl ?_
    have L7 : ∀ (lf : Nat) (i : Nat) (h : am_G) (w3 : am_V) (pm : Nat) (C : List Int), 300 - i < lf → (RdG T L t k pm (F + C.length) h) → (FrDt t g h) → (p < pm ∧ p + i < pm) → (p + C.length ≤ pm) → (CdK t F g h) → (CdW t F C h) → (CW k (27 - 3 * (o : Int)) C) → (PSm T L k o p pm C) → (tK T L pm ≠ 42 ∧ tK T L pm ≠ 47) → Wp sn sx K T61 7 [(2, 47), (0, ((o : Nat) : Int)), (0, ((i : Nat) : Int)), w3] [] (SH 7) h (RSm T L t k o p F g) := by
      intro lf
      induction lf with
      | zero => intro i h w3 pm C hlf; exact absurd hlf (Nat.not_lt_zero _)
      | succ lf ih7 =>
        intro i h w3 pm C hlf hGm hFm hpm hcm hKm hWm hCm hPm hqm
        refine wp_n 4 (pc' := 13) (L' := [(2, 47), (0, ((o : Nat) : Int)), (0, ((i : Nat) : Int)), w3]) (st' := [(0, 300), (0, ((i : Nat) : Int))]) (g' := h) rfl ?_
        refine wp_ic_ge rfl (fun c3 => ?_) (fun c3 => ?_)
        · have hz := hGm.pl
          exact wp_ret rfl rfl rfl (Or.inl ⟨_, pm, C, rfl, hFm, hGm, hpm.1, hcm, hKm, hWm, hCm, hPm, by first | (refine ⟨?_, ?_, hqm.1, hqm.2⟩ <;> omega) | (refine ⟨fun q => ?_, fun q => ?_, hqm.1, hqm.2⟩ <;> (have := hGm.lt (by omega); omega))⟩)
        · have hz := hGm.pl
          have hbm := hGm.b
          refine wp_n 2 (pc' := 20) (L' := [(2, 47), (0, ((o : Nat) : Int)), (0, ((i : Nat) : Int)), w3]) (st' := [(0, (h 47 2))]) (g' := h) rfl ?_
          refine wp_eq (L' := [(2, 47), (0, ((o : Nat) : Int)), (0, ((i : Nat) : Int)), w3]) (st' := [(0, 0)]) (g' := h) ?_ (by rfl) (by rw [hGm.f]) (by rfl)
          refine wp_n 3 (pc' := 27) (L' := [(2, 47), (0, ((o : Nat) : Int)), (0, ((i : Nat) : Int)), w3]) (st' := [(0, (h 47 9))]) (g' := h) rfl ?_
          refine wp_eq (L' := [(2, 47), (0, ((o : Nat) : Int)), (0, ((i : Nat) : Int)), w3]) (st' := [(0, (tK T L pm))]) (g' := h) ?_ (by rfl) (by rw [hGm.k]) (by rfl)
          refine wp_n 1 (pc' := 29) (L' := [(2, 47), (0, ((o : Nat) : Int)), (0, ((i : Nat) : Int)), w3]) (st' := [(0, 43), (0, (tK T L pm))]) (g' := h) rfl ?_
          refine wp_ic_eq rfl (fun c4 => ?_) (fun c4 => ?_)
          · refine wp_n 2 (pc' := 45) (L' := [(2, 47), (0, ((o : Nat) : Int)), (0, ((i : Nat) : Int)), w3]) (st' := [(0, (h 47 9))]) (g' := h) rfl ?_
            refine wp_eq (L' := [(2, 47), (0, ((o : Nat) : Int)), (0, ((i : Nat) : Int)), w3]) (st' := [(0, (tK T L pm))]) (g' := h) ?_ (by rfl) (by rw [hGm.k]) (by rfl)
            refine wp_n 1 (pc' := 47) (L' := [(2, 47), (0, ((o : Nat) : Int)), (0, ((i : Nat) : Int)), w3]) (st' := [(0, 43), (0, (tK T L pm))]) (g' := h) rfl ?_
            refine wp_ic_ne rfl (fun c5 => ?_) (fun c5 => ?_)
            · refine wp_n 3 (pc' := 61) (L' := [(2, 47), (0, ((o : Nat) : Int)), (0, ((i : Nat) : Int)), (0, 20001)]) (st' := [(2, 47)]) (g' := h) rfl ?_
              refine wp_cv (as := [(2, 47)]) (rest := []) rfl rfl rfl (Nat.le_of_ble_eq_true rfl) rfl (e_advG hGm) (by omega) (fun r6 h7 => ?_)
              obtain ⟨g61, rfl, hG61, hF61⟩ := h7
              have hb61 := hG61.b
              have hlt61 := hGm.lt (by omega)
              have hn61 := nx_in (T := T) hGm.pl
              have hl61 := hG61.pl
              refine wp_eq (L' := [(2, 47), (0, ((o : Nat) : Int)), (0, ((i : Nat) : Int)), (0, 20001)]) (st' := []) (g' := g61) ?_
              refine wp_n 2 (pc' := 66) (L' := [(2, 47), (0, ((o : Nat) : Int)), (0, ((i : Nat) : Int)), (0, 20001)]) (st' := [(0, ((o : Nat) : Int)), (2, 47)]) (g' := g61) rfl ?_
              refine wp_cv (as := [(2, 47), (0, ((o : Nat) : Int))]) (rest := []) rfl rfl rfl (Nat.le_of_ble_eq_true rfl) rfl (hS sn sx _ T L t k _ _ hG61 (by omega)) (by omega) (fun r8 h9 => ?_)
              rcases h9 with ⟨g66, p66, C66, rfl, hF66, hG66, hp66, hc66, hK66, hW66, hC66, hP66, hq66⟩ | ⟨x66, f66, q66, rfl, hF66, hX66, hP66⟩
              · have hb66 := hG66.b
                have hl66 := hG66.pl
                refine wp_eq (L' := [(2, 47), (0, ((o : Nat) : Int)), (0, ((i : Nat) : Int)), (0, 20001)]) (st' := []) (g' := g66) ?_
                refine wp_n 2 (pc' := 71) (L' := [(2, 47), (0, ((o : Nat) : Int)), (0, ((i : Nat) : Int)), (0, 20001)]) (st' := [(0, 20001), (2, 47)]) (g' := g66) rfl ?_
                refine wp_cv (as := [(2, 47), (0, 20001)]) (rest := []) rfl rfl rfl (Nat.le_of_ble_eq_true rfl) rfl (e_putG hG66 (by omega)) (by omega) (fun r10 h11 => ?_)
                obtain ⟨g71, rfl, hG71, hF71, hK71, hW71⟩ := h11
                refine wp_eq (L' := [(2, 47), (0, ((o : Nat) : Int)), (0, ((i : Nat) : Int)), (0, 20001)]) (st' := []) (g' := g71) ?_
                refine wp_n 2 (pc' := 7) (L' := [(2, 47), (0, ((o : Nat) : Int)), (0, (((i : Nat) : Int) + 1)), (0, 20001)]) (st' := []) (g' := g71) rfl ?_
                refine wp_eq (ih7 (i + 1) (g71) ((0, 20001)) (p66) (C ++ (C66 ++ [20001])) ?_ ?_ ?_ ?_ ?_ ?_ ?_ ?_ ?_ ?_) (by rfl) (by rfl) (by rfl)
                · omega
                · rw [show F + (C ++ (C66 ++ [20001]) : List Int).length = F + C.length + C66.length + 1 by simp only [List.length_append, List.length_cons, List.length_nil]; omega]; exact hG71
                · exact (((hFm.trans hF61.d).trans hF66).trans hF71)
                · omega
                · simp only [List.length_append, List.length_cons, List.length_nil]; omega
                · exact fun j hj => by rw [hK71 j (by omega), hK66 j (by omega), hF61 7 j (by omega), hKm j (by omega)]
                · exact CdW.app (fun i hi => by rw [hK71 _ (by omega), hK66 _ (by omega), hF61 7 _ (by omega)]; exact hWm i hi) (CdW.app (fun i hi => by rw [hK71 _ (by omega)]; exact hW66 i hi) hW71)
                · exact hCm.bin (hC66.up (by omega)) (by omega) (by omega)
                · have hnx := sm_next hPm (by omega) hP66
                  first
                  | (rw [if_pos (by omega)] at hnx; exact hnx)
                  | (rw [if_neg (by omega)] at hnx; exact hnx)
                · exact hq66
              · refine wp_eq (L' := [(2, 47), (0, ((o : Nat) : Int)), (0, ((i : Nat) : Int)), (0, 20001)]) (st' := []) (g' := x66) ?_
                refine wp_n 2 (pc' := 71) (L' := [(2, 47), (0, ((o : Nat) : Int)), (0, ((i : Nat) : Int)), (0, 20001)]) (st' := [(0, 20001), (2, 47)]) (g' := x66) rfl ?_
                refine wp_cv (as := [(2, 47), (0, 20001)]) (rest := []) rfl rfl rfl (Nat.le_of_ble_eq_true rfl) rfl (e_putX hX66) (by omega) (fun r12 h13 => ?_)
                obtain ⟨x71hX66, rfl, hX71, hF71⟩ := h13
                refine wp_eq (L' := [(2, 47), (0, ((o : Nat) : Int)), (0, ((i : Nat) : Int)), (0, 20001)]) (st' := []) (g' := x71hX66) ?_
                refine wp_n 2 (pc' := 7) (L' := [(2, 47), (0, ((o : Nat) : Int)), (0, (((i : Nat) : Int) + 1)), (0, 20001)]) (st' := []) (g' := x71hX66) rfl ?_
                exact wx_sm hX71 (Or.inr ⟨_, _, _, rfl, (((hFm.trans hF61.d).trans hF66).trans hF71), hX71, sm_nextF hPm (by omega) hP66⟩)
            · refine wp_n 4 (pc' := 61) (L' := [(2, 47), (0, ((o : Nat) : Int)), (0, ((i : Nat) : Int)), (0, 20000)]) (st' := [(2, 47)]) (g' := h) rfl ?_
              refine wp_cv (as := [(2, 47)]) (rest := []) rfl rfl rfl (Nat.le_of_ble_eq_true rfl) rfl (e_advG hGm) (by omega) (fun r14 h15 => ?_)
              obtain ⟨g61, rfl, hG61, hF61⟩ := h15
              have hb61 := hG61.b
              have hlt61 := hGm.lt (by omega)
              have hn61 := nx_in (T := T) hGm.pl
              have hl61 := hG61.pl
              refine wp_eq (L' := [(2, 47), (0, ((o : Nat) : Int)), (0, ((i : Nat) : Int)), (0, 20000)]) (st' := []) (g' := g61) ?_
              refine wp_n 2 (pc' := 66) (L' := [(2, 47), (0, ((o : Nat) : Int)), (0, ((i : Nat) : Int)), (0, 20000)]) (st' := [(0, ((o : Nat) : Int)), (2, 47)]) (g' := g61) rfl ?_
              refine wp_cv (as := [(2, 47), (0, ((o : Nat) : Int))]) (rest := []) rfl rfl rfl (Nat.le_of_ble_eq_true rfl) rfl (hS sn sx _ T L t k _ _ hG61 (by omega)) (by omega) (fun r16 h17 => ?_)
              rcases h17 with ⟨g66, p66, C66, rfl, hF66, hG66, hp66, hc66, hK66, hW66, hC66, hP66, hq66⟩ | ⟨x66, f66, q66, rfl, hF66, hX66, hP66⟩
              · have hb66 := hG66.b
                have hl66 := hG66.pl
                refine wp_eq (L' := [(2, 47), (0, ((o : Nat) : Int)), (0, ((i : Nat) : Int)), (0, 20000)]) (st' := []) (g' := g66) ?_
                refine wp_n 2 (pc' := 71) (L' := [(2, 47), (0, ((o : Nat) : Int)), (0, ((i : Nat) : Int)), (0, 20000)]) (st' := [(0, 20000), (2, 47)]) (g' := g66) rfl ?_
                refine wp_cv (as := [(2, 47), (0, 20000)]) (rest := []) rfl rfl rfl (Nat.le_of_ble_eq_true rfl) rfl (e_putG hG66 (by omega)) (by omega) (fun r18 h19 => ?_)
                obtain ⟨g71, rfl, hG71, hF71, hK71, hW71⟩ := h19
                refine wp_eq (L' := [(2, 47), (0, ((o : Nat) : Int)), (0, ((i : Nat) : Int)), (0, 20000)]) (st' := []) (g' := g71) ?_
                refine wp_n 2 (pc' := 7) (L' := [(2, 47), (0, ((o : Nat) : Int)), (0, (((i : Nat) : Int) + 1)), (0, 20000)]) (st' := []) (g' := g71) rfl ?_
                refine wp_eq (ih7 (i + 1) (g71) ((0, 20000)) (p66) (C ++ (C66 ++ [20000])) ?_ ?_ ?_ ?_ ?_ ?_ ?_ ?_ ?_ ?_) (by rfl) (by rfl) (by rfl)
                · omega
                · rw [show F + (C ++ (C66 ++ [20000]) : List Int).length = F + C.length + C66.length + 1 by simp only [List.length_append, List.length_cons, List.length_nil]; omega]; exact hG71
                · exact (((hFm.trans hF61.d).trans hF66).trans hF71)
                · omega
                · simp only [List.length_append, List.length_cons, List.length_nil]; omega
                · exact fun j hj => by rw [hK71 j (by omega), hK66 j (by omega), hF61 7 j (by omega), hKm j (by omega)]
                · exact CdW.app (fun i hi => by rw [hK71 _ (by omega), hK66 _ (by omega), hF61 7 _ (by omega)]; exact hWm i hi) (CdW.app (fun i hi => by rw [hK71 _ (by omega)]; exact hW66 i hi) hW71)
                · exact hCm.bin (hC66.up (by omega)) (by omega) (by omega)
                · have hnx := sm_next hPm (by omega) hP66
                  first
                  | (rw [if_pos (by omega)] at hnx; exact hnx)
                  | (rw [if_neg (by omega)] at hnx; exact hnx)
                · exact hq66
              · refine wp_eq (L' := [(2, 47), (0, ((o : Nat) : Int)), (0, ((i : Nat) : Int)), (0, 20000)]) (st' := []) (g' := x66) ?_
                refine wp_n 2 (pc' := 71) (L' := [(2, 47), (0, ((o : Nat) : Int)), (0, ((i : Nat) : Int)), (0, 20000)]) (st' := [(0, 20000), (2, 47)]) (g' := x66) rfl ?_
                refine wp_cv (as := [(2, 47), (0, 20000)]) (rest := []) rfl rfl rfl (Nat.le_of_ble_eq_true rfl) rfl (e_putX hX66) (by omega) (fun r20 h21 => ?_)
                obtain ⟨x71hX66, rfl, hX71, hF71⟩ := h21
                refine wp_eq (L' := [(2, 47), (0, ((o : Nat) : Int)), (0, ((i : Nat) : Int)), (0, 20000)]) (st' := []) (g' := x71hX66) ?_
                refine wp_n 2 (pc' := 7) (L' := [(2, 47), (0, ((o : Nat) : Int)), (0, (((i : Nat) : Int) + 1)), (0, 20000)]) (st' := []) (g' := x71hX66) rfl ?_
                exact wx_sm hX71 (Or.inr ⟨_, _, _, rfl, (((hFm.trans hF61.d).trans hF66).trans hF71), hX71, sm_nextF hPm (by omega) hP66⟩)
          · refine wp_n 2 (pc' := 36) (L' := [(2, 47), (0, ((o : Nat) : Int)), (0, ((i : Nat) : Int)), w3]) (st' := [(0, (h 47 9))]) (g' := h) rfl ?_
            refine wp_eq (L' := [(2, 47), (0, ((o : Nat) : Int)), (0, ((i : Nat) : Int)), w3]) (st' := [(0, (tK T L pm))]) (g' := h) ?_ (by rfl) (by rw [hGm.k]) (by rfl)
            refine wp_n 1 (pc' := 38) (L' := [(2, 47), (0, ((o : Nat) : Int)), (0, ((i : Nat) : Int)), w3]) (st' := [(0, 45), (0, (tK T L pm))]) (g' := h) rfl ?_
            refine wp_ic_ne rfl (fun c22 => ?_) (fun c22 => ?_)
            · exact wp_ret rfl rfl rfl (Or.inl ⟨_, pm, C, rfl, hFm, hGm, hpm.1, hcm, hKm, hWm, hCm, hPm, by first | (refine ⟨?_, ?_, hqm.1, hqm.2⟩ <;> omega) | (refine ⟨fun q => ?_, fun q => ?_, hqm.1, hqm.2⟩ <;> (have := hGm.lt (by omega); omega))⟩)
            · refine wp_n 2 (pc' := 45) (L' := [(2, 47), (0, ((o : Nat) : Int)), (0, ((i : Nat) : Int)), w3]) (st' := [(0, (h 47 9))]) (g' := h) rfl ?_
              refine wp_eq (L' := [(2, 47), (0, ((o : Nat) : Int)), (0, ((i : Nat) : Int)), w3]) (st' := [(0, (tK T L pm))]) (g' := h) ?_ (by rfl) (by rw [hGm.k]) (by rfl)
              refine wp_n 1 (pc' := 47) (L' := [(2, 47), (0, ((o : Nat) : Int)), (0, ((i : Nat) : Int)), w3]) (st' := [(0, 43), (0, (tK T L pm))]) (g' := h) rfl ?_
              refine wp_ic_ne rfl (fun c23 => ?_) (fun c23 => ?_)
              · refine wp_n 3 (pc' := 61) (L' := [(2, 47), (0, ((o : Nat) : Int)), (0, ((i : Nat) : Int)), (0, 20001)]) (st' := [(2, 47)]) (g' := h) rfl ?_
                refine wp_cv (as := [(2, 47)]) (rest := []) rfl rfl rfl (Nat.le_of_ble_eq_true rfl) rfl (e_advG hGm) (by omega) (fun r24 h25 => ?_)
                obtain ⟨g61, rfl, hG61, hF61⟩ := h25
                have hb61 := hG61.b
                have hlt61 := hGm.lt (by omega)
                have hn61 := nx_in (T := T) hGm.pl
                have hl61 := hG61.pl
                refine wp_eq (L' := [(2, 47), (0, ((o : Nat) : Int)), (0, ((i : Nat) : Int)), (0, 20001)]) (st' := []) (g' := g61) ?_
                refine wp_n 2 (pc' := 66) (L' := [(2, 47), (0, ((o : Nat) : Int)), (0, ((i : Nat) : Int)), (0, 20001)]) (st' := [(0, ((o : Nat) : Int)), (2, 47)]) (g' := g61) rfl ?_
                refine wp_cv (as := [(2, 47), (0, ((o : Nat) : Int))]) (rest := []) rfl rfl rfl (Nat.le_of_ble_eq_true rfl) rfl (hS sn sx _ T L t k _ _ hG61 (by omega)) (by omega) (fun r26 h27 => ?_)
                rcases h27 with ⟨g66, p66, C66, rfl, hF66, hG66, hp66, hc66, hK66, hW66, hC66, hP66, hq66⟩ | ⟨x66, f66, q66, rfl, hF66, hX66, hP66⟩
                · have hb66 := hG66.b
                  have hl66 := hG66.pl
                  refine wp_eq (L' := [(2, 47), (0, ((o : Nat) : Int)), (0, ((i : Nat) : Int)), (0, 20001)]) (st' := []) (g' := g66) ?_
                  refine wp_n 2 (pc' := 71) (L' := [(2, 47), (0, ((o : Nat) : Int)), (0, ((i : Nat) : Int)), (0, 20001)]) (st' := [(0, 20001), (2, 47)]) (g' := g66) rfl ?_
                  refine wp_cv (as := [(2, 47), (0, 20001)]) (rest := []) rfl rfl rfl (Nat.le_of_ble_eq_true rfl) rfl (e_putG hG66 (by omega)) (by omega) (fun r28 h29 => ?_)
                  obtain ⟨g71, rfl, hG71, hF71, hK71, hW71⟩ := h29
                  refine wp_eq (L' := [(2, 47), (0, ((o : Nat) : Int)), (0, ((i : Nat) : Int)), (0, 20001)]) (st' := []) (g' := g71) ?_
                  refine wp_n 2 (pc' := 7) (L' := [(2, 47), (0, ((o : Nat) : Int)), (0, (((i : Nat) : Int) + 1)), (0, 20001)]) (st' := []) (g' := g71) rfl ?_
                  refine wp_eq (ih7 (i + 1) (g71) ((0, 20001)) (p66) (C ++ (C66 ++ [20001])) ?_ ?_ ?_ ?_ ?_ ?_ ?_ ?_ ?_ ?_) (by rfl) (by rfl) (by rfl)
                  · omega
                  · rw [show F + (C ++ (C66 ++ [20001]) : List Int).length = F + C.length + C66.length + 1 by simp only [List.length_append, List.length_cons, List.length_nil]; omega]; exact hG71
                  · exact (((hFm.trans hF61.d).trans hF66).trans hF71)
                  · omega
                  · simp only [List.length_append, List.length_cons, List.length_nil]; omega
                  · exact fun j hj => by rw [hK71 j (by omega), hK66 j (by omega), hF61 7 j (by omega), hKm j (by omega)]
                  · exact CdW.app (fun i hi => by rw [hK71 _ (by omega), hK66 _ (by omega), hF61 7 _ (by omega)]; exact hWm i hi) (CdW.app (fun i hi => by rw [hK71 _ (by omega)]; exact hW66 i hi) hW71)
                  · exact hCm.bin (hC66.up (by omega)) (by omega) (by omega)
                  · have hnx := sm_next hPm (by omega) hP66
                    first
                    | (rw [if_pos (by omega)] at hnx; exact hnx)
                    | (rw [if_neg (by omega)] at hnx; exact hnx)
                  · exact hq66
                · refine wp_eq (L' := [(2, 47), (0, ((o : Nat) : Int)), (0, ((i : Nat) : Int)), (0, 20001)]) (st' := []) (g' := x66) ?_
                  refine wp_n 2 (pc' := 71) (L' := [(2, 47), (0, ((o : Nat) : Int)), (0, ((i : Nat) : Int)), (0, 20001)]) (st' := [(0, 20001), (2, 47)]) (g' := x66) rfl ?_
                  refine wp_cv (as := [(2, 47), (0, 20001)]) (rest := []) rfl rfl rfl (Nat.le_of_ble_eq_true rfl) rfl (e_putX hX66) (by omega) (fun r30 h31 => ?_)
                  obtain ⟨x71hX66, rfl, hX71, hF71⟩ := h31
                  refine wp_eq (L' := [(2, 47), (0, ((o : Nat) : Int)), (0, ((i : Nat) : Int)), (0, 20001)]) (st' := []) (g' := x71hX66) ?_
                  refine wp_n 2 (pc' := 7) (L' := [(2, 47), (0, ((o : Nat) : Int)), (0, (((i : Nat) : Int) + 1)), (0, 20001)]) (st' := []) (g' := x71hX66) rfl ?_
                  exact wx_sm hX71 (Or.inr ⟨_, _, _, rfl, (((hFm.trans hF61.d).trans hF66).trans hF71), hX71, sm_nextF hPm (by omega) hP66⟩)
              · refine wp_n 4 (pc' := 61) (L' := [(2, 47), (0, ((o : Nat) : Int)), (0, ((i : Nat) : Int)), (0, 20000)]) (st' := [(2, 47)]) (g' := h) rfl ?_
                refine wp_cv (as := [(2, 47)]) (rest := []) rfl rfl rfl (Nat.le_of_ble_eq_true rfl) rfl (e_advG hGm) (by omega) (fun r32 h33 => ?_)
                obtain ⟨g61, rfl, hG61, hF61⟩ := h33
                have hb61 := hG61.b
                have hlt61 := hGm.lt (by omega)
                have hn61 := nx_in (T := T) hGm.pl
                have hl61 := hG61.pl
                refine wp_eq (L' := [(2, 47), (0, ((o : Nat) : Int)), (0, ((i : Nat) : Int)), (0, 20000)]) (st' := []) (g' := g61) ?_
                refine wp_n 2 (pc' := 66) (L' := [(2, 47), (0, ((o : Nat) : Int)), (0, ((i : Nat) : Int)), (0, 20000)]) (st' := [(0, ((o : Nat) : Int)), (2, 47)]) (g' := g61) rfl ?_
                refine wp_cv (as := [(2, 47), (0, ((o : Nat) : Int))]) (rest := []) rfl rfl rfl (Nat.le_of_ble_eq_true rfl) rfl (hS sn sx _ T L t k _ _ hG61 (by omega)) (by omega) (fun r34 h35 => ?_)
                rcases h35 with ⟨g66, p66, C66, rfl, hF66, hG66, hp66, hc66, hK66, hW66, hC66, hP66, hq66⟩ | ⟨x66, f66, q66, rfl, hF66, hX66, hP66⟩
                · have hb66 := hG66.b
                  have hl66 := hG66.pl
                  refine wp_eq (L' := [(2, 47), (0, ((o : Nat) : Int)), (0, ((i : Nat) : Int)), (0, 20000)]) (st' := []) (g' := g66) ?_
                  refine wp_n 2 (pc' := 71) (L' := [(2, 47), (0, ((o : Nat) : Int)), (0, ((i : Nat) : Int)), (0, 20000)]) (st' := [(0, 20000), (2, 47)]) (g' := g66) rfl ?_
                  refine wp_cv (as := [(2, 47), (0, 20000)]) (rest := []) rfl rfl rfl (Nat.le_of_ble_eq_true rfl) rfl (e_putG hG66 (by omega)) (by omega) (fun r36 h37 => ?_)
                  obtain ⟨g71, rfl, hG71, hF71, hK71, hW71⟩ := h37
                  refine wp_eq (L' := [(2, 47), (0, ((o : Nat) : Int)), (0, ((i : Nat) : Int)), (0, 20000)]) (st' := []) (g' := g71) ?_
                  refine wp_n 2 (pc' := 7) (L' := [(2, 47), (0, ((o : Nat) : Int)), (0, (((i : Nat) : Int) + 1)), (0, 20000)]) (st' := []) (g' := g71) rfl ?_
                  refine wp_eq (ih7 (i + 1) (g71) ((0, 20000)) (p66) (C ++ (C66 ++ [20000])) ?_ ?_ ?_ ?_ ?_ ?_ ?_ ?_ ?_ ?_) (by rfl) (by rfl) (by rfl)
                  · omega
                  · rw [show F + (C ++ (C66 ++ [20000]) : List Int).length = F + C.length + C66.length + 1 by simp only [List.length_append, List.length_cons, List.length_nil]; omega]; exact hG71
                  · exact (((hFm.trans hF61.d).trans hF66).trans hF71)
                  · omega
                  · simp only [List.length_append, List.length_cons, List.length_nil]; omega
                  · exact fun j hj => by rw [hK71 j (by omega), hK66 j (by omega), hF61 7 j (by omega), hKm j (by omega)]
                  · exact CdW.app (fun i hi => by rw [hK71 _ (by omega), hK66 _ (by omega), hF61 7 _ (by omega)]; exact hWm i hi) (CdW.app (fun i hi => by rw [hK71 _ (by omega)]; exact hW66 i hi) hW71)
                  · exact hCm.bin (hC66.up (by omega)) (by omega) (by omega)
                  · have hnx := sm_next hPm (by omega) hP66
                    first
                    | (rw [if_pos (by omega)] at hnx; exact hnx)
                    | (rw [if_neg (by omega)] at hnx; exact hnx)
                  · exact hq66
                · refine wp_eq (L' := [(2, 47), (0, ((o : Nat) : Int)), (0, ((i : Nat) : Int)), (0, 20000)]) (st' := []) (g' := x66) ?_
                  refine wp_n 2 (pc' := 71) (L' := [(2, 47), (0, ((o : Nat) : Int)), (0, ((i : Nat) : Int)), (0, 20000)]) (st' := [(0, 20000), (2, 47)]) (g' := x66) rfl ?_
                  refine wp_cv (as := [(2, 47), (0, 20000)]) (rest := []) rfl rfl rfl (Nat.le_of_ble_eq_true rfl) rfl (e_putX hX66) (by omega) (fun r38 h39 => ?_)
                  obtain ⟨x71hX66, rfl, hX71, hF71⟩ := h39
                  refine wp_eq (L' := [(2, 47), (0, ((o : Nat) : Int)), (0, ((i : Nat) : Int)), (0, 20000)]) (st' := []) (g' := x71hX66) ?_
                  refine wp_n 2 (pc' := 7) (L' := [(2, 47), (0, ((o : Nat) : Int)), (0, (((i : Nat) : Int) + 1)), (0, 20000)]) (st' := []) (g' := x71hX66) rfl ?_
                  exact wx_sm hX71 (Or.inr ⟨_, _, _, rfl, (((hFm.trans hF61.d).trans hF66).trans hF71), hX71, sm_nextF hPm (by omega) hP66⟩)
    refine wp_eq (L7 (_ + 1) (0) (g2) ((9, 0)) (p2) (C2) (Nat.lt_succ_self _) ?_ ?_ ?_ ?_ ?_ ?_ ?_ ?_ ?_) (by first | rfl | (simp; done) | (simp; omega)) (by rfl) (by rfl)
    · exact hG2
    · exact hF2
    · omega
    · exact hc2
    · exact hK2
    · exact hW2
    · exact hC2.up (by omega)
    · exact sm_pr hP2
    · exact hq2
  · refine wp_eq (L' := [(2, 47), (0, ((o : Nat) : Int)), (9, 0), (9, 0)]) (st' := []) (g' := x2) ?_
    refine wp_n 2 (pc' := 7) (L' := [(2, 47), (0, ((o : Nat) : Int)), (0, 0), (9, 0)]) (st' := []) (g' := x2) rfl ?_
    exact wx_sm hX2 (Or.inr ⟨_, _, _, rfl, (FrDt.rfl.trans hF2), hX2, sm_prF hP2⟩)
theorem sp_of {o K : Nat} (hK0 : 11 ≤ K) (ho : o ≤ 8) (hI : o < 8 → SpSm (o + 1) K) (hJ : o < 8 → SpOne (o + 1) K) : SpOne o (K + 5) ∧ SpSm o (K + 7) := by
  have h1 : SpOne o (K + 5) := fun sn sx g T L t k p F hG hF => e_one_of hK0 hG hF ho hI hJ
  have h2 : SpPr o (K + 6) := fun sn sx g T L t k p F hG hF => e_pr_of (by omega) hG hF ho h1
  exact ⟨h1, fun sn sx g T L t k p F hG hF => e_sm_of (by omega) hG hF ho h2⟩
theorem SpOne.up {o K K' : Nat} (h : SpOne o K) (hK : K ≤ K') : SpOne o K' := fun sn sx g T L t k p F hG hF => (h sn sx g T L t k p F hG hF).up hK
theorem sp_all : ∀ d : Nat, d ≤ 8 → SpOne (8 - d) (16 + 7 * d) ∧ SpSm (8 - d) (18 + 7 * d) := by
  intro d
  induction d with
  | zero => intro _; exact sp_of (K := 11) (by decide) (by decide) (fun q => absurd q (by decide)) (fun q => absurd q (by decide))
  | succ d ih =>
    intro hd
    have h := ih (by omega)
    have e : 8 - (d + 1) + 1 = 8 - d := by omega
    have h2 := sp_of (o := 8 - (d + 1)) (K := 18 + 7 * d) (by omega) (by omega) (fun _ => by rw [e]; exact h.2) (fun _ => by rw [e]; exact h.1.up (by omega))
    exact ⟨h2.1.up (by omega), h2.2⟩
theorem sp_sum : SpSm 0 74 := (sp_all 8 (by decide)).2
