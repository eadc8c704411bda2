/-! PUBLIC METHODS: law, scratch, start, seen, end, fault, about -/
theorem MRel.up_len {c g : am_G} {x : Int} (h : MRel c g) : MRel (am_up c 47 1 x) (am_up g 127 5 x) := by
  obtain ⟨h1, h2, h3, h4, h5, h6, h7, h8⟩ := h
  refine ⟨(h1.c_same fun k j a b => up_ne (by omega)).g_same fun j => up_ne (by decide), (h2.c_same fun k j a b => up_ne (by omega)).g_same fun j => up_ne (by decide), ?_, ?_, ?_, ?_, fun j hj => ?_, (h8.c_same fun k j a b => up_ne (by omega)).g_same fun j => up_ne (by decide)⟩
  · rw [up_nj (by decide), up_ne (by decide)]; exact h3
  · rw [up_eq, up_eq]
  · rw [up_nj (by decide), up_nj (by decide)]; exact h5
  · rw [up_nj (by decide), up_nj (by decide)]; exact h6
  · rw [up_ne (by decide), up_ne (by decide)]; exact h7 j hj
theorem TxW.law_up {g : am_G} {t : Int} (h : TxW 0 g) (h1 : -1 ≤ t) (h2 : t < g 6 3) : TxW 0 (am_up g 6 4 t) := by
  refine ⟨?_, ?_, fun a b ha hb => ?_⟩
  · show 0 ≤ am_up g 6 4 t 6 3 ∧ am_up g 6 4 t 6 3 ≤ 6
    rw [up_nj (by decide)]; exact h.1
  · show -1 ≤ am_up g 6 4 t 6 4 ∧ am_up g 6 4 t 6 4 < am_up g 6 4 t 6 3
    rw [up_eq, up_nj (show (3 : Nat) ≠ 4 by decide)]; exact ⟨h1, h2⟩
  · have h7 : am_up g 6 4 t (7 + 0) = g (7 + 0) := funext fun b => up_ne (by decide)
    have h8 : am_up g 6 4 t (8 + 0) = g (8 + 0) := funext fun b => up_ne (by decide)
    have h9 : am_up g 6 4 t (9 + 0) = g (9 + 0) := funext fun b => up_ne (by decide)
    unfold TxC
    rw [h7, h8, h9]
    refine h.2.2 a b ?_ hb
    have : am_up g 6 4 t (6 + 0) 3 = g (6 + 0) 3 := up_nj (by decide)
    rw [this] at ha
    exact ha
theorem TxI.law_up {g : am_G} {t : Int} (h : TxI g) : TxI (am_up g 6 4 t) := by
  have e (c : Nat) (hc : c ≠ 6) : am_up g 6 4 t c = g c := funext fun b => up_ne hc
  unfold TxI
  rw [e 7 (by decide), e 8 (by decide), e 9 (by decide), e 29 (by decide), e 30 (by decide), e 31 (by decide), e 32 (by decide), up_nj (show (3 : Nat) ≠ 4 by decide)]
  exact h
set_option maxHeartbeats 400000 in
set_option maxRecDepth 20000 in
theorem e_law {sn : Nat} {sx : Nat → Int} {b : Nat} {g : am_G} {P : Nat} {t : Int} (h_t : R32 t) (hI : CInv P g) : Ev sn sx 2 105 [(2, 0), (0, t)] (SH b) g (fun yy => Two b yy (-1 ≤ t ∧ t < g 6 3) 1 (am_up g 6 4 t) (0) g) := by
  have hP := hI.ck.2.1
  have h5 := hI.ck.1
  have hc := hI.tx.n0
  refine ev_of (K := 1) T105 (by decide) rfl rfl (Nat.le_of_ble_eq_true rfl) ?_
  refine wp_eq (L' := [(2, 0), (0, t)]) (st' := []) (g' := g) ?_
  refine wp_n 7 (pc' := 11) (L' := [(2, 0), (0, t)]) (st' := [(0, ((g 6 3) - 1)), (0, (-1)), (0, t)]) (g' := g) rfl ?_
  refine wp_cs (as := [(0, t), (0, (-1)), (0, ((g 6 3) - 1))]) (rest := []) rfl (by decide) rfl (Nat.le_of_ble_eq_true rfl) (e_within (by omega) (by omega) (by omega)) (by decide) (fun r2 h3 => ?_)
  rcases h3 with ⟨rfl, p1⟩ | ⟨rfl, p1⟩
  · refine wp_eq (L' := [(2, 0), (0, t)]) (st' := [(0, 1)]) (g' := g) ?_
    refine wp_n 6 (pc' := 28) (L' := [(2, 0), (0, t)]) (st' := [(0, 1)]) (g' := (am_up g 6 4 t)) rfl ?_
    exact wp_ret rfl rfl rfl (Or.inl ⟨by omega, rfl⟩)
  · refine wp_eq (L' := [(2, 0), (0, t)]) (st' := [(0, 0)]) (g' := g) ?_
    refine wp_n 2 (pc' := 18) (L' := [(2, 0), (0, t)]) (st' := [(0, 0)]) (g' := g) rfl ?_
    exact wp_ret rfl rfl rfl (Or.inr ⟨by omega, rfl⟩)
set_option maxHeartbeats 400000 in
set_option maxRecDepth 20000 in
theorem m_law {sn : Nat} {sx : Nat → Int} {b : Nat} {g : am_G} {c : am_G} {P : Nat} {t : Int} (h_t : R32 t) (hI : CInv P c) (hM : MRel c g) : Ev sn sx 2 188 [(2, 127), (0, t)] (SH b) g (fun yy => Two b yy (-1 ≤ t ∧ t < c 6 3) 1 (am_up g 128 1 t) (0) g) := by
  have h5 := hI.ck.1
  have hP : g 127 0 = (P : Int) := hM.n.trans hI.ck.2.1
  have hc := hI.tx.n0
  refine ev_of (K := 1) T188 (by decide) rfl rfl (Nat.le_of_ble_eq_true rfl) ?_
  refine wp_eq (L' := [(2, 127), (0, t)]) (st' := []) (g' := g) ?_
  refine wp_n 5 (pc' := 7) (L' := [(2, 127), (0, t)]) (st' := [(0, 0), (2, 128), (0, (-1)), (0, t)]) (g' := g) rfl ?_
  refine wp_iald (k := 128) (0) rfl rfl (by omega) (by omega) (by decide) ?_
  refine wp_eq (L' := [(2, 127), (0, t)]) (st' := [(0, (c 6 3)), (0, (-1)), (0, t)]) (g' := g) ?_ (by rfl) (by (repeat rw [up_no (by omega)]); rw [hM.texts]) (by rfl)
  refine wp_n 2 (pc' := 10) (L' := [(2, 127), (0, t)]) (st' := [(0, ((c 6 3) - 1)), (0, (-1)), (0, t)]) (g' := g) rfl ?_
  refine wp_cs (as := [(0, t), (0, (-1)), (0, ((c 6 3) - 1))]) (rest := []) rfl (by decide) rfl (Nat.le_of_ble_eq_true rfl) (e_isIn (by omega) (by omega) (by omega)) (by decide) (fun r2 h3 => ?_)
  rcases h3 with ⟨rfl, p1⟩ | ⟨rfl, p1⟩
  · refine wp_eq (L' := [(2, 127), (0, t)]) (st' := [(0, 1)]) (g' := g) ?_
    refine wp_n 5 (pc' := 24) (L' := [(2, 127), (0, t)]) (st' := [(0, t), (0, 1), (2, 128)]) (g' := g) rfl ?_
    refine wp_iast (k := 128) (1) rfl rfl (by omega) (by omega) (by decide) ?_
    refine wp_n 1 (pc' := 26) (L' := [(2, 127), (0, t)]) (st' := [(0, 1)]) (g' := (am_up g 128 1 t)) rfl ?_
    exact wp_ret rfl rfl rfl (Or.inl ⟨by omega, rfl⟩)
  · refine wp_eq (L' := [(2, 127), (0, t)]) (st' := [(0, 0)]) (g' := g) ?_
    refine wp_n 2 (pc' := 17) (L' := [(2, 127), (0, t)]) (st' := [(0, 0)]) (g' := g) rfl ?_
    exact wp_ret rfl rfl rfl (Or.inr ⟨by omega, rfl⟩)
def F_law (P : Nat) (t : Int) (c c1 : am_G) (v1 : Int) : Prop := ((-1 ≤ t ∧ t < c 6 3) ∧ v1 = 1 ∧ c1 = (am_up c 6 4 t)) ∨ (¬ (-1 ≤ t ∧ t < c 6 3) ∧ v1 = 0 ∧ c1 = c)
set_option maxRecDepth 20000 in
theorem C_law {sn : Nat} {sx : Nat → Int} {b : Nat} {g : am_G} {P : Nat} {t : Int} (h_t : R32 t) (hI : CInv P g) : Ev sn sx 2 105 [(2, 0), (0, t)] (SH b) g (CPost P g (F_law P t g)) := (e_law h_t hI).mono fun r h => by
  rcases h with ⟨hD, rfl⟩ | ⟨hD, rfl⟩
  · have h5 := hI.ck.1
    have hc := hI.tx.n0
    refine ⟨_, _, b, rfl, ⟨hI.ck.same fun c j q => by (repeat rw [up_no (by omega)]), (hI.rg.up (by unfold Rg; omega) (by omega)), hI.rgi.same fun c j q1 q2 => by (repeat rw [up_no (by omega)]), hI.e24.same fun c j q => by (repeat rw [up_no (by omega)]), hI.e24i.same fun c j q => by (repeat rw [up_no (by omega)]), hI.tx.law_up (by omega) (by omega), hI.txi.same fun c j q1 q2 => by (repeat rw [up_no (by omega)]), hI.ti.law_up, hI.tap.same fun c j q => by (repeat rw [up_no (by omega)]), hI.cls.same fun c j q1 q2 => by (repeat rw [up_no (by omega)]), hI.wls.same fun c j q1 q2 => by (repeat rw [up_no (by omega)]), hI.caw.same fun c j q => by (repeat rw [up_no (by omega)]), hI.cal.same fun c j q => by (repeat rw [up_no (by omega)])⟩, fun c j q => by (repeat rw [up_no (by omega)]), Or.inl ⟨hD, rfl, rfl⟩⟩
  · exact ⟨_, _, b, rfl, hI, fun _ _ _ => rfl, Or.inr ⟨hD, rfl, rfl⟩⟩
set_option maxRecDepth 20000 in
theorem M_law {sn : Nat} {sx : Nat → Int} {b : Nat} {g c : am_G} {P : Nat} {t : Int} (h_t : R32 t) (hI : CInv P c) (hM : MRel c g) : Ev sn sx 2 188 [(2, 127), (0, t)] (SH b) g (MPost b g (F_law P t c)) := (m_law h_t hI hM).mono fun r h => by
  rcases h with ⟨hD, rfl⟩ | ⟨hD, rfl⟩
  · refine ⟨_, _, rfl, fun k j q => by (repeat rw [up_no (by omega)]), fun c1 v1 hE => ?_⟩
    rcases hE with ⟨-, rfl, rfl⟩ | ⟨hn, -, -⟩
    · have h5 := hI.ck.1
      have hc := hI.tx.n0
      exact ⟨rfl, (hM.up (i := 1) (k := 6) (j := 4) ((cp_i1 _ (by omega) (by omega)).trans (by omega)) ((cj_i1 _ (by omega) (by omega)).trans (by omega)) (by omega) (by omega) (by omega))⟩
    · exact absurd hD hn
  · refine ⟨_, _, rfl, fun k j q => rfl, fun c1 v1 hE => ?_⟩
    rcases hE with ⟨hn, -, -⟩ | ⟨-, rfl, rfl⟩
    · exact absurd hn hD
    · exact ⟨rfl, hM⟩
set_option maxHeartbeats 400000 in
set_option maxRecDepth 20000 in
theorem e_scratch {sn : Nat} {sx : Nat → Int} {b : Nat} {g : am_G} {P : Nat} {e t w : Int} (h_e : R32 e) (h_t : R32 t) (h_w : R32 w) (hI : CInv P g) : Ev sn sx 3 111 [(2, 0), (0, e), (0, t), (0, w)] (SH b) g (fun yy => Two b yy (0 ≤ e ∧ e ≤ 3 ∧ 0 ≤ t ∧ t ≤ 2 ∧ -1 ≤ w ∧ w ≤ 3) 1 (am_up (am_up g 15 (3 * e.toNat + t.toNat) w) 56 2 0) (0) g) := by
  have hP := hI.ck.2.1
  have h5 := hI.ck.1
  refine ev_of (K := 2) T111 (by decide) rfl rfl (Nat.le_of_ble_eq_true rfl) ?_
  refine wp_eq (L' := [(2, 0), (0, e), (0, t), (0, w)]) (st' := []) (g' := g) ?_
  refine wp_n 2 (pc' := 2) (L' := [(2, 0), (0, e), (0, t), (0, w)]) (st' := [(0, t), (0, e)]) (g' := g) rfl ?_
  refine wp_cs (as := [(0, e), (0, t)]) (rest := []) rfl (by decide) rfl (Nat.le_of_ble_eq_true rfl) (e_isTable (by omega) (by omega)) (by decide) (fun r2 h3 => ?_)
  rcases h3 with ⟨rfl, p1⟩ | ⟨rfl, p1⟩
  · refine wp_eq (L' := [(2, 0), (0, e), (0, t), (0, w)]) (st' := [(0, 1)]) (g' := g) ?_
    refine wp_n 4 (pc' := 11) (L' := [(2, 0), (0, e), (0, t), (0, w)]) (st' := [(0, 3), (0, (-1)), (0, w)]) (g' := g) rfl ?_
    refine wp_cs (as := [(0, w), (0, (-1)), (0, 3)]) (rest := []) rfl (by decide) rfl (Nat.le_of_ble_eq_true rfl) (e_within (by omega) (by omega) (by omega)) (by decide) (fun r5 h6 => ?_)
    rcases h6 with ⟨rfl, p4⟩ | ⟨rfl, p4⟩
    · refine wp_eq (L' := [(2, 0), (0, e), (0, t), (0, w)]) (st' := [(0, 1)]) (g' := g) ?_
      refine wp_n 10 (pc' := 32) (L' := [(2, 0), (0, e), (0, t), (0, w)]) (st' := [(0, w), (0, ((e * 3) + t)), (2, 15)]) (g' := g) rfl ?_
      refine wp_iast (k := 15) ((3 * e.toNat + t.toNat)) rfl rfl (by omega) (by omega) (by decide) ?_
      refine wp_n 2 (pc' := 37) (L' := [(2, 0), (0, e), (0, t), (0, w)]) (st' := [(2, 56)]) (g' := (am_up g 15 ((3 * e.toNat + t.toNat)) w)) rfl ?_
      refine wp_cv (as := [(2, 56)]) (rest := []) rfl rfl rfl (Nat.le_of_ble_eq_true rfl) rfl (e_forget) (by decide) (fun r7 h8 => ?_)
      obtain rfl := h8
      refine wp_eq (L' := [(2, 0), (0, e), (0, t), (0, w)]) (st' := []) (g' := (am_up (am_up g 15 ((3 * e.toNat + t.toNat)) w) 56 2 0)) ?_
      refine wp_n 1 (pc' := 41) (L' := [(2, 0), (0, e), (0, t), (0, w)]) (st' := [(0, 1)]) (g' := (am_up (am_up g 15 ((3 * e.toNat + t.toNat)) w) 56 2 0)) rfl ?_
      exact wp_ret rfl rfl rfl (Or.inl ⟨by omega, rfl⟩)
    · refine wp_eq (L' := [(2, 0), (0, e), (0, t), (0, w)]) (st' := [(0, 0)]) (g' := g) ?_
      refine wp_n 2 (pc' := 18) (L' := [(2, 0), (0, e), (0, t), (0, w)]) (st' := [(0, 0)]) (g' := g) rfl ?_
      exact wp_ret rfl rfl rfl (Or.inr ⟨by omega, rfl⟩)
  · refine wp_eq (L' := [(2, 0), (0, e), (0, t), (0, w)]) (st' := [(0, 0)]) (g' := g) ?_
    refine wp_n 2 (pc' := 18) (L' := [(2, 0), (0, e), (0, t), (0, w)]) (st' := [(0, 0)]) (g' := g) rfl ?_
    exact wp_ret rfl rfl rfl (Or.inr ⟨by omega, rfl⟩)
set_option maxHeartbeats 400000 in
set_option maxRecDepth 20000 in
theorem m_scratch {sn : Nat} {sx : Nat → Int} {b : Nat} {g : am_G} {c : am_G} {P : Nat} {e t w : Int} (h_e : R32 e) (h_t : R32 t) (h_w : R32 w) (hI : CInv P c) (hM : MRel c g) : Ev sn sx 3 226 [(2, 127), (0, e), (0, t), (0, w)] (SH b) g (fun yy => Two b yy (0 ≤ e ∧ e ≤ 3 ∧ 0 ≤ t ∧ t ≤ 2 ∧ -1 ≤ w ∧ w ≤ 3) 1 (am_up g 128 (1380 + (3 * e.toNat + t.toNat)) w) (0) g) := by
  have h5 := hI.ck.1
  have hP : g 127 0 = (P : Int) := hM.n.trans hI.ck.2.1
  refine ev_of (K := 2) T226 (by decide) rfl rfl (Nat.le_of_ble_eq_true rfl) ?_
  refine wp_eq (L' := [(2, 127), (0, e), (0, t), (0, w)]) (st' := []) (g' := g) ?_
  refine wp_n 3 (pc' := 3) (L' := [(2, 127), (0, e), (0, t), (0, w)]) (st' := [(0, 3), (0, 0), (0, e)]) (g' := g) rfl ?_
  refine wp_cs (as := [(0, e), (0, 0), (0, 3)]) (rest := []) rfl (by decide) rfl (Nat.le_of_ble_eq_true rfl) (e_isIn (by omega) (by omega) (by omega)) (by decide) (fun r2 h3 => ?_)
  rcases h3 with ⟨rfl, p1⟩ | ⟨rfl, p1⟩
  · refine wp_eq (L' := [(2, 127), (0, e), (0, t), (0, w)]) (st' := [(0, 1)]) (g' := g) ?_
    refine wp_n 4 (pc' := 12) (L' := [(2, 127), (0, e), (0, t), (0, w)]) (st' := [(0, 2), (0, 0), (0, t)]) (g' := g) rfl ?_
    refine wp_cs (as := [(0, t), (0, 0), (0, 2)]) (rest := []) rfl (by decide) rfl (Nat.le_of_ble_eq_true rfl) (e_isIn (by omega) (by omega) (by omega)) (by decide) (fun r5 h6 => ?_)
    rcases h6 with ⟨rfl, p4⟩ | ⟨rfl, p4⟩
    · refine wp_eq (L' := [(2, 127), (0, e), (0, t), (0, w)]) (st' := [(0, 1)]) (g' := g) ?_
      refine wp_n 3 (pc' := 20) (L' := [(2, 127), (0, e), (0, t), (0, w)]) (st' := [(0, (-1)), (0, w)]) (g' := g) rfl ?_
      refine wp_ic_eq rfl (fun c7 => ?_) (fun c7 => ?_)
      · refine wp_n 10 (pc' := 46) (L' := [(2, 127), (0, e), (0, t), (0, w)]) (st' := [(0, w), (0, ((1380 + (3 * e)) + t)), (2, 128)]) (g' := g) rfl ?_
        refine wp_iast (k := 128) ((1380 + (3 * e.toNat + t.toNat))) rfl rfl (by omega) (by omega) (by decide) ?_
        refine wp_n 1 (pc' := 48) (L' := [(2, 127), (0, e), (0, t), (0, w)]) (st' := [(0, 1)]) (g' := (am_up g 128 ((1380 + (3 * e.toNat + t.toNat))) w)) rfl ?_
        exact wp_ret rfl rfl rfl (Or.inl ⟨by omega, rfl⟩)
      · refine wp_n 1 (pc' := 24) (L' := [(2, 127), (0, e), (0, t), (0, w)]) (st' := [(0, w)]) (g' := g) rfl ?_
        refine wp_cs (as := [(0, w)]) (rest := []) rfl (by decide) rfl (Nat.le_of_ble_eq_true rfl) (e_MisWheel (by omega)) (by decide) (fun r9 h10 => ?_)
        rcases h10 with ⟨rfl, p8⟩ | ⟨rfl, p8⟩
        · refine wp_eq (L' := [(2, 127), (0, e), (0, t), (0, w)]) (st' := [(0, 1)]) (g' := g) ?_
          refine wp_n 11 (pc' := 46) (L' := [(2, 127), (0, e), (0, t), (0, w)]) (st' := [(0, w), (0, ((1380 + (3 * e)) + t)), (2, 128)]) (g' := g) rfl ?_
          refine wp_iast (k := 128) ((1380 + (3 * e.toNat + t.toNat))) rfl rfl (by omega) (by omega) (by decide) ?_
          refine wp_n 1 (pc' := 48) (L' := [(2, 127), (0, e), (0, t), (0, w)]) (st' := [(0, 1)]) (g' := (am_up g 128 ((1380 + (3 * e.toNat + t.toNat))) w)) rfl ?_
          exact wp_ret rfl rfl rfl (Or.inl ⟨by omega, rfl⟩)
        · refine wp_eq (L' := [(2, 127), (0, e), (0, t), (0, w)]) (st' := [(0, 0)]) (g' := g) ?_
          refine wp_n 2 (pc' := 31) (L' := [(2, 127), (0, e), (0, t), (0, w)]) (st' := [(0, 0)]) (g' := g) rfl ?_
          exact wp_ret rfl rfl rfl (Or.inr ⟨by omega, rfl⟩)
    · refine wp_eq (L' := [(2, 127), (0, e), (0, t), (0, w)]) (st' := [(0, 0)]) (g' := g) ?_
      refine wp_n 2 (pc' := 31) (L' := [(2, 127), (0, e), (0, t), (0, w)]) (st' := [(0, 0)]) (g' := g) rfl ?_
      exact wp_ret rfl rfl rfl (Or.inr ⟨by omega, rfl⟩)
  · refine wp_eq (L' := [(2, 127), (0, e), (0, t), (0, w)]) (st' := [(0, 0)]) (g' := g) ?_
    refine wp_n 2 (pc' := 31) (L' := [(2, 127), (0, e), (0, t), (0, w)]) (st' := [(0, 0)]) (g' := g) rfl ?_
    exact wp_ret rfl rfl rfl (Or.inr ⟨by omega, rfl⟩)
def F_scratch (P : Nat) (e t w : Int) (c c1 : am_G) (v1 : Int) : Prop := ((0 ≤ e ∧ e ≤ 3 ∧ 0 ≤ t ∧ t ≤ 2 ∧ -1 ≤ w ∧ w ≤ 3) ∧ v1 = 1 ∧ c1 = (am_up (am_up c 15 (3 * e.toNat + t.toNat) w) 56 2 0)) ∨ (¬ (0 ≤ e ∧ e ≤ 3 ∧ 0 ≤ t ∧ t ≤ 2 ∧ -1 ≤ w ∧ w ≤ 3) ∧ v1 = 0 ∧ c1 = c)
set_option maxRecDepth 20000 in
theorem C_scratch {sn : Nat} {sx : Nat → Int} {b : Nat} {g : am_G} {P : Nat} {e t w : Int} (h_e : R32 e) (h_t : R32 t) (h_w : R32 w) (hI : CInv P g) : Ev sn sx 3 111 [(2, 0), (0, e), (0, t), (0, w)] (SH b) g (CPost P g (F_scratch P e t w g)) := (e_scratch h_e h_t h_w hI).mono fun r h => by
  rcases h with ⟨hD, rfl⟩ | ⟨hD, rfl⟩
  · have h5 := hI.ck.1
    skip
    refine ⟨_, _, b, rfl, ⟨hI.ck.same fun c j q => by (repeat rw [up_no (by omega)]), ((hI.rg.up (by unfold Rg; omega) (by omega)).up (by unfold Rg; omega) (by omega)), hI.rgi.same fun c j q1 q2 => by (repeat rw [up_no (by omega)]), hI.e24.same fun c j q => by (repeat rw [up_no (by omega)]), hI.e24i.same fun c j q => by (repeat rw [up_no (by omega)]), hI.tx.same fun c j q1 q2 => by (repeat rw [up_no (by omega)]), hI.txi.same fun c j q1 q2 => by (repeat rw [up_no (by omega)]), hI.ti.same fun c j q => by (repeat rw [up_no (by omega)]), hI.tap.same fun c j q => by (repeat rw [up_no (by omega)]), hI.cls.same fun c j q1 q2 => by (repeat rw [up_no (by omega)]), hI.wls.same fun c j q1 q2 => by (repeat rw [up_no (by omega)]), CaW.none up_eq, hI.cal.same fun c j q => by (repeat rw [up_no (by omega)])⟩, fun c j q => by (repeat rw [up_no (by omega)]), Or.inl ⟨hD, rfl, rfl⟩⟩
  · exact ⟨_, _, b, rfl, hI, fun _ _ _ => rfl, Or.inr ⟨hD, rfl, rfl⟩⟩
set_option maxRecDepth 20000 in
theorem M_scratch {sn : Nat} {sx : Nat → Int} {b : Nat} {g c : am_G} {P : Nat} {e t w : Int} (h_e : R32 e) (h_t : R32 t) (h_w : R32 w) (hI : CInv P c) (hM : MRel c g) : Ev sn sx 3 226 [(2, 127), (0, e), (0, t), (0, w)] (SH b) g (MPost b g (F_scratch P e t w c)) := (m_scratch h_e h_t h_w hI hM).mono fun r h => by
  rcases h with ⟨hD, rfl⟩ | ⟨hD, rfl⟩
  · refine ⟨_, _, rfl, fun k j q => by (repeat rw [up_no (by omega)]), fun c1 v1 hE => ?_⟩
    rcases hE with ⟨-, rfl, rfl⟩ | ⟨hn, -, -⟩
    · have h5 := hI.ck.1
      skip
      exact ⟨rfl, ((hM.up (i := 1380 + (3 * e.toNat + t.toNat)) (k := 15) (j := (3 * e.toNat + t.toNat)) ((cp_scr _ (by omega) (by omega)).trans (by omega)) ((cj_scr _ (by omega) (by omega)).trans (by omega)) (by omega) (by omega) (by omega)).c_up (by unfold Co; omega))⟩
    · exact absurd hD hn
  · refine ⟨_, _, rfl, fun k j q => rfl, fun c1 v1 hE => ?_⟩
    rcases hE with ⟨hn, -, -⟩ | ⟨-, rfl, rfl⟩
    · exact absurd hn hD
    · exact ⟨rfl, hM⟩
set_option maxHeartbeats 400000 in
set_option maxRecDepth 20000 in
theorem e_startAt {sn : Nat} {sx : Nat → Int} {b : Nat} {g : am_G} {h i : Int} : Ev sn sx 1 19 [(2, 10), (0, h), (0, i)] (SH b) g (fun r => r = (some (0, (((h * 6) + i) * 5)), SH b, g)) := by
  refine ev_of (K := 0) T19 (by decide) rfl rfl (Nat.le_of_ble_eq_true rfl) ?_
  refine wp_eq (L' := [(2, 10), (0, h), (0, i)]) (st' := []) (g' := g) ?_
  refine wp_n 7 (pc' := 8) (L' := [(2, 10), (0, h), (0, i)]) (st' := [(0, (((h * 6) + i) * 5))]) (g' := g) rfl ?_
  exact wp_ret rfl rfl rfl rfl
set_option maxHeartbeats 400000 in
set_option maxRecDepth 20000 in
theorem e_start {sn : Nat} {sx : Nat → Int} {b : Nat} {g : am_G} {P : Nat} {h p s d t w : Int} (h_h : R32 h) (h_p : R32 p) (h_s : R32 s) (h_d : R32 d) (h_t : R32 t) (h_w : R32 w) (hI : CInv P g) : Ev sn sx 3 108 [(2, 0), (0, h), (0, p), (0, s), (0, d), (0, t), (0, w)] (SH b) g (fun yy => Two b yy (0 ≤ h ∧ h ≤ 3 ∧ 0 ≤ p ∧ p < 8 * (P : Int) ∧ 1 ≤ s ∧ s ≤ 999 ∧ 0 ≤ d ∧ d < 8 * (P : Int) ∧ 0 ≤ t ∧ t ≤ 99 ∧ 1 ≤ w ∧ w ≤ 9 ∧ g 17 h.toNat < 6) (g 17 h.toNat + 1) (am_up (am_up (am_up (am_up (am_up (am_up g 16 (30 * h.toNat + 5 * (g 17 h.toNat).toNat + 0) p) 16 (30 * h.toNat + 5 * (g 17 h.toNat).toNat + 1) s) 16 (30 * h.toNat + 5 * (g 17 h.toNat).toNat + 2) d) 16 (30 * h.toNat + 5 * (g 17 h.toNat).toNat + 3) t) 16 (30 * h.toNat + 5 * (g 17 h.toNat).toNat + 4) w) 17 h.toNat (g 17 h.toNat + 1)) (-1) g) := by
  have hP := hI.ck.2.1
  have h5 := hI.ck.1
  refine ev_of (K := 2) T108 (by decide) rfl rfl (Nat.le_of_ble_eq_true rfl) ?_
  refine wp_eq (L' := [(2, 0), (0, h), (0, p), (0, s), (0, d), (0, t), (0, w), (9, 0), (9, 0)]) (st' := []) (g' := g) ?_
  refine wp_n 1 (pc' := 1) (L' := [(2, 0), (0, h), (0, p), (0, s), (0, d), (0, t), (0, w), (9, 0), (9, 0)]) (st' := [(0, h)]) (g' := g) rfl ?_
  refine wp_cs (as := [(0, h)]) (rest := []) rfl (by decide) rfl (Nat.le_of_ble_eq_true rfl) (e_isHand (by omega)) (by decide) (fun r2 h3 => ?_)
  rcases h3 with ⟨rfl, p1⟩ | ⟨rfl, p1⟩
  · refine wp_eq (L' := [(2, 0), (0, h), (0, p), (0, s), (0, d), (0, t), (0, w), (9, 0), (9, 0)]) (st' := [(0, 1)]) (g' := g) ?_
    refine wp_n 6 (pc' := 14) (L' := [(2, 0), (0, h), (0, p), (0, s), (0, d), (0, t), (0, w), (9, 0), (9, 0)]) (st' := [(0, t), (0, d), (0, s), (0, p), (2, 0)]) (g' := g) rfl ?_
    refine wp_cv (as := [(2, 0), (0, p), (0, s), (0, d), (0, t)]) (rest := []) rfl rfl rfl (Nat.le_of_ble_eq_true rfl) rfl (e_isRelease (by omega) (by omega) (by omega) (by omega) (by assumption) (by omega)) (by decide) (fun r4 h5 => ?_)
    rcases h5 with ⟨rfl, p14⟩ | ⟨rfl, p14⟩
    · refine wp_eq (L' := [(2, 0), (0, h), (0, p), (0, s), (0, d), (0, t), (0, w), (9, 0), (9, 0)]) (st' := [(0, 1)]) (g' := g) ?_
      refine wp_n 4 (pc' := 25) (L' := [(2, 0), (0, h), (0, p), (0, s), (0, d), (0, t), (0, w), (9, 0), (9, 0)]) (st' := [(0, 9), (0, 1), (0, w)]) (g' := g) rfl ?_
      refine wp_cs (as := [(0, w), (0, 1), (0, 9)]) (rest := []) rfl (by decide) rfl (Nat.le_of_ble_eq_true rfl) (e_within (by omega) (by omega) (by omega)) (by decide) (fun r7 h8 => ?_)
      rcases h8 with ⟨rfl, p6⟩ | ⟨rfl, p6⟩
      · have hr := hI.rg.r17_20 h.toNat (by omega)
        refine wp_eq (L' := [(2, 0), (0, h), (0, p), (0, s), (0, d), (0, t), (0, w), (9, 0), (9, 0)]) (st' := [(0, 1)]) (g' := g) ?_
        refine wp_n 5 (pc' := 41) (L' := [(2, 0), (0, h), (0, p), (0, s), (0, d), (0, t), (0, w), (9, 0), (9, 0)]) (st' := [(0, h), (2, 17)]) (g' := g) rfl ?_
        refine wp_iald (k := 17) (h.toNat) rfl rfl (by omega) (by omega) (by decide) ?_
        refine wp_n 3 (pc' := 48) (L' := [(2, 0), (0, h), (0, p), (0, s), (0, d), (0, t), (0, w), (0, (g 17 h.toNat)), (9, 0)]) (st' := [(0, 6), (0, (g 17 h.toNat))]) (g' := g) rfl ?_
        refine wp_ic_lt rfl (fun c9 => ?_) (fun c9 => ?_)
        · refine wp_n 4 (pc' := 60) (L' := [(2, 0), (0, h), (0, p), (0, s), (0, d), (0, t), (0, w), (0, (g 17 h.toNat)), (9, 0)]) (st' := [(0, (g 17 h.toNat)), (0, h), (2, 10)]) (g' := g) rfl ?_
          refine wp_cv (as := [(2, 10), (0, h), (0, (g 17 h.toNat))]) (rest := []) rfl rfl rfl (Nat.le_of_ble_eq_true rfl) rfl (e_startAt) (by decide) (fun r10 h11 => ?_)
          obtain rfl := h11
          refine wp_eq (L' := [(2, 0), (0, h), (0, p), (0, s), (0, d), (0, t), (0, w), (0, (g 17 h.toNat)), (9, 0)]) (st' := [(0, (((h * 6) + (g 17 h.toNat)) * 5))]) (g' := g) ?_
          refine wp_n 6 (pc' := 75) (L' := [(2, 0), (0, h), (0, p), (0, s), (0, d), (0, t), (0, w), (0, (g 17 h.toNat)), (0, (((h * 6) + (g 17 h.toNat)) * 5))]) (st' := [(0, p), (0, (((h * 6) + (g 17 h.toNat)) * 5)), (2, 16)]) (g' := g) rfl ?_
          refine wp_iast (k := 16) ((30 * h.toNat + 5 * (g 17 h.toNat).toNat + 0)) rfl rfl (by omega) (by omega) (by decide) ?_
          refine wp_n 7 (pc' := 88) (L' := [(2, 0), (0, h), (0, p), (0, s), (0, d), (0, t), (0, w), (0, (g 17 h.toNat)), (0, (((h * 6) + (g 17 h.toNat)) * 5))]) (st' := [(0, s), (0, ((((h * 6) + (g 17 h.toNat)) * 5) + 1)), (2, 16)]) (g' := (am_up g 16 ((30 * h.toNat + 5 * (g 17 h.toNat).toNat + 0)) p)) rfl ?_
          refine wp_iast (k := 16) ((30 * h.toNat + 5 * (g 17 h.toNat).toNat + 1)) rfl rfl (by omega) (by omega) (by decide) ?_
          refine wp_n 7 (pc' := 102) (L' := [(2, 0), (0, h), (0, p), (0, s), (0, d), (0, t), (0, w), (0, (g 17 h.toNat)), (0, (((h * 6) + (g 17 h.toNat)) * 5))]) (st' := [(0, d), (0, ((((h * 6) + (g 17 h.toNat)) * 5) + 2)), (2, 16)]) (g' := (am_up (am_up g 16 ((30 * h.toNat + 5 * (g 17 h.toNat).toNat + 0)) p) 16 ((30 * h.toNat + 5 * (g 17 h.toNat).toNat + 1)) s)) rfl ?_
          refine wp_iast (k := 16) ((30 * h.toNat + 5 * (g 17 h.toNat).toNat + 2)) rfl rfl (by omega) (by omega) (by decide) ?_
          refine wp_n 7 (pc' := 116) (L' := [(2, 0), (0, h), (0, p), (0, s), (0, d), (0, t), (0, w), (0, (g 17 h.toNat)), (0, (((h * 6) + (g 17 h.toNat)) * 5))]) (st' := [(0, t), (0, ((((h * 6) + (g 17 h.toNat)) * 5) + 3)), (2, 16)]) (g' := (am_up (am_up (am_up g 16 ((30 * h.toNat + 5 * (g 17 h.toNat).toNat + 0)) p) 16 ((30 * h.toNat + 5 * (g 17 h.toNat).toNat + 1)) s) 16 ((30 * h.toNat + 5 * (g 17 h.toNat).toNat + 2)) d)) rfl ?_
          refine wp_iast (k := 16) ((30 * h.toNat + 5 * (g 17 h.toNat).toNat + 3)) rfl rfl (by omega) (by omega) (by decide) ?_
          refine wp_n 7 (pc' := 130) (L' := [(2, 0), (0, h), (0, p), (0, s), (0, d), (0, t), (0, w), (0, (g 17 h.toNat)), (0, (((h * 6) + (g 17 h.toNat)) * 5))]) (st' := [(0, w), (0, ((((h * 6) + (g 17 h.toNat)) * 5) + 4)), (2, 16)]) (g' := (am_up (am_up (am_up (am_up g 16 ((30 * h.toNat + 5 * (g 17 h.toNat).toNat + 0)) p) 16 ((30 * h.toNat + 5 * (g 17 h.toNat).toNat + 1)) s) 16 ((30 * h.toNat + 5 * (g 17 h.toNat).toNat + 2)) d) 16 ((30 * h.toNat + 5 * (g 17 h.toNat).toNat + 3)) t)) rfl ?_
          refine wp_iast (k := 16) ((30 * h.toNat + 5 * (g 17 h.toNat).toNat + 4)) rfl rfl (by omega) (by omega) (by decide) ?_
          refine wp_n 7 (pc' := 143) (L' := [(2, 0), (0, h), (0, p), (0, s), (0, d), (0, t), (0, w), (0, (g 17 h.toNat)), (0, (((h * 6) + (g 17 h.toNat)) * 5))]) (st' := [(0, ((g 17 h.toNat) + 1)), (0, h), (2, 17)]) (g' := (am_up (am_up (am_up (am_up (am_up g 16 ((30 * h.toNat + 5 * (g 17 h.toNat).toNat + 0)) p) 16 ((30 * h.toNat + 5 * (g 17 h.toNat).toNat + 1)) s) 16 ((30 * h.toNat + 5 * (g 17 h.toNat).toNat + 2)) d) 16 ((30 * h.toNat + 5 * (g 17 h.toNat).toNat + 3)) t) 16 ((30 * h.toNat + 5 * (g 17 h.toNat).toNat + 4)) w)) rfl ?_
          refine wp_iast (k := 17) (h.toNat) rfl rfl (by omega) (by omega) (by decide) ?_
          refine wp_n 3 (pc' := 148) (L' := [(2, 0), (0, h), (0, p), (0, s), (0, d), (0, t), (0, w), (0, (g 17 h.toNat)), (0, (((h * 6) + (g 17 h.toNat)) * 5))]) (st' := [(0, ((g 17 h.toNat) + 1))]) (g' := (am_up (am_up (am_up (am_up (am_up (am_up g 16 ((30 * h.toNat + 5 * (g 17 h.toNat).toNat + 0)) p) 16 ((30 * h.toNat + 5 * (g 17 h.toNat).toNat + 1)) s) 16 ((30 * h.toNat + 5 * (g 17 h.toNat).toNat + 2)) d) 16 ((30 * h.toNat + 5 * (g 17 h.toNat).toNat + 3)) t) 16 ((30 * h.toNat + 5 * (g 17 h.toNat).toNat + 4)) w) 17 (h.toNat) ((g 17 h.toNat) + 1))) rfl ?_
          exact wp_ret rfl rfl rfl (Or.inl ⟨by omega, rfl⟩)
        · refine wp_n 1 (pc' := 52) (L' := [(2, 0), (0, h), (0, p), (0, s), (0, d), (0, t), (0, w), (0, (g 17 h.toNat)), (9, 0)]) (st' := [(0, (-1))]) (g' := g) rfl ?_
          exact wp_ret rfl rfl rfl (Or.inr ⟨by omega, rfl⟩)
      · refine wp_eq (L' := [(2, 0), (0, h), (0, p), (0, s), (0, d), (0, t), (0, w), (9, 0), (9, 0)]) (st' := [(0, 0)]) (g' := g) ?_
        refine wp_n 2 (pc' := 32) (L' := [(2, 0), (0, h), (0, p), (0, s), (0, d), (0, t), (0, w), (9, 0), (9, 0)]) (st' := [(0, (-1))]) (g' := g) rfl ?_
        exact wp_ret rfl rfl rfl (Or.inr ⟨by omega, rfl⟩)
    · refine wp_eq (L' := [(2, 0), (0, h), (0, p), (0, s), (0, d), (0, t), (0, w), (9, 0), (9, 0)]) (st' := [(0, 0)]) (g' := g) ?_
      refine wp_n 2 (pc' := 32) (L' := [(2, 0), (0, h), (0, p), (0, s), (0, d), (0, t), (0, w), (9, 0), (9, 0)]) (st' := [(0, (-1))]) (g' := g) rfl ?_
      exact wp_ret rfl rfl rfl (Or.inr ⟨by omega, rfl⟩)
  · refine wp_eq (L' := [(2, 0), (0, h), (0, p), (0, s), (0, d), (0, t), (0, w), (9, 0), (9, 0)]) (st' := [(0, 0)]) (g' := g) ?_
    refine wp_n 2 (pc' := 32) (L' := [(2, 0), (0, h), (0, p), (0, s), (0, d), (0, t), (0, w), (9, 0), (9, 0)]) (st' := [(0, (-1))]) (g' := g) rfl ?_
    exact wp_ret rfl rfl rfl (Or.inr ⟨by omega, rfl⟩)
set_option maxHeartbeats 400000 in
set_option maxRecDepth 20000 in
theorem m_start {sn : Nat} {sx : Nat → Int} {b : Nat} {g : am_G} {c : am_G} {P : Nat} {h p s d t w : Int} (h_h : R32 h) (h_p : R32 p) (h_s : R32 s) (h_d : R32 d) (h_t : R32 t) (h_w : R32 w) (hI : CInv P c) (hM : MRel c g) : Ev sn sx 4 202 [(2, 127), (0, h), (0, p), (0, s), (0, d), (0, t), (0, w)] (SH b) g (fun yy => Two b yy (0 ≤ h ∧ h ≤ 3 ∧ 0 ≤ p ∧ p < 8 * (P : Int) ∧ 1 ≤ s ∧ s ≤ 999 ∧ 0 ≤ d ∧ d < 8 * (P : Int) ∧ 0 ≤ t ∧ t ≤ 99 ∧ 1 ≤ w ∧ w ≤ 9 ∧ c 17 h.toNat < 6) (c 17 h.toNat + 1) (am_up (am_up (am_up (am_up (am_up (am_up g 128 (460 + (30 * h.toNat + 5 * (c 17 h.toNat).toNat + 0)) p) 128 (460 + (30 * h.toNat + 5 * (c 17 h.toNat).toNat + 1)) s) 128 (460 + (30 * h.toNat + 5 * (c 17 h.toNat).toNat + 2)) d) 128 (460 + (30 * h.toNat + 5 * (c 17 h.toNat).toNat + 3)) t) 128 (460 + (30 * h.toNat + 5 * (c 17 h.toNat).toNat + 4)) w) 128 (455 + h.toNat) (c 17 h.toNat + 1)) (-1) g) := by
  have h5 := hI.ck.1
  have hP : g 127 0 = (P : Int) := hM.n.trans hI.ck.2.1
  refine ev_of (K := 3) T202 (by decide) rfl rfl (Nat.le_of_ble_eq_true rfl) ?_
  refine wp_eq (L' := [(2, 127), (0, h), (0, p), (0, s), (0, d), (0, t), (0, w), (9, 0)]) (st' := []) (g' := g) ?_
  refine wp_n 1 (pc' := 1) (L' := [(2, 127), (0, h), (0, p), (0, s), (0, d), (0, t), (0, w), (9, 0)]) (st' := [(0, h)]) (g' := g) rfl ?_
  refine wp_cs (as := [(0, h)]) (rest := []) rfl (by decide) rfl (Nat.le_of_ble_eq_true rfl) (e_MisHand (by omega)) (by decide) (fun r2 h3 => ?_)
  rcases h3 with ⟨rfl, p1⟩ | ⟨rfl, p1⟩
  · refine wp_eq (L' := [(2, 127), (0, h), (0, p), (0, s), (0, d), (0, t), (0, w), (9, 0)]) (st' := [(0, 1)]) (g' := g) ?_
    refine wp_n 7 (pc' := 15) (L' := [(2, 127), (0, h), (0, p), (0, s), (0, d), (0, t), (0, w), (9, 0)]) (st' := [(0, t), (0, d), (0, s), (0, p), (0, 0), (2, 127)]) (g' := g) rfl ?_
    refine wp_cv (as := [(2, 127), (0, 0), (0, p), (0, s), (0, d), (0, t)]) (rest := []) rfl rfl rfl (Nat.le_of_ble_eq_true rfl) rfl (m_isDrop (by omega) (by omega) (by omega) (by omega) (by omega) (by assumption) (by omega)) (by decide) (fun r4 h5 => ?_)
    rcases h5 with ⟨rfl, p15⟩ | ⟨rfl, p15⟩
    · refine wp_eq (L' := [(2, 127), (0, h), (0, p), (0, s), (0, d), (0, t), (0, w), (9, 0)]) (st' := [(0, 1)]) (g' := g) ?_
      refine wp_n 4 (pc' := 26) (L' := [(2, 127), (0, h), (0, p), (0, s), (0, d), (0, t), (0, w), (9, 0)]) (st' := [(0, 9), (0, 1), (0, w)]) (g' := g) rfl ?_
      refine wp_cs (as := [(0, w), (0, 1), (0, 9)]) (rest := []) rfl (by decide) rfl (Nat.le_of_ble_eq_true rfl) (e_isIn (by omega) (by omega) (by omega)) (by decide) (fun r7 h8 => ?_)
      rcases h8 with ⟨rfl, p6⟩ | ⟨rfl, p6⟩
      · have hr := hI.rg.r17_20 h.toNat (by omega)
        refine wp_eq (L' := [(2, 127), (0, h), (0, p), (0, s), (0, d), (0, t), (0, w), (9, 0)]) (st' := [(0, 1)]) (g' := g) ?_
        refine wp_n 6 (pc' := 41) (L' := [(2, 127), (0, h), (0, p), (0, s), (0, d), (0, t), (0, w), (9, 0)]) (st' := [(0, (455 + h)), (2, 128)]) (g' := g) rfl ?_
        refine wp_iald (k := 128) ((455 + h.toNat)) rfl rfl (by omega) (by omega) (by decide) ?_
        refine wp_eq (L' := [(2, 127), (0, h), (0, p), (0, s), (0, d), (0, t), (0, w), (9, 0)]) (st' := [(0, (c 17 h.toNat))]) (g' := g) ?_ (by rfl) (by rw [hM.many _ (by omega)]) (by rfl)
        refine wp_n 1 (pc' := 44) (L' := [(2, 127), (0, h), (0, p), (0, s), (0, d), (0, t), (0, w), (9, 0)]) (st' := [(0, 6), (0, (c 17 h.toNat))]) (g' := g) rfl ?_
        refine wp_ic_ne rfl (fun c9 => ?_) (fun c9 => ?_)
        · refine wp_n 11 (pc' := 67) (L' := [(2, 127), (0, h), (0, p), (0, s), (0, d), (0, t), (0, w), (9, 0)]) (st' := [(0, (455 + h)), (2, 128), (0, 5), (0, (460 + (30 * h)))]) (g' := g) rfl ?_
          refine wp_iald (k := 128) ((455 + h.toNat)) rfl rfl (by omega) (by omega) (by decide) ?_
          refine wp_eq (L' := [(2, 127), (0, h), (0, p), (0, s), (0, d), (0, t), (0, w), (9, 0)]) (st' := [(0, (c 17 h.toNat)), (0, 5), (0, (460 + (30 * h)))]) (g' := g) ?_ (by rfl) (by rw [hM.many _ (by omega)]) (by rfl)
          refine wp_n 7 (pc' := 79) (L' := [(2, 127), (0, h), (0, p), (0, s), (0, d), (0, t), (0, w), (0, ((460 + (30 * h)) + (5 * (c 17 h.toNat))))]) (st' := [(0, p), (0, ((460 + (30 * h)) + (5 * (c 17 h.toNat)))), (2, 128)]) (g' := g) rfl ?_
          refine wp_iast (k := 128) ((460 + (30 * h.toNat + 5 * (c 17 h.toNat).toNat + 0))) rfl rfl (by omega) (by omega) (by decide) ?_
          refine wp_n 6 (pc' := 89) (L' := [(2, 127), (0, h), (0, p), (0, s), (0, d), (0, t), (0, w), (0, ((460 + (30 * h)) + (5 * (c 17 h.toNat))))]) (st' := [(0, s), (0, (((460 + (30 * h)) + (5 * (c 17 h.toNat))) + 1)), (2, 128)]) (g' := (am_up g 128 ((460 + (30 * h.toNat + 5 * (c 17 h.toNat).toNat + 0))) p)) rfl ?_
          refine wp_iast (k := 128) ((460 + (30 * h.toNat + 5 * (c 17 h.toNat).toNat + 1))) rfl rfl (by omega) (by omega) (by decide) ?_
          refine wp_n 6 (pc' := 100) (L' := [(2, 127), (0, h), (0, p), (0, s), (0, d), (0, t), (0, w), (0, ((460 + (30 * h)) + (5 * (c 17 h.toNat))))]) (st' := [(0, d), (0, (((460 + (30 * h)) + (5 * (c 17 h.toNat))) + 2)), (2, 128)]) (g' := (am_up (am_up g 128 ((460 + (30 * h.toNat + 5 * (c 17 h.toNat).toNat + 0))) p) 128 ((460 + (30 * h.toNat + 5 * (c 17 h.toNat).toNat + 1))) s)) rfl ?_
          refine wp_iast (k := 128) ((460 + (30 * h.toNat + 5 * (c 17 h.toNat).toNat + 2))) rfl rfl (by omega) (by omega) (by decide) ?_
          refine wp_n 6 (pc' := 111) (L' := [(2, 127), (0, h), (0, p), (0, s), (0, d), (0, t), (0, w), (0, ((460 + (30 * h)) + (5 * (c 17 h.toNat))))]) (st' := [(0, t), (0, (((460 + (30 * h)) + (5 * (c 17 h.toNat))) + 3)), (2, 128)]) (g' := (am_up (am_up (am_up g 128 ((460 + (30 * h.toNat + 5 * (c 17 h.toNat).toNat + 0))) p) 128 ((460 + (30 * h.toNat + 5 * (c 17 h.toNat).toNat + 1))) s) 128 ((460 + (30 * h.toNat + 5 * (c 17 h.toNat).toNat + 2))) d)) rfl ?_
          refine wp_iast (k := 128) ((460 + (30 * h.toNat + 5 * (c 17 h.toNat).toNat + 3))) rfl rfl (by omega) (by omega) (by decide) ?_
          refine wp_n 6 (pc' := 122) (L' := [(2, 127), (0, h), (0, p), (0, s), (0, d), (0, t), (0, w), (0, ((460 + (30 * h)) + (5 * (c 17 h.toNat))))]) (st' := [(0, w), (0, (((460 + (30 * h)) + (5 * (c 17 h.toNat))) + 4)), (2, 128)]) (g' := (am_up (am_up (am_up (am_up g 128 ((460 + (30 * h.toNat + 5 * (c 17 h.toNat).toNat + 0))) p) 128 ((460 + (30 * h.toNat + 5 * (c 17 h.toNat).toNat + 1))) s) 128 ((460 + (30 * h.toNat + 5 * (c 17 h.toNat).toNat + 2))) d) 128 ((460 + (30 * h.toNat + 5 * (c 17 h.toNat).toNat + 3))) t)) rfl ?_
          refine wp_iast (k := 128) ((460 + (30 * h.toNat + 5 * (c 17 h.toNat).toNat + 4))) rfl rfl (by omega) (by omega) (by decide) ?_
          refine wp_n 6 (pc' := 133) (L' := [(2, 127), (0, h), (0, p), (0, s), (0, d), (0, t), (0, w), (0, ((460 + (30 * h)) + (5 * (c 17 h.toNat))))]) (st' := [(0, (455 + h)), (2, 128), (0, (455 + h)), (2, 128)]) (g' := (am_up (am_up (am_up (am_up (am_up g 128 ((460 + (30 * h.toNat + 5 * (c 17 h.toNat).toNat + 0))) p) 128 ((460 + (30 * h.toNat + 5 * (c 17 h.toNat).toNat + 1))) s) 128 ((460 + (30 * h.toNat + 5 * (c 17 h.toNat).toNat + 2))) d) 128 ((460 + (30 * h.toNat + 5 * (c 17 h.toNat).toNat + 3))) t) 128 ((460 + (30 * h.toNat + 5 * (c 17 h.toNat).toNat + 4))) w)) rfl ?_
          refine wp_iald (k := 128) ((455 + h.toNat)) rfl rfl (by omega) (by omega) (by decide) ?_
          refine wp_eq (L' := [(2, 127), (0, h), (0, p), (0, s), (0, d), (0, t), (0, w), (0, ((460 + (30 * h)) + (5 * (c 17 h.toNat))))]) (st' := [(0, (c 17 h.toNat)), (0, (455 + h)), (2, 128)]) (g' := (am_up (am_up (am_up (am_up (am_up g 128 ((460 + (30 * h.toNat + 5 * (c 17 h.toNat).toNat + 0))) p) 128 ((460 + (30 * h.toNat + 5 * (c 17 h.toNat).toNat + 1))) s) 128 ((460 + (30 * h.toNat + 5 * (c 17 h.toNat).toNat + 2))) d) 128 ((460 + (30 * h.toNat + 5 * (c 17 h.toNat).toNat + 3))) t) 128 ((460 + (30 * h.toNat + 5 * (c 17 h.toNat).toNat + 4))) w)) ?_ (by rfl) (by (repeat rw [up_no (by omega)]); rw [hM.many _ (by omega)]) (by rfl)
          refine wp_n 2 (pc' := 136) (L' := [(2, 127), (0, h), (0, p), (0, s), (0, d), (0, t), (0, w), (0, ((460 + (30 * h)) + (5 * (c 17 h.toNat))))]) (st' := [(0, ((c 17 h.toNat) + 1)), (0, (455 + h)), (2, 128)]) (g' := (am_up (am_up (am_up (am_up (am_up g 128 ((460 + (30 * h.toNat + 5 * (c 17 h.toNat).toNat + 0))) p) 128 ((460 + (30 * h.toNat + 5 * (c 17 h.toNat).toNat + 1))) s) 128 ((460 + (30 * h.toNat + 5 * (c 17 h.toNat).toNat + 2))) d) 128 ((460 + (30 * h.toNat + 5 * (c 17 h.toNat).toNat + 3))) t) 128 ((460 + (30 * h.toNat + 5 * (c 17 h.toNat).toNat + 4))) w)) rfl ?_
          refine wp_iast (k := 128) ((455 + h.toNat)) rfl rfl (by omega) (by omega) (by decide) ?_
          refine wp_n 5 (pc' := 146) (L' := [(2, 127), (0, h), (0, p), (0, s), (0, d), (0, t), (0, w), (0, ((460 + (30 * h)) + (5 * (c 17 h.toNat))))]) (st' := [(0, (455 + h)), (2, 128)]) (g' := (am_up (am_up (am_up (am_up (am_up (am_up g 128 ((460 + (30 * h.toNat + 5 * (c 17 h.toNat).toNat + 0))) p) 128 ((460 + (30 * h.toNat + 5 * (c 17 h.toNat).toNat + 1))) s) 128 ((460 + (30 * h.toNat + 5 * (c 17 h.toNat).toNat + 2))) d) 128 ((460 + (30 * h.toNat + 5 * (c 17 h.toNat).toNat + 3))) t) 128 ((460 + (30 * h.toNat + 5 * (c 17 h.toNat).toNat + 4))) w) 128 ((455 + h.toNat)) ((c 17 h.toNat) + 1))) rfl ?_
          refine wp_iald (k := 128) ((455 + h.toNat)) rfl rfl (by omega) (by omega) (by decide) ?_
          refine wp_eq (L' := [(2, 127), (0, h), (0, p), (0, s), (0, d), (0, t), (0, w), (0, ((460 + (30 * h)) + (5 * (c 17 h.toNat))))]) (st' := [(0, (c 17 h.toNat + 1))]) (g' := (am_up (am_up (am_up (am_up (am_up (am_up g 128 ((460 + (30 * h.toNat + 5 * (c 17 h.toNat).toNat + 0))) p) 128 ((460 + (30 * h.toNat + 5 * (c 17 h.toNat).toNat + 1))) s) 128 ((460 + (30 * h.toNat + 5 * (c 17 h.toNat).toNat + 2))) d) 128 ((460 + (30 * h.toNat + 5 * (c 17 h.toNat).toNat + 3))) t) 128 ((460 + (30 * h.toNat + 5 * (c 17 h.toNat).toNat + 4))) w) 128 ((455 + h.toNat)) ((c 17 h.toNat) + 1))) ?_ (by rfl) (by rw [up_eq]) (by rfl)
          exact wp_ret rfl rfl rfl (Or.inl ⟨by omega, rfl⟩)
        · refine wp_n 1 (pc' := 48) (L' := [(2, 127), (0, h), (0, p), (0, s), (0, d), (0, t), (0, w), (9, 0)]) (st' := [(0, (-1))]) (g' := g) rfl ?_
          exact wp_ret rfl rfl rfl (Or.inr ⟨by omega, rfl⟩)
      · refine wp_eq (L' := [(2, 127), (0, h), (0, p), (0, s), (0, d), (0, t), (0, w), (9, 0)]) (st' := [(0, 0)]) (g' := g) ?_
        refine wp_n 2 (pc' := 48) (L' := [(2, 127), (0, h), (0, p), (0, s), (0, d), (0, t), (0, w), (9, 0)]) (st' := [(0, (-1))]) (g' := g) rfl ?_
        exact wp_ret rfl rfl rfl (Or.inr ⟨by omega, rfl⟩)
    · refine wp_eq (L' := [(2, 127), (0, h), (0, p), (0, s), (0, d), (0, t), (0, w), (9, 0)]) (st' := [(0, 0)]) (g' := g) ?_
      refine wp_n 2 (pc' := 48) (L' := [(2, 127), (0, h), (0, p), (0, s), (0, d), (0, t), (0, w), (9, 0)]) (st' := [(0, (-1))]) (g' := g) rfl ?_
      exact wp_ret rfl rfl rfl (Or.inr ⟨by omega, rfl⟩)
  · refine wp_eq (L' := [(2, 127), (0, h), (0, p), (0, s), (0, d), (0, t), (0, w), (9, 0)]) (st' := [(0, 0)]) (g' := g) ?_
    refine wp_n 2 (pc' := 48) (L' := [(2, 127), (0, h), (0, p), (0, s), (0, d), (0, t), (0, w), (9, 0)]) (st' := [(0, (-1))]) (g' := g) rfl ?_
    exact wp_ret rfl rfl rfl (Or.inr ⟨by omega, rfl⟩)
def F_start (P : Nat) (h p s d t w : Int) (c c1 : am_G) (v1 : Int) : Prop := ((0 ≤ h ∧ h ≤ 3 ∧ 0 ≤ p ∧ p < 8 * (P : Int) ∧ 1 ≤ s ∧ s ≤ 999 ∧ 0 ≤ d ∧ d < 8 * (P : Int) ∧ 0 ≤ t ∧ t ≤ 99 ∧ 1 ≤ w ∧ w ≤ 9 ∧ c 17 h.toNat < 6) ∧ v1 = (c 17 h.toNat + 1) ∧ c1 = (am_up (am_up (am_up (am_up (am_up (am_up c 16 (30 * h.toNat + 5 * (c 17 h.toNat).toNat + 0) p) 16 (30 * h.toNat + 5 * (c 17 h.toNat).toNat + 1) s) 16 (30 * h.toNat + 5 * (c 17 h.toNat).toNat + 2) d) 16 (30 * h.toNat + 5 * (c 17 h.toNat).toNat + 3) t) 16 (30 * h.toNat + 5 * (c 17 h.toNat).toNat + 4) w) 17 h.toNat (c 17 h.toNat + 1))) ∨ (¬ (0 ≤ h ∧ h ≤ 3 ∧ 0 ≤ p ∧ p < 8 * (P : Int) ∧ 1 ≤ s ∧ s ≤ 999 ∧ 0 ≤ d ∧ d < 8 * (P : Int) ∧ 0 ≤ t ∧ t ≤ 99 ∧ 1 ≤ w ∧ w ≤ 9 ∧ c 17 h.toNat < 6) ∧ v1 = -1 ∧ c1 = c)
set_option maxRecDepth 20000 in
theorem C_start {sn : Nat} {sx : Nat → Int} {b : Nat} {g : am_G} {P : Nat} {h p s d t w : Int} (h_h : R32 h) (h_p : R32 p) (h_s : R32 s) (h_d : R32 d) (h_t : R32 t) (h_w : R32 w) (hI : CInv P g) : Ev sn sx 3 108 [(2, 0), (0, h), (0, p), (0, s), (0, d), (0, t), (0, w)] (SH b) g (CPost P g (F_start P h p s d t w g)) := (e_start h_h h_p h_s h_d h_t h_w hI).mono fun r h => by
  rcases h with ⟨hD, rfl⟩ | ⟨hD, rfl⟩
  · have h5 := hI.ck.1
    have hr := hI.rg.r17_20 h.toNat (by omega)
    refine ⟨_, _, b, rfl, ⟨hI.ck.same fun c j q => by (repeat rw [up_no (by omega)]), ((((((hI.rg.up (by unfold Rg; omega) (by omega)).up (by unfold Rg; omega) (by omega)).up (by unfold Rg; omega) (by omega)).up (by unfold Rg; omega) (by omega)).up (by unfold Rg; omega) (by omega)).up (by unfold Rg; omega) (by omega)), hI.rgi.same fun c j q1 q2 => by (repeat rw [up_no (by omega)]), hI.e24.same fun c j q => by (repeat rw [up_no (by omega)]), hI.e24i.same fun c j q => by (repeat rw [up_no (by omega)]), hI.tx.same fun c j q1 q2 => by (repeat rw [up_no (by omega)]), hI.txi.same fun c j q1 q2 => by (repeat rw [up_no (by omega)]), hI.ti.same fun c j q => by (repeat rw [up_no (by omega)]), hI.tap.same fun c j q => by (repeat rw [up_no (by omega)]), hI.cls.same fun c j q1 q2 => by (repeat rw [up_no (by omega)]), hI.wls.same fun c j q1 q2 => by (repeat rw [up_no (by omega)]), hI.caw.same fun c j q => by (repeat rw [up_no (by omega)]), hI.cal.same fun c j q => by (repeat rw [up_no (by omega)])⟩, fun c j q => by (repeat rw [up_no (by omega)]), Or.inl ⟨hD, rfl, rfl⟩⟩
  · exact ⟨_, _, b, rfl, hI, fun _ _ _ => rfl, Or.inr ⟨hD, rfl, rfl⟩⟩
set_option maxRecDepth 20000 in
theorem M_start {sn : Nat} {sx : Nat → Int} {b : Nat} {g c : am_G} {P : Nat} {h p s d t w : Int} (h_h : R32 h) (h_p : R32 p) (h_s : R32 s) (h_d : R32 d) (h_t : R32 t) (h_w : R32 w) (hI : CInv P c) (hM : MRel c g) : Ev sn sx 4 202 [(2, 127), (0, h), (0, p), (0, s), (0, d), (0, t), (0, w)] (SH b) g (MPost b g (F_start P h p s d t w c)) := (m_start h_h h_p h_s h_d h_t h_w hI hM).mono fun r h => by
  rcases h with ⟨hD, rfl⟩ | ⟨hD, rfl⟩
  · refine ⟨_, _, rfl, fun k j q => by (repeat rw [up_no (by omega)]), fun c1 v1 hE => ?_⟩
    rcases hE with ⟨-, rfl, rfl⟩ | ⟨hn, -, -⟩
    · have h5 := hI.ck.1
      have hr := hI.rg.r17_20 h.toNat (by omega)
      exact ⟨rfl, ((((((hM.up (i := 460 + (30 * h.toNat + 5 * (c 17 h.toNat).toNat + 0)) (k := 16) (j := (30 * h.toNat + 5 * (c 17 h.toNat).toNat + 0)) ((cp_start _ (by omega) (by omega)).trans (by omega)) ((cj_start _ (by omega) (by omega)).trans (by omega)) (by omega) (by omega) (by omega)).up (i := 460 + (30 * h.toNat + 5 * (c 17 h.toNat).toNat + 1)) (k := 16) (j := (30 * h.toNat + 5 * (c 17 h.toNat).toNat + 1)) ((cp_start _ (by omega) (by omega)).trans (by omega)) ((cj_start _ (by omega) (by omega)).trans (by omega)) (by omega) (by omega) (by omega)).up (i := 460 + (30 * h.toNat + 5 * (c 17 h.toNat).toNat + 2)) (k := 16) (j := (30 * h.toNat + 5 * (c 17 h.toNat).toNat + 2)) ((cp_start _ (by omega) (by omega)).trans (by omega)) ((cj_start _ (by omega) (by omega)).trans (by omega)) (by omega) (by omega) (by omega)).up (i := 460 + (30 * h.toNat + 5 * (c 17 h.toNat).toNat + 3)) (k := 16) (j := (30 * h.toNat + 5 * (c 17 h.toNat).toNat + 3)) ((cp_start _ (by omega) (by omega)).trans (by omega)) ((cj_start _ (by omega) (by omega)).trans (by omega)) (by omega) (by omega) (by omega)).up (i := 460 + (30 * h.toNat + 5 * (c 17 h.toNat).toNat + 4)) (k := 16) (j := (30 * h.toNat + 5 * (c 17 h.toNat).toNat + 4)) ((cp_start _ (by omega) (by omega)).trans (by omega)) ((cj_start _ (by omega) (by omega)).trans (by omega)) (by omega) (by omega) (by omega)).up (i := 455 + h.toNat) (k := 17) (j := h.toNat) ((cp_many _ (by omega) (by omega)).trans (by omega)) ((cj_many _ (by omega) (by omega)).trans (by omega)) (by omega) (by omega) (by omega))⟩
    · exact absurd hD hn
  · refine ⟨_, _, rfl, fun k j q => rfl, fun c1 v1 hE => ?_⟩
    rcases hE with ⟨hn, -, -⟩ | ⟨-, rfl, rfl⟩
    · exact absurd hn hD
    · exact ⟨rfl, hM⟩
set_option maxHeartbeats 400000 in
set_option maxRecDepth 20000 in
theorem e_seen {sn : Nat} {sx : Nat → Int} {b : Nat} {g : am_G} {P : Nat} {s t : Int} (h_s : R32 s) (h_t : R32 t) (hI : CInv P g) : Ev sn sx 2 126 [(2, 0), (0, s), (0, t)] (SH b) g (fun yy => Two b yy (1 ≤ s ∧ s ≤ 999 ∧ 0 ≤ t ∧ t ≤ 600 ∧ g 10 14 < 20) (g 10 14 + 1) (am_up (am_up (am_up (am_up g 21 (g 10 14).toNat s) 22 (g 10 14).toNat t) 10 14 (g 10 14 + 1)) 120 12 0) (-1) g) := by
  have hP := hI.ck.2.1
  have h5 := hI.ck.1
  have hr := hI.rg.r10_8 14 rfl
  refine ev_of (K := 1) T126 (by decide) rfl rfl (Nat.le_of_ble_eq_true rfl) ?_
  refine wp_eq (L' := [(2, 0), (0, s), (0, t), (9, 0)]) (st' := []) (g' := g) ?_
  refine wp_n 3 (pc' := 5) (L' := [(2, 0), (0, s), (0, t), (9, 0)]) (st' := [(0, 999), (0, 1), (0, s)]) (g' := g) rfl ?_
  refine wp_cs (as := [(0, s), (0, 1), (0, 999)]) (rest := []) rfl (by decide) rfl (Nat.le_of_ble_eq_true rfl) (e_within (by omega) (by omega) (by omega)) (by decide) (fun r2 h3 => ?_)
  rcases h3 with ⟨rfl, p1⟩ | ⟨rfl, p1⟩
  · refine wp_eq (L' := [(2, 0), (0, s), (0, t), (9, 0)]) (st' := [(0, 1)]) (g' := g) ?_
    refine wp_n 4 (pc' := 16) (L' := [(2, 0), (0, s), (0, t), (9, 0)]) (st' := [(0, 600), (0, 0), (0, t)]) (g' := g) rfl ?_
    refine wp_cs (as := [(0, t), (0, 0), (0, 600)]) (rest := []) rfl (by decide) rfl (Nat.le_of_ble_eq_true rfl) (e_within (by omega) (by omega) (by omega)) (by decide) (fun r5 h6 => ?_)
    rcases h6 with ⟨rfl, p4⟩ | ⟨rfl, p4⟩
    · refine wp_eq (L' := [(2, 0), (0, s), (0, t), (9, 0)]) (st' := [(0, 1)]) (g' := g) ?_
      refine wp_n 5 (pc' := 31) (L' := [(2, 0), (0, s), (0, t), (9, 0)]) (st' := [(0, 20), (0, (g 10 14))]) (g' := g) rfl ?_
      refine wp_ic_lt rfl (fun c7 => ?_) (fun c7 => ?_)
      · refine wp_n 9 (pc' := 53) (L' := [(2, 0), (0, s), (0, t), (0, (g 10 14))]) (st' := [(0, s), (0, (g 10 14)), (2, 21)]) (g' := g) rfl ?_
        refine wp_iast (k := 21) ((g 10 14).toNat) rfl rfl (by omega) (by omega) (by decide) ?_
        refine wp_n 5 (pc' := 63) (L' := [(2, 0), (0, s), (0, t), (0, (g 10 14))]) (st' := [(0, t), (0, (g 10 14)), (2, 22)]) (g' := (am_up g 21 ((g 10 14).toNat) s)) rfl ?_
        refine wp_iast (k := 22) ((g 10 14).toNat) rfl rfl (by omega) (by omega) (by decide) ?_
        refine wp_n 13 (pc' := 85) (L' := [(2, 0), (0, s), (0, t), (0, (g 10 14))]) (st' := [(0, ((g 10 14) + 1))]) (g' := (am_up (am_up (am_up (am_up g 21 ((g 10 14).toNat) s) 22 ((g 10 14).toNat) t) 10 14 ((g 10 14) + 1)) 120 12 0)) rfl ?_
        exact wp_ret rfl rfl rfl (Or.inl ⟨by omega, rfl⟩)
      · refine wp_n 1 (pc' := 35) (L' := [(2, 0), (0, s), (0, t), (9, 0)]) (st' := [(0, (-1))]) (g' := g) rfl ?_
        exact wp_ret rfl rfl rfl (Or.inr ⟨by omega, rfl⟩)
    · refine wp_eq (L' := [(2, 0), (0, s), (0, t), (9, 0)]) (st' := [(0, 0)]) (g' := g) ?_
      refine wp_n 2 (pc' := 35) (L' := [(2, 0), (0, s), (0, t), (9, 0)]) (st' := [(0, (-1))]) (g' := g) rfl ?_
      exact wp_ret rfl rfl rfl (Or.inr ⟨by omega, rfl⟩)
  · refine wp_eq (L' := [(2, 0), (0, s), (0, t), (9, 0)]) (st' := [(0, 0)]) (g' := g) ?_
    refine wp_n 2 (pc' := 35) (L' := [(2, 0), (0, s), (0, t), (9, 0)]) (st' := [(0, (-1))]) (g' := g) rfl ?_
    exact wp_ret rfl rfl rfl (Or.inr ⟨by omega, rfl⟩)
set_option maxHeartbeats 400000 in
set_option maxRecDepth 20000 in
theorem m_seen {sn : Nat} {sx : Nat → Int} {b : Nat} {g : am_G} {c : am_G} {P : Nat} {s t : Int} (h_s : R32 s) (h_t : R32 t) (hI : CInv P c) (hM : MRel c g) : Ev sn sx 2 247 [(2, 127), (0, s), (0, t)] (SH b) g (fun yy => Two b yy (1 ≤ s ∧ s ≤ 999 ∧ 0 ≤ t ∧ t ≤ 600 ∧ c 10 14 < 20) (c 10 14 + 1) (am_up (am_up (am_up g 128 (1580 + 2 * (c 10 14).toNat) s) 128 (1580 + 2 * (c 10 14).toNat + 1) t) 128 4 (c 10 14 + 1)) (-1) g) := by
  have h5 := hI.ck.1
  have hP : g 127 0 = (P : Int) := hM.n.trans hI.ck.2.1
  have hr := hI.rg.r10_8 14 rfl
  refine ev_of (K := 1) T247 (by decide) rfl rfl (Nat.le_of_ble_eq_true rfl) ?_
  refine wp_eq (L' := [(2, 127), (0, s), (0, t)]) (st' := []) (g' := g) ?_
  refine wp_n 3 (pc' := 5) (L' := [(2, 127), (0, s), (0, t)]) (st' := [(0, 999), (0, 1), (0, s)]) (g' := g) rfl ?_
  refine wp_cs (as := [(0, s), (0, 1), (0, 999)]) (rest := []) rfl (by decide) rfl (Nat.le_of_ble_eq_true rfl) (e_isIn (by omega) (by omega) (by omega)) (by decide) (fun r2 h3 => ?_)
  rcases h3 with ⟨rfl, p1⟩ | ⟨rfl, p1⟩
  · refine wp_eq (L' := [(2, 127), (0, s), (0, t)]) (st' := [(0, 1)]) (g' := g) ?_
    refine wp_n 4 (pc' := 16) (L' := [(2, 127), (0, s), (0, t)]) (st' := [(0, 600), (0, 0), (0, t)]) (g' := g) rfl ?_
    refine wp_cs (as := [(0, t), (0, 0), (0, 600)]) (rest := []) rfl (by decide) rfl (Nat.le_of_ble_eq_true rfl) (e_isIn (by omega) (by omega) (by omega)) (by decide) (fun r5 h6 => ?_)
    rcases h6 with ⟨rfl, p4⟩ | ⟨rfl, p4⟩
    · refine wp_eq (L' := [(2, 127), (0, s), (0, t)]) (st' := [(0, 1)]) (g' := g) ?_
      refine wp_n 4 (pc' := 27) (L' := [(2, 127), (0, s), (0, t)]) (st' := [(0, 4), (2, 128)]) (g' := g) rfl ?_
      refine wp_iald (k := 128) (4) rfl rfl (by omega) (by omega) (by decide) ?_
      refine wp_eq (L' := [(2, 127), (0, s), (0, t)]) (st' := [(0, (c 10 14))]) (g' := g) ?_ (by rfl) (by rw [hM.seen]) (by rfl)
      refine wp_n 1 (pc' := 30) (L' := [(2, 127), (0, s), (0, t)]) (st' := [(0, 20), (0, (c 10 14))]) (g' := g) rfl ?_
      refine wp_ic_ne rfl (fun c7 => ?_) (fun c7 => ?_)
      · refine wp_n 7 (pc' := 48) (L' := [(2, 127), (0, s), (0, t)]) (st' := [(0, 4), (2, 128), (0, 2), (0, 1580), (2, 128)]) (g' := g) rfl ?_
        refine wp_iald (k := 128) (4) rfl rfl (by omega) (by omega) (by decide) ?_
        refine wp_eq (L' := [(2, 127), (0, s), (0, t)]) (st' := [(0, (c 10 14)), (0, 2), (0, 1580), (2, 128)]) (g' := g) ?_ (by rfl) (by rw [hM.seen]) (by rfl)
        refine wp_n 3 (pc' := 52) (L' := [(2, 127), (0, s), (0, t)]) (st' := [(0, s), (0, (1580 + (2 * (c 10 14)))), (2, 128)]) (g' := g) rfl ?_
        refine wp_iast (k := 128) ((1580 + 2 * (c 10 14).toNat)) rfl rfl (by omega) (by omega) (by decide) ?_
        refine wp_n 7 (pc' := 66) (L' := [(2, 127), (0, s), (0, t)]) (st' := [(0, 4), (2, 128), (0, 2), (0, 1580), (2, 128)]) (g' := (am_up g 128 ((1580 + 2 * (c 10 14).toNat)) s)) rfl ?_
        refine wp_iald (k := 128) (4) rfl rfl (by omega) (by omega) (by decide) ?_
        refine wp_eq (L' := [(2, 127), (0, s), (0, t)]) (st' := [(0, (c 10 14)), (0, 2), (0, 1580), (2, 128)]) (g' := (am_up g 128 ((1580 + 2 * (c 10 14).toNat)) s)) ?_ (by rfl) (by rw [up_no (by omega), hM.seen]) (by rfl)
        refine wp_n 5 (pc' := 72) (L' := [(2, 127), (0, s), (0, t)]) (st' := [(0, t), (0, ((1580 + (2 * (c 10 14))) + 1)), (2, 128)]) (g' := (am_up g 128 ((1580 + 2 * (c 10 14).toNat)) s)) rfl ?_
        refine wp_iast (k := 128) ((1580 + 2 * (c 10 14).toNat + 1)) rfl rfl (by omega) (by omega) (by decide) ?_
        refine wp_n 4 (pc' := 79) (L' := [(2, 127), (0, s), (0, t)]) (st' := [(0, 4), (2, 128), (0, 4), (2, 128)]) (g' := (am_up (am_up g 128 ((1580 + 2 * (c 10 14).toNat)) s) 128 ((1580 + 2 * (c 10 14).toNat + 1)) t)) rfl ?_
        refine wp_iald (k := 128) (4) rfl rfl (by omega) (by omega) (by decide) ?_
        refine wp_eq (L' := [(2, 127), (0, s), (0, t)]) (st' := [(0, (c 10 14)), (0, 4), (2, 128)]) (g' := (am_up (am_up g 128 ((1580 + 2 * (c 10 14).toNat)) s) 128 ((1580 + 2 * (c 10 14).toNat + 1)) t)) ?_ (by rfl) (by rw [up_no (by omega), up_no (by omega), hM.seen]) (by rfl)
        refine wp_n 2 (pc' := 82) (L' := [(2, 127), (0, s), (0, t)]) (st' := [(0, ((c 10 14) + 1)), (0, 4), (2, 128)]) (g' := (am_up (am_up g 128 ((1580 + 2 * (c 10 14).toNat)) s) 128 ((1580 + 2 * (c 10 14).toNat + 1)) t)) rfl ?_
        refine wp_iast (k := 128) (4) rfl rfl (by omega) (by omega) (by decide) ?_
        refine wp_n 3 (pc' := 88) (L' := [(2, 127), (0, s), (0, t)]) (st' := [(0, 4), (2, 128)]) (g' := (am_up (am_up (am_up g 128 ((1580 + 2 * (c 10 14).toNat)) s) 128 ((1580 + 2 * (c 10 14).toNat + 1)) t) 128 4 ((c 10 14) + 1))) rfl ?_
        refine wp_iald (k := 128) (4) rfl rfl (by omega) (by omega) (by decide) ?_
        refine wp_eq (L' := [(2, 127), (0, s), (0, t)]) (st' := [(0, (c 10 14 + 1))]) (g' := (am_up (am_up (am_up g 128 ((1580 + 2 * (c 10 14).toNat)) s) 128 ((1580 + 2 * (c 10 14).toNat + 1)) t) 128 4 ((c 10 14) + 1))) ?_ (by rfl) (by rw [up_eq]) (by rfl)
        exact wp_ret rfl rfl rfl (Or.inl ⟨by omega, rfl⟩)
      · refine wp_n 1 (pc' := 34) (L' := [(2, 127), (0, s), (0, t)]) (st' := [(0, (-1))]) (g' := g) rfl ?_
        exact wp_ret rfl rfl rfl (Or.inr ⟨by omega, rfl⟩)
    · refine wp_eq (L' := [(2, 127), (0, s), (0, t)]) (st' := [(0, 0)]) (g' := g) ?_
      refine wp_n 2 (pc' := 34) (L' := [(2, 127), (0, s), (0, t)]) (st' := [(0, (-1))]) (g' := g) rfl ?_
      exact wp_ret rfl rfl rfl (Or.inr ⟨by omega, rfl⟩)
  · refine wp_eq (L' := [(2, 127), (0, s), (0, t)]) (st' := [(0, 0)]) (g' := g) ?_
    refine wp_n 2 (pc' := 34) (L' := [(2, 127), (0, s), (0, t)]) (st' := [(0, (-1))]) (g' := g) rfl ?_
    exact wp_ret rfl rfl rfl (Or.inr ⟨by omega, rfl⟩)
def F_seen (P : Nat) (s t : Int) (c c1 : am_G) (v1 : Int) : Prop := ((1 ≤ s ∧ s ≤ 999 ∧ 0 ≤ t ∧ t ≤ 600 ∧ c 10 14 < 20) ∧ v1 = (c 10 14 + 1) ∧ c1 = (am_up (am_up (am_up (am_up c 21 (c 10 14).toNat s) 22 (c 10 14).toNat t) 10 14 (c 10 14 + 1)) 120 12 0)) ∨ (¬ (1 ≤ s ∧ s ≤ 999 ∧ 0 ≤ t ∧ t ≤ 600 ∧ c 10 14 < 20) ∧ v1 = -1 ∧ c1 = c)
set_option maxRecDepth 20000 in
theorem C_seen {sn : Nat} {sx : Nat → Int} {b : Nat} {g : am_G} {P : Nat} {s t : Int} (h_s : R32 s) (h_t : R32 t) (hI : CInv P g) : Ev sn sx 2 126 [(2, 0), (0, s), (0, t)] (SH b) g (CPost P g (F_seen P s t g)) := (e_seen h_s h_t hI).mono fun r h => by
  rcases h with ⟨hD, rfl⟩ | ⟨hD, rfl⟩
  · have h5 := hI.ck.1
    have hr := hI.rg.r10_8 14 rfl
    refine ⟨_, _, b, rfl, ⟨hI.ck.same fun c j q => by (repeat rw [up_no (by omega)]), ((((hI.rg.up (by unfold Rg; omega) (by omega)).up (by unfold Rg; omega) (by omega)).up (by unfold Rg; omega) (by omega)).up (by unfold Rg; omega) (by omega)), hI.rgi.same fun c j q1 q2 => by (repeat rw [up_no (by omega)]), hI.e24.same fun c j q => by (repeat rw [up_no (by omega)]), hI.e24i.same fun c j q => by (repeat rw [up_no (by omega)]), hI.tx.same fun c j q1 q2 => by (repeat rw [up_no (by omega)]), hI.txi.same fun c j q1 q2 => by (repeat rw [up_no (by omega)]), hI.ti.same fun c j q => by (repeat rw [up_no (by omega)]), hI.tap.same fun c j q => by (repeat rw [up_no (by omega)]), hI.cls.same fun c j q1 q2 => by (repeat rw [up_no (by omega)]), hI.wls.same fun c j q1 q2 => by (repeat rw [up_no (by omega)]), hI.caw.same fun c j q => by (repeat rw [up_no (by omega)]), Or.inl up_eq⟩, fun c j q => by (repeat rw [up_no (by omega)]), Or.inl ⟨hD, rfl, rfl⟩⟩
  · exact ⟨_, _, b, rfl, hI, fun _ _ _ => rfl, Or.inr ⟨hD, rfl, rfl⟩⟩
set_option maxRecDepth 20000 in
theorem M_seen {sn : Nat} {sx : Nat → Int} {b : Nat} {g c : am_G} {P : Nat} {s t : Int} (h_s : R32 s) (h_t : R32 t) (hI : CInv P c) (hM : MRel c g) : Ev sn sx 2 247 [(2, 127), (0, s), (0, t)] (SH b) g (MPost b g (F_seen P s t c)) := (m_seen h_s h_t hI hM).mono fun r h => by
  rcases h with ⟨hD, rfl⟩ | ⟨hD, rfl⟩
  · refine ⟨_, _, rfl, fun k j q => by (repeat rw [up_no (by omega)]), fun c1 v1 hE => ?_⟩
    rcases hE with ⟨-, rfl, rfl⟩ | ⟨hn, -, -⟩
    · have h5 := hI.ck.1
      have hr := hI.rg.r10_8 14 rfl
      exact ⟨rfl, ((((hM.up (i := 1580 + 2 * (c 10 14).toNat) (k := 21) (j := (c 10 14).toNat) ((cp_see _ (by omega) (by omega)).trans (by omega)) ((cj_see _ (by omega) (by omega)).trans (by omega)) (by omega) (by omega) (by omega)).up (i := 1580 + 2 * (c 10 14).toNat + 1) (k := 22) (j := (c 10 14).toNat) ((cp_see _ (by omega) (by omega)).trans (by omega)) ((cj_see _ (by omega) (by omega)).trans (by omega)) (by omega) (by omega) (by omega)).up (i := 4) (k := 10) (j := 14) ((cp_i4 _ (by omega) (by omega)).trans (by omega)) ((cj_i4 _ (by omega) (by omega)).trans (by omega)) (by omega) (by omega) (by omega)).c_up (by unfold Co; omega))⟩
    · exact absurd hD hn
  · refine ⟨_, _, rfl, fun k j q => rfl, fun c1 v1 hE => ?_⟩
    rcases hE with ⟨hn, -, -⟩ | ⟨-, rfl, rfl⟩
    · exact absurd hn hD
    · exact ⟨rfl, hM⟩
set_option maxHeartbeats 400000 in
set_option maxRecDepth 20000 in
theorem e_end {sn : Nat} {sx : Nat → Int} {b : Nat} {g : am_G} {P : Nat} {n : Int} (h_n : R32 n) (hI : CInv P g) : Ev sn sx 2 102 [(2, 0), (0, n)] (SH b) g (fun yy => Two b yy (0 ≤ n ∧ n ≤ g 47 1) n (am_up g 47 1 n) (-1) g) := by
  have hP := hI.ck.2.1
  have h5 := hI.ck.1
  have ht := hI.tap.1
  refine ev_of (K := 1) T102 (by decide) rfl rfl (Nat.le_of_ble_eq_true rfl) ?_
  refine wp_eq (L' := [(2, 0), (0, n)]) (st' := []) (g' := g) ?_
  refine wp_n 5 (pc' := 9) (L' := [(2, 0), (0, n)]) (st' := [(0, (g 47 1)), (0, 0), (0, n)]) (g' := g) rfl ?_
  refine wp_cs (as := [(0, n), (0, 0), (0, (g 47 1))]) (rest := []) rfl (by decide) rfl (Nat.le_of_ble_eq_true rfl) (e_within (by omega) (by omega) (by omega)) (by decide) (fun r2 h3 => ?_)
  rcases h3 with ⟨rfl, p1⟩ | ⟨rfl, p1⟩
  · refine wp_eq (L' := [(2, 0), (0, n)]) (st' := [(0, 1)]) (g' := g) ?_
    refine wp_n 6 (pc' := 26) (L' := [(2, 0), (0, n)]) (st' := [(0, n)]) (g' := (am_up g 47 1 n)) rfl ?_
    exact wp_ret rfl rfl rfl (Or.inl ⟨by omega, rfl⟩)
  · refine wp_eq (L' := [(2, 0), (0, n)]) (st' := [(0, 0)]) (g' := g) ?_
    refine wp_n 2 (pc' := 16) (L' := [(2, 0), (0, n)]) (st' := [(0, (-1))]) (g' := g) rfl ?_
    exact wp_ret rfl rfl rfl (Or.inr ⟨by omega, rfl⟩)
set_option maxHeartbeats 400000 in
set_option maxRecDepth 20000 in
theorem m_end {sn : Nat} {sx : Nat → Int} {b : Nat} {g : am_G} {c : am_G} {P : Nat} {n : Int} (h_n : R32 n) (hI : CInv P c) (hM : MRel c g) : Ev sn sx 2 163 [(2, 127), (0, n)] (SH b) g (fun yy => Two b yy (0 ≤ n ∧ n ≤ c 47 1) n (am_up g 127 5 n) (-1) g) := by
  have h5 := hI.ck.1
  have hP : g 127 0 = (P : Int) := hM.n.trans hI.ck.2.1
  have ht := hI.tap.1
  refine ev_of (K := 1) T163 (by decide) rfl rfl (Nat.le_of_ble_eq_true rfl) ?_
  refine wp_eq (L' := [(2, 127), (0, n)]) (st' := []) (g' := g) ?_
  refine wp_n 4 (pc' := 6) (L' := [(2, 127), (0, n)]) (st' := [(0, (g 127 5)), (0, 0), (0, n)]) (g' := g) rfl ?_
  refine wp_eq (L' := [(2, 127), (0, n)]) (st' := [(0, (c 47 1)), (0, 0), (0, n)]) (g' := g) ?_ (by rfl) (by rw [hM.taped]) (by rfl)
  refine wp_cs (as := [(0, n), (0, 0), (0, (c 47 1))]) (rest := []) rfl (by decide) rfl (Nat.le_of_ble_eq_true rfl) (e_isIn (by omega) (by omega) (by omega)) (by decide) (fun r2 h3 => ?_)
  rcases h3 with ⟨rfl, p1⟩ | ⟨rfl, p1⟩
  · refine wp_eq (L' := [(2, 127), (0, n)]) (st' := [(0, 1)]) (g' := g) ?_
    refine wp_n 5 (pc' := 20) (L' := [(2, 127), (0, n)]) (st' := [(0, n)]) (g' := (am_up g 127 5 n)) rfl ?_
    exact wp_ret rfl rfl rfl (Or.inl ⟨by omega, rfl⟩)
  · refine wp_eq (L' := [(2, 127), (0, n)]) (st' := [(0, 0)]) (g' := g) ?_
    refine wp_n 2 (pc' := 13) (L' := [(2, 127), (0, n)]) (st' := [(0, (-1))]) (g' := g) rfl ?_
    exact wp_ret rfl rfl rfl (Or.inr ⟨by omega, rfl⟩)
def F_end (P : Nat) (n : Int) (c c1 : am_G) (v1 : Int) : Prop := ((0 ≤ n ∧ n ≤ c 47 1) ∧ v1 = n ∧ c1 = (am_up c 47 1 n)) ∨ (¬ (0 ≤ n ∧ n ≤ c 47 1) ∧ v1 = -1 ∧ c1 = c)
set_option maxRecDepth 20000 in
theorem C_end {sn : Nat} {sx : Nat → Int} {b : Nat} {g : am_G} {P : Nat} {n : Int} (h_n : R32 n) (hI : CInv P g) : Ev sn sx 2 102 [(2, 0), (0, n)] (SH b) g (CPost P g (F_end P n g)) := (e_end h_n hI).mono fun r h => by
  rcases h with ⟨hD, rfl⟩ | ⟨hD, rfl⟩
  · have h5 := hI.ck.1
    have ht := hI.tap.1
    refine ⟨_, _, b, rfl, ⟨hI.ck.same fun c j q => by (repeat rw [up_no (by omega)]), (hI.rg.up (by unfold Rg; omega) (by omega)), hI.rgi.same fun c j q1 q2 => by (repeat rw [up_no (by omega)]), hI.e24.same fun c j q => by (repeat rw [up_no (by omega)]), hI.e24i.same fun c j q => by (repeat rw [up_no (by omega)]), hI.tx.same fun c j q1 q2 => by (repeat rw [up_no (by omega)]), hI.txi.same fun c j q1 q2 => by (repeat rw [up_no (by omega)]), hI.ti.same fun c j q => by (repeat rw [up_no (by omega)]), ⟨by rw [up_eq]; omega, fun j hj => by rw [up_ne (by decide)]; exact hI.tap.2 j hj⟩, hI.cls.same fun c j q1 q2 => by (repeat rw [up_no (by omega)]), hI.wls.same fun c j q1 q2 => by (repeat rw [up_no (by omega)]), hI.caw.same fun c j q => by (repeat rw [up_no (by omega)]), hI.cal.same fun c j q => by (repeat rw [up_no (by omega)])⟩, fun c j q => by (repeat rw [up_no (by omega)]), Or.inl ⟨hD, rfl, rfl⟩⟩
  · exact ⟨_, _, b, rfl, hI, fun _ _ _ => rfl, Or.inr ⟨hD, rfl, rfl⟩⟩
set_option maxRecDepth 20000 in
theorem M_end {sn : Nat} {sx : Nat → Int} {b : Nat} {g c : am_G} {P : Nat} {n : Int} (h_n : R32 n) (hI : CInv P c) (hM : MRel c g) : Ev sn sx 2 163 [(2, 127), (0, n)] (SH b) g (MPost b g (F_end P n c)) := (m_end h_n hI hM).mono fun r h => by
  rcases h with ⟨hD, rfl⟩ | ⟨hD, rfl⟩
  · refine ⟨_, _, rfl, fun k j q => by (repeat rw [up_no (by omega)]), fun c1 v1 hE => ?_⟩
    rcases hE with ⟨-, rfl, rfl⟩ | ⟨hn, -, -⟩
    · have h5 := hI.ck.1
      have ht := hI.tap.1
      exact ⟨rfl, hM.up_len⟩
    · exact absurd hD hn
  · refine ⟨_, _, rfl, fun k j q => rfl, fun c1 v1 hE => ?_⟩
    rcases hE with ⟨hn, -, -⟩ | ⟨-, rfl, rfl⟩
    · exact absurd hn hD
    · exact ⟨rfl, hM⟩
set_option maxHeartbeats 400000 in
set_option maxRecDepth 20000 in
theorem e_fault {sn : Nat} {sx : Nat → Int} {b : Nat} {g : am_G} {P : Nat} {w : Int} (h_w : R32 w) (hI : CInv P g) : Ev sn sx 1 104 [(2, 0), (0, w)] (SH b) g (fun r => r = (some (0, (if w = 0 then g 47 2 else if w = 1 then g 47 3 else -1)), SH b, g)) := by
  have hP := hI.ck.2.1
  have h5 := hI.ck.1
  refine ev_of (K := 0) T104 (by decide) rfl rfl (Nat.le_of_ble_eq_true rfl) ?_
  refine wp_eq (L' := [(2, 0), (0, w)]) (st' := []) (g' := g) ?_
  refine wp_n 1 (pc' := 1) (L' := [(2, 0), (0, w)]) (st' := [(0, w)]) (g' := g) rfl ?_
  refine wp_if_ne rfl (fun c1 => ?_) (fun c1 => ?_)
  · refine wp_n 2 (pc' := 14) (L' := [(2, 0), (0, w)]) (st' := [(0, 1), (0, w)]) (g' := g) rfl ?_
    refine wp_ic_ne rfl (fun c2 => ?_) (fun c2 => ?_)
    · refine wp_n 1 (pc' := 28) (L' := [(2, 0), (0, w)]) (st' := [(0, (-1))]) (g' := g) rfl ?_
      exact wp_ret rfl rfl rfl (by (repeat first | rw [if_pos (by omega)] | rw [if_neg (by omega)]); try rfl)
    · refine wp_n 4 (pc' := 28) (L' := [(2, 0), (0, w)]) (st' := [(0, (g 47 3))]) (g' := g) rfl ?_
      exact wp_ret rfl rfl rfl (by (repeat first | rw [if_pos (by omega)] | rw [if_neg (by omega)]); try rfl)
  · refine wp_n 3 (pc' := 11) (L' := [(2, 0), (0, w)]) (st' := [(0, (g 47 2))]) (g' := g) rfl ?_
    exact wp_ret rfl rfl rfl (by (repeat first | rw [if_pos (by omega)] | rw [if_neg (by omega)]); try rfl)
set_option maxHeartbeats 400000 in
set_option maxRecDepth 20000 in
theorem m_fault {sn : Nat} {sx : Nat → Int} {b : Nat} {g : am_G} {c : am_G} {P : Nat} {w : Int} (h_w : R32 w) (hI : CInv P c) (hM : MRel c g) : Ev sn sx 1 187 [(2, 127), (0, w)] (SH b) g (fun r => r = (some (0, (if w = 0 then c 47 2 else if w = 1 then c 47 3 else -1)), SH b, g)) := by
  have h5 := hI.ck.1
  have hP : g 127 0 = (P : Int) := hM.n.trans hI.ck.2.1
  refine ev_of (K := 0) T187 (by decide) rfl rfl (Nat.le_of_ble_eq_true rfl) ?_
  refine wp_eq (L' := [(2, 127), (0, w)]) (st' := []) (g' := g) ?_
  refine wp_n 1 (pc' := 1) (L' := [(2, 127), (0, w)]) (st' := [(0, w)]) (g' := g) rfl ?_
  refine wp_if_ne rfl (fun c1 => ?_) (fun c1 => ?_)
  · refine wp_n 2 (pc' := 13) (L' := [(2, 127), (0, w)]) (st' := [(0, 1), (0, w)]) (g' := g) rfl ?_
    refine wp_ic_ne rfl (fun c2 => ?_) (fun c2 => ?_)
    · refine wp_n 1 (pc' := 24) (L' := [(2, 127), (0, w)]) (st' := [(0, (-1))]) (g' := g) rfl ?_
      exact wp_ret rfl rfl rfl (by (repeat first | rw [if_pos (by omega)] | rw [if_neg (by omega)]); try rfl)
    · refine wp_n 2 (pc' := 20) (L' := [(2, 127), (0, w)]) (st' := [(0, (g 127 8))]) (g' := g) rfl ?_
      refine wp_eq (L' := [(2, 127), (0, w)]) (st' := [(0, (c 47 3))]) (g' := g) ?_ (by rfl) (by rw [hM.place]) (by rfl)
      refine wp_n 1 (pc' := 24) (L' := [(2, 127), (0, w)]) (st' := [(0, (c 47 3))]) (g' := g) rfl ?_
      exact wp_ret rfl rfl rfl (by (repeat first | rw [if_pos (by omega)] | rw [if_neg (by omega)]); try rfl)
  · refine wp_n 2 (pc' := 8) (L' := [(2, 127), (0, w)]) (st' := [(0, (g 127 7))]) (g' := g) rfl ?_
    refine wp_eq (L' := [(2, 127), (0, w)]) (st' := [(0, (c 47 2))]) (g' := g) ?_ (by rfl) (by rw [hM.fault]) (by rfl)
    refine wp_n 1 (pc' := 24) (L' := [(2, 127), (0, w)]) (st' := [(0, (c 47 2))]) (g' := g) rfl ?_
    exact wp_ret rfl rfl rfl (by (repeat first | rw [if_pos (by omega)] | rw [if_neg (by omega)]); try rfl)
def F_fault (P : Nat) (w : Int) (c c1 : am_G) (v1 : Int) : Prop := v1 = (if w = 0 then c 47 2 else if w = 1 then c 47 3 else -1) ∧ c1 = c
theorem C_fault {sn : Nat} {sx : Nat → Int} {b : Nat} {g : am_G} {P : Nat} {w : Int} (h_w : R32 w) (hI : CInv P g) : Ev sn sx 1 104 [(2, 0), (0, w)] (SH b) g (CPost P g (F_fault P w g)) := (e_fault h_w hI).mono fun r h => by
  subst h
  exact ⟨_, _, b, rfl, hI, fun _ _ _ => rfl, rfl, rfl⟩
theorem M_fault {sn : Nat} {sx : Nat → Int} {b : Nat} {g c : am_G} {P : Nat} {w : Int} (h_w : R32 w) (hI : CInv P c) (hM : MRel c g) : Ev sn sx 1 187 [(2, 127), (0, w)] (SH b) g (MPost b g (F_fault P w c)) := (m_fault h_w hI hM).mono fun r h => by
  subst h
  refine ⟨_, _, rfl, fun _ _ _ => rfl, fun c1 v1 hE => ?_⟩
  obtain ⟨rfl, rfl⟩ := hE
  exact ⟨rfl, hM⟩
set_option maxHeartbeats 400000 in
set_option maxRecDepth 20000 in
theorem e_leans {sn : Nat} {sx : Nat → Int} {b : Nat} {g : am_G} {P w : Nat} (hw : w < 4) (h1 : g 1 0 = (P : Int)) (h5 : 5 ≤ P ∧ P ≤ 37) : Ev sn sx 1 82 [(2, 1), (0, ((w : Nat) : Int))] (SH b) g (fun r => r = (some (0, lsum (g 3) w P), SH b, g)) := by
  refine ev_of (K := 0) T82 (by decide) rfl rfl (Nat.le_of_ble_eq_true rfl) ?_
  refine wp_eq (L' := [(2, 1), (0, ((w : Nat) : Int)), (9, 0), (9, 0)]) (st' := []) (g' := g) ?_
  refine wp_n 4 (pc' := 4) (L' := [(2, 1), (0, ((w : Nat) : Int)), (0, 0), (0, 0)]) (st' := []) (g' := g) rfl ?_
  have L4 : ∀ (lf : Nat) (i : Nat), P - i < lf → (i ≤ P) → Wp sn sx 0 T82 4 [(2, 1), (0, ((w : Nat) : Int)), (0, (lsum (g 3) w i)), (0, ((i : Nat) : Int))] [] (SH b) g (fun r => r = (some (0, lsum (g 3) w P), SH b, g)) := by
    intro lf
    induction lf with
    | zero => intro i hlf; exact absurd hlf (Nat.not_lt_zero _)
    | succ lf ih4 =>
      intro i hlf hi
      refine wp_n 3 (pc' := 9) (L' := [(2, 1), (0, ((w : Nat) : Int)), (0, (lsum (g 3) w i)), (0, ((i : Nat) : Int))]) (st' := [(0, (g 1 0)), (0, ((i : Nat) : Int))]) (g' := g) rfl ?_
      refine wp_eq (L' := [(2, 1), (0, ((w : Nat) : Int)), (0, (lsum (g 3) w i)), (0, ((i : Nat) : Int))]) (st' := [(0, ((P : Nat) : Int)), (0, ((i : Nat) : Int))]) (g' := g) ?_ (by rfl) (by rw [h1]) (by rfl)
      refine wp_ic_ge rfl (fun c1 => ?_) (fun c1 => ?_)
      · have hk2 : i = P := by omega
        refine wp_n 1 (pc' := 33) (L' := [(2, 1), (0, ((w : Nat) : Int)), (0, (lsum (g 3) w i)), (0, ((i : Nat) : Int))]) (st' := [(0, (lsum (g 3) w i))]) (g' := g) rfl ?_
        exact wp_ret rfl rfl rfl (by rw [hk2])
      · refine wp_n 8 (pc' := 23) (L' := [(2, 1), (0, ((w : Nat) : Int)), (0, (lsum (g 3) w i)), (0, ((i : Nat) : Int))]) (st' := [(0, ((((w : Nat) : Int) * 37) + ((i : Nat) : Int))), (2, 3), (0, (lsum (g 3) w i))]) (g' := g) rfl ?_
        refine wp_iald (k := 3) ((37 * w + i)) rfl rfl (by omega) (by omega) (by decide) ?_
        refine wp_n 4 (pc' := 4) (L' := [(2, 1), (0, ((w : Nat) : Int)), (0, ((lsum (g 3) w i) + (g 3 (37 * w + i)))), (0, (((i : Nat) : Int) + 1))]) (st' := []) (g' := g) rfl ?_
        refine wp_eq (ih4 (i + 1) ?_ ?_) (by first | rfl | (simp; done) | (simp; omega)) (by rfl) (by rfl)
        · omega
        · omega
  refine wp_eq (L4 (_ + 1) (0) (Nat.lt_succ_self _) ?_) (by first | rfl | (simp; done) | (simp; omega)) (by rfl) (by rfl)
  · exact Nat.zero_le _
set_option maxHeartbeats 400000 in
set_option maxRecDepth 20000 in
theorem m_leans {sn : Nat} {sx : Nat → Int} {b : Nat} {g : am_G} {c : am_G} {P w : Nat} (hw : w < 4) (hP : g 127 0 = (P : Int)) (h5 : 5 ≤ P ∧ P ≤ 37) (hM : MRel c g) : Ev sn sx 1 229 [(2, 127), (0, ((w : Nat) : Int))] (SH b) g (fun r => r = (some (0, lsum (c 3) w P), SH b, g)) := by
  refine ev_of (K := 0) T229 (by decide) rfl rfl (Nat.le_of_ble_eq_true rfl) ?_
  refine wp_eq (L' := [(2, 127), (0, ((w : Nat) : Int)), (9, 0), (9, 0)]) (st' := []) (g' := g) ?_
  refine wp_n 4 (pc' := 4) (L' := [(2, 127), (0, ((w : Nat) : Int)), (0, 0), (0, 0)]) (st' := []) (g' := g) rfl ?_
  have L4 : ∀ (lf : Nat) (i : Nat), P - i < lf → (i ≤ P) → Wp sn sx 0 T229 4 [(2, 127), (0, ((w : Nat) : Int)), (0, (lsum (c 3) w i)), (0, ((i : Nat) : Int))] [] (SH b) g (fun r => r = (some (0, lsum (c 3) w P), SH b, g)) := by
    intro lf
    induction lf with
    | zero => intro i hlf; exact absurd hlf (Nat.not_lt_zero _)
    | succ lf ih4 =>
      intro i hlf hi
      refine wp_n 3 (pc' := 9) (L' := [(2, 127), (0, ((w : Nat) : Int)), (0, (lsum (c 3) w i)), (0, ((i : Nat) : Int))]) (st' := [(0, (g 127 0)), (0, ((i : Nat) : Int))]) (g' := g) rfl ?_
      refine wp_eq (L' := [(2, 127), (0, ((w : Nat) : Int)), (0, (lsum (c 3) w i)), (0, ((i : Nat) : Int))]) (st' := [(0, ((P : Nat) : Int)), (0, ((i : Nat) : Int))]) (g' := g) ?_ (by rfl) (by rw [hP]) (by rfl)
      refine wp_ic_ge rfl (fun c1 => ?_) (fun c1 => ?_)
      · have hk2 : i = P := by omega
        refine wp_n 1 (pc' := 37) (L' := [(2, 127), (0, ((w : Nat) : Int)), (0, (lsum (c 3) w i)), (0, ((i : Nat) : Int))]) (st' := [(0, (lsum (c 3) w i))]) (g' := g) rfl ?_
        exact wp_ret rfl rfl rfl (by rw [hk2])
      · refine wp_n 10 (pc' := 27) (L' := [(2, 127), (0, ((w : Nat) : Int)), (0, (lsum (c 3) w i)), (0, ((i : Nat) : Int))]) (st' := [(0, ((170 + (37 * ((w : Nat) : Int))) + ((i : Nat) : Int))), (2, 128), (0, (lsum (c 3) w i))]) (g' := g) rfl ?_
        refine wp_iald (k := 128) ((170 + (37 * w + i))) rfl rfl (by omega) (by omega) (by decide) ?_
        refine wp_eq (L' := [(2, 127), (0, ((w : Nat) : Int)), (0, (lsum (c 3) w i)), (0, ((i : Nat) : Int))]) (st' := [(0, (c 3 (37 * w + i))), (0, (lsum (c 3) w i))]) (g' := g) ?_ (by rfl) (by rw [hM.lean _ (by omega)]) (by rfl)
        refine wp_n 4 (pc' := 4) (L' := [(2, 127), (0, ((w : Nat) : Int)), (0, ((lsum (c 3) w i) + (c 3 (37 * w + i)))), (0, (((i : Nat) : Int) + 1))]) (st' := []) (g' := g) rfl ?_
        refine wp_eq (ih4 (i + 1) ?_ ?_) (by first | rfl | (simp; done) | (simp; omega)) (by rfl) (by rfl)
        · omega
        · omega
  refine wp_eq (L4 (_ + 1) (0) (Nat.lt_succ_self _) ?_) (by first | rfl | (simp; done) | (simp; omega)) (by rfl) (by rfl)
  · exact Nat.zero_le _
set_option maxHeartbeats 400000 in
set_option maxRecDepth 20000 in
theorem e_about {sn : Nat} {sx : Nat → Int} {b : Nat} {g : am_G} {P : Nat} {w : Int} (h_w : R32 w) (hI : CInv P g) : Ev sn sx 2 130 [(2, 0), (0, w)] (SH b) g (fun r => r = (some (0, (if 10 ≤ w ∧ w ≤ 13 then g 17 (w - 10).toNat else if 20 ≤ w ∧ w ≤ 23 then lsum (g 3) (w - 20).toNat P else if w = 0 then (P : Int) else if w = 1 then g 6 3 else if w = 2 then g 6 4 else if w = 3 then g 10 4 else if w = 4 then g 10 11 else if w = 5 then g 10 14 else if w = 6 then g 47 1 else if w = 7 then g 10 16 else -1)), SH b, g)) := by
  have hP := hI.ck.2.1
  have h5 := hI.ck.1
  refine ev_of (K := 1) T130 (by decide) rfl rfl (Nat.le_of_ble_eq_true rfl) ?_
  refine wp_eq (L' := [(2, 0), (0, w)]) (st' := []) (g' := g) ?_
  refine wp_n 3 (pc' := 5) (L' := [(2, 0), (0, w)]) (st' := [(0, 13), (0, 10), (0, w)]) (g' := g) rfl ?_
  refine wp_cs (as := [(0, w), (0, 10), (0, 13)]) (rest := []) rfl (by decide) rfl (Nat.le_of_ble_eq_true rfl) (e_within (by omega) (by omega) (by omega)) (by decide) (fun r2 h3 => ?_)
  rcases h3 with ⟨rfl, p1⟩ | ⟨rfl, p1⟩
  · refine wp_eq (L' := [(2, 0), (0, w)]) (st' := [(0, 1)]) (g' := g) ?_
    refine wp_n 7 (pc' := 22) (L' := [(2, 0), (0, w)]) (st' := [(0, (w - 10)), (2, 17)]) (g' := g) rfl ?_
    refine wp_iald (k := 17) ((w - 10).toNat) rfl rfl (by omega) (by omega) (by decide) ?_
    exact wp_ret rfl rfl rfl (by (repeat first | rw [if_pos (by omega)] | rw [if_neg (by omega)]); try rfl)
  · refine wp_eq (L' := [(2, 0), (0, w)]) (st' := [(0, 0)]) (g' := g) ?_
    refine wp_n 4 (pc' := 29) (L' := [(2, 0), (0, w)]) (st' := [(0, 23), (0, 20), (0, w)]) (g' := g) rfl ?_
    refine wp_cs (as := [(0, w), (0, 20), (0, 23)]) (rest := []) rfl (by decide) rfl (Nat.le_of_ble_eq_true rfl) (e_within (by omega) (by omega) (by omega)) (by decide) (fun r5 h6 => ?_)
    rcases h6 with ⟨rfl, p4⟩ | ⟨rfl, p4⟩
    · refine wp_eq (L' := [(2, 0), (0, w)]) (st' := [(0, 1)]) (g' := g) ?_
      refine wp_n 6 (pc' := 43) (L' := [(2, 0), (0, w)]) (st' := [(0, (w - 20)), (2, 1)]) (g' := g) rfl ?_
      refine wp_eq (L' := [(2, 0), (0, w)]) (st' := [(0, (((w - 20).toNat : Nat) : Int)), (2, 1)]) (g' := g) ?_ (by rfl) (by rw [Int.toNat_of_nonneg (by omega)]) (by rfl)
      refine wp_cv (as := [(2, 1), (0, (((w - 20).toNat : Nat) : Int))]) (rest := []) rfl rfl rfl (Nat.le_of_ble_eq_true rfl) rfl (e_leans (w := ((w - 20).toNat)) (by omega) hI.ck.2.2.1 (by omega)) (by decide) (fun r7 h8 => ?_)
      obtain rfl := h8
      refine wp_eq (L' := [(2, 0), (0, w)]) (st' := [(0, (lsum (g 3) ((w - 20).toNat) P))]) (g' := g) ?_
      exact wp_ret rfl rfl rfl (by (repeat first | rw [if_pos (by omega)] | rw [if_neg (by omega)]); try rfl)
    · refine wp_eq (L' := [(2, 0), (0, w)]) (st' := [(0, 0)]) (g' := g) ?_
      refine wp_n 2 (pc' := 48) (L' := [(2, 0), (0, w)]) (st' := [(0, w)]) (g' := g) rfl ?_
      rcases (show w = 0 ∨ w = 1 ∨ w = 2 ∨ w = 3 ∨ w = 4 ∨ w = 5 ∨ w = 6 ∨ w = 7 ∨ (w < 0 ∨ 7 < w) by omega) with e9 | e9 | e9 | e9 | e9 | e9 | e9 | e9 | e9
      · refine wp_eq (L' := [(2, 0), (0, w)]) (st' := [(0, 0)]) (g' := g) ?_ (by rfl) (by rw [e9]) (by rfl)
        refine wp_n 3 (pc' := 100) (L' := [(2, 0), (0, w)]) (st' := [(0, (g 0 0))]) (g' := g) rfl ?_
        refine wp_eq (L' := [(2, 0), (0, w)]) (st' := [(0, ((P : Nat) : Int))]) (g' := g) ?_ (by rfl) (by rw [hP]) (by rfl)
        exact wp_ret rfl rfl rfl (by (repeat first | rw [if_pos (by omega)] | rw [if_neg (by omega)]); try rfl)
      · refine wp_eq (L' := [(2, 0), (0, w)]) (st' := [(0, 1)]) (g' := g) ?_ (by rfl) (by rw [e9]) (by rfl)
        refine wp_n 4 (pc' := 108) (L' := [(2, 0), (0, w)]) (st' := [(0, (g 6 3))]) (g' := g) rfl ?_
        exact wp_ret rfl rfl rfl (by (repeat first | rw [if_pos (by omega)] | rw [if_neg (by omega)]); try rfl)
      · refine wp_eq (L' := [(2, 0), (0, w)]) (st' := [(0, 2)]) (g' := g) ?_ (by rfl) (by rw [e9]) (by rfl)
        refine wp_n 4 (pc' := 116) (L' := [(2, 0), (0, w)]) (st' := [(0, (g 6 4))]) (g' := g) rfl ?_
        exact wp_ret rfl rfl rfl (by (repeat first | rw [if_pos (by omega)] | rw [if_neg (by omega)]); try rfl)
      · refine wp_eq (L' := [(2, 0), (0, w)]) (st' := [(0, 3)]) (g' := g) ?_ (by rfl) (by rw [e9]) (by rfl)
        refine wp_n 4 (pc' := 124) (L' := [(2, 0), (0, w)]) (st' := [(0, (g 10 4))]) (g' := g) rfl ?_
        exact wp_ret rfl rfl rfl (by (repeat first | rw [if_pos (by omega)] | rw [if_neg (by omega)]); try rfl)
      · refine wp_eq (L' := [(2, 0), (0, w)]) (st' := [(0, 4)]) (g' := g) ?_ (by rfl) (by rw [e9]) (by rfl)
        refine wp_n 4 (pc' := 132) (L' := [(2, 0), (0, w)]) (st' := [(0, (g 10 11))]) (g' := g) rfl ?_
        exact wp_ret rfl rfl rfl (by (repeat first | rw [if_pos (by omega)] | rw [if_neg (by omega)]); try rfl)
      · refine wp_eq (L' := [(2, 0), (0, w)]) (st' := [(0, 5)]) (g' := g) ?_ (by rfl) (by rw [e9]) (by rfl)
        refine wp_n 4 (pc' := 140) (L' := [(2, 0), (0, w)]) (st' := [(0, (g 10 14))]) (g' := g) rfl ?_
        exact wp_ret rfl rfl rfl (by (repeat first | rw [if_pos (by omega)] | rw [if_neg (by omega)]); try rfl)
      · refine wp_eq (L' := [(2, 0), (0, w)]) (st' := [(0, 6)]) (g' := g) ?_ (by rfl) (by rw [e9]) (by rfl)
        refine wp_n 4 (pc' := 148) (L' := [(2, 0), (0, w)]) (st' := [(0, (g 47 1))]) (g' := g) rfl ?_
        exact wp_ret rfl rfl rfl (by (repeat first | rw [if_pos (by omega)] | rw [if_neg (by omega)]); try rfl)
      · refine wp_eq (L' := [(2, 0), (0, w)]) (st' := [(0, 7)]) (g' := g) ?_ (by rfl) (by rw [e9]) (by rfl)
        refine wp_n 4 (pc' := 156) (L' := [(2, 0), (0, w)]) (st' := [(0, (g 10 16))]) (g' := g) rfl ?_
        exact wp_ret rfl rfl rfl (by (repeat first | rw [if_pos (by omega)] | rw [if_neg (by omega)]); try rfl)
      · refine wp_swd (a' := 157) rfl (by omega) e9 rfl ?_
        refine wp_n 1 (pc' := 158) (L' := [(2, 0), (0, w)]) (st' := [(0, (-1))]) (g' := g) rfl ?_
        exact wp_ret rfl rfl rfl (by (repeat first | rw [if_pos (by omega)] | rw [if_neg (by omega)]); try rfl)
set_option maxHeartbeats 400000 in
set_option maxRecDepth 20000 in
theorem m_about {sn : Nat} {sx : Nat → Int} {b : Nat} {g : am_G} {c : am_G} {P : Nat} {w : Int} (h_w : R32 w) (hI : CInv P c) (hM : MRel c g) : Ev sn sx 2 251 [(2, 127), (0, w)] (SH b) g (fun r => r = (some (0, (if 10 ≤ w ∧ w ≤ 13 then c 17 (w - 10).toNat else if 20 ≤ w ∧ w ≤ 23 then lsum (c 3) (w - 20).toNat P else if w = 0 then (P : Int) else if w = 1 then c 6 3 else if w = 2 then c 6 4 else if w = 3 then c 10 4 else if w = 4 then c 10 11 else if w = 5 then c 10 14 else if w = 6 then c 47 1 else if w = 7 then c 10 16 else -1)), SH b, g)) := by
  have h5 := hI.ck.1
  have hP : g 127 0 = (P : Int) := hM.n.trans hI.ck.2.1
  refine ev_of (K := 1) T251 (by decide) rfl rfl (Nat.le_of_ble_eq_true rfl) ?_
  refine wp_eq (L' := [(2, 127), (0, w)]) (st' := []) (g' := g) ?_
  refine wp_n 3 (pc' := 5) (L' := [(2, 127), (0, w)]) (st' := [(0, 13), (0, 10), (0, w)]) (g' := g) rfl ?_
  refine wp_cs (as := [(0, w), (0, 10), (0, 13)]) (rest := []) rfl (by decide) rfl (Nat.le_of_ble_eq_true rfl) (e_isIn (by omega) (by omega) (by omega)) (by decide) (fun r2 h3 => ?_)
  rcases h3 with ⟨rfl, p1⟩ | ⟨rfl, p1⟩
  · refine wp_eq (L' := [(2, 127), (0, w)]) (st' := [(0, 1)]) (g' := g) ?_
    refine wp_n 8 (pc' := 23) (L' := [(2, 127), (0, w)]) (st' := [(0, ((455 + w) - 10)), (2, 128)]) (g' := g) rfl ?_
    refine wp_iald (k := 128) ((455 + (w - 10).toNat)) rfl rfl (by omega) (by omega) (by decide) ?_
    refine wp_eq (L' := [(2, 127), (0, w)]) (st' := [(0, (c 17 (w - 10).toNat))]) (g' := g) ?_ (by rfl) (by rw [hM.many _ (by omega)]) (by rfl)
    exact wp_ret rfl rfl rfl (by (repeat first | rw [if_pos (by omega)] | rw [if_neg (by omega)]); try rfl)
  · refine wp_eq (L' := [(2, 127), (0, w)]) (st' := [(0, 0)]) (g' := g) ?_
    refine wp_n 4 (pc' := 30) (L' := [(2, 127), (0, w)]) (st' := [(0, 23), (0, 20), (0, w)]) (g' := g) rfl ?_
    refine wp_cs (as := [(0, w), (0, 20), (0, 23)]) (rest := []) rfl (by decide) rfl (Nat.le_of_ble_eq_true rfl) (e_isIn (by omega) (by omega) (by omega)) (by decide) (fun r5 h6 => ?_)
    rcases h6 with ⟨rfl, p4⟩ | ⟨rfl, p4⟩
    · refine wp_eq (L' := [(2, 127), (0, w)]) (st' := [(0, 1)]) (g' := g) ?_
      refine wp_n 5 (pc' := 41) (L' := [(2, 127), (0, w)]) (st' := [(0, (w - 20)), (2, 127)]) (g' := g) rfl ?_
      refine wp_eq (L' := [(2, 127), (0, w)]) (st' := [(0, (((w - 20).toNat : Nat) : Int)), (2, 127)]) (g' := g) ?_ (by rfl) (by rw [Int.toNat_of_nonneg (by omega)]) (by rfl)
      refine wp_cv (as := [(2, 127), (0, (((w - 20).toNat : Nat) : Int))]) (rest := []) rfl rfl rfl (Nat.le_of_ble_eq_true rfl) rfl (m_leans (c := c) (w := ((w - 20).toNat)) (by omega) (by assumption) (by omega) hM) (by decide) (fun r7 h8 => ?_)
      obtain rfl := h8
      refine wp_eq (L' := [(2, 127), (0, w)]) (st' := [(0, (lsum (c 3) ((w - 20).toNat) P))]) (g' := g) ?_
      exact wp_ret rfl rfl rfl (by (repeat first | rw [if_pos (by omega)] | rw [if_neg (by omega)]); try rfl)
    · refine wp_eq (L' := [(2, 127), (0, w)]) (st' := [(0, 0)]) (g' := g) ?_
      refine wp_n 2 (pc' := 46) (L' := [(2, 127), (0, w)]) (st' := [(0, w)]) (g' := g) rfl ?_
      rcases (show w = 0 ∨ w = 1 ∨ w = 2 ∨ w = 3 ∨ w = 4 ∨ w = 5 ∨ w = 6 ∨ w = 7 ∨ (w < 0 ∨ 7 < w) by omega) with e9 | e9 | e9 | e9 | e9 | e9 | e9 | e9 | e9
      · refine wp_eq (L' := [(2, 127), (0, w)]) (st' := [(0, 0)]) (g' := g) ?_ (by rfl) (by rw [e9]) (by rfl)
        refine wp_n 3 (pc' := 96) (L' := [(2, 127), (0, w)]) (st' := [(0, (g 127 0))]) (g' := g) rfl ?_
        refine wp_eq (L' := [(2, 127), (0, w)]) (st' := [(0, ((P : Nat) : Int))]) (g' := g) ?_ (by rfl) (by rw [hP]) (by rfl)
        exact wp_ret rfl rfl rfl (by (repeat first | rw [if_pos (by omega)] | rw [if_neg (by omega)]); try rfl)
      · refine wp_eq (L' := [(2, 127), (0, w)]) (st' := [(0, 1)]) (g' := g) ?_ (by rfl) (by rw [e9]) (by rfl)
        refine wp_n 4 (pc' := 102) (L' := [(2, 127), (0, w)]) (st' := [(0, 0), (2, 128)]) (g' := g) rfl ?_
        refine wp_iald (k := 128) (0) rfl rfl (by omega) (by omega) (by decide) ?_
        refine wp_eq (L' := [(2, 127), (0, w)]) (st' := [(0, (c 6 3))]) (g' := g) ?_ (by rfl) (by rw [hM.texts]) (by rfl)
        exact wp_ret rfl rfl rfl (by (repeat first | rw [if_pos (by omega)] | rw [if_neg (by omega)]); try rfl)
      · refine wp_eq (L' := [(2, 127), (0, w)]) (st' := [(0, 2)]) (g' := g) ?_ (by rfl) (by rw [e9]) (by rfl)
        refine wp_n 4 (pc' := 109) (L' := [(2, 127), (0, w)]) (st' := [(0, 1), (2, 128)]) (g' := g) rfl ?_
        refine wp_iald (k := 128) (1) rfl rfl (by omega) (by omega) (by decide) ?_
        refine wp_eq (L' := [(2, 127), (0, w)]) (st' := [(0, (c 6 4))]) (g' := g) ?_ (by rfl) (by rw [hM.law]) (by rfl)
        exact wp_ret rfl rfl rfl (by (repeat first | rw [if_pos (by omega)] | rw [if_neg (by omega)]); try rfl)
      · refine wp_eq (L' := [(2, 127), (0, w)]) (st' := [(0, 3)]) (g' := g) ?_ (by rfl) (by rw [e9]) (by rfl)
        refine wp_n 4 (pc' := 116) (L' := [(2, 127), (0, w)]) (st' := [(0, 2), (2, 128)]) (g' := g) rfl ?_
        refine wp_iald (k := 128) (2) rfl rfl (by omega) (by omega) (by decide) ?_
        refine wp_eq (L' := [(2, 127), (0, w)]) (st' := [(0, (c 10 4))]) (g' := g) ?_ (by rfl) (by rw [hM.written]) (by rfl)
        exact wp_ret rfl rfl rfl (by (repeat first | rw [if_pos (by omega)] | rw [if_neg (by omega)]); try rfl)
      · refine wp_eq (L' := [(2, 127), (0, w)]) (st' := [(0, 4)]) (g' := g) ?_ (by rfl) (by rw [e9]) (by rfl)
        refine wp_n 4 (pc' := 123) (L' := [(2, 127), (0, w)]) (st' := [(0, 3), (2, 128)]) (g' := g) rfl ?_
        refine wp_iald (k := 128) (3) rfl rfl (by omega) (by omega) (by decide) ?_
        refine wp_eq (L' := [(2, 127), (0, w)]) (st' := [(0, (c 10 11))]) (g' := g) ?_ (by rfl) (by rw [hM.bets]) (by rfl)
        exact wp_ret rfl rfl rfl (by (repeat first | rw [if_pos (by omega)] | rw [if_neg (by omega)]); try rfl)
      · refine wp_eq (L' := [(2, 127), (0, w)]) (st' := [(0, 5)]) (g' := g) ?_ (by rfl) (by rw [e9]) (by rfl)
        refine wp_n 4 (pc' := 130) (L' := [(2, 127), (0, w)]) (st' := [(0, 4), (2, 128)]) (g' := g) rfl ?_
        refine wp_iald (k := 128) (4) rfl rfl (by omega) (by omega) (by decide) ?_
        refine wp_eq (L' := [(2, 127), (0, w)]) (st' := [(0, (c 10 14))]) (g' := g) ?_ (by rfl) (by rw [hM.seen]) (by rfl)
        exact wp_ret rfl rfl rfl (by (repeat first | rw [if_pos (by omega)] | rw [if_neg (by omega)]); try rfl)
      · refine wp_eq (L' := [(2, 127), (0, w)]) (st' := [(0, 6)]) (g' := g) ?_ (by rfl) (by rw [e9]) (by rfl)
        refine wp_n 3 (pc' := 136) (L' := [(2, 127), (0, w)]) (st' := [(0, (g 127 5))]) (g' := g) rfl ?_
        refine wp_eq (L' := [(2, 127), (0, w)]) (st' := [(0, (c 47 1))]) (g' := g) ?_ (by rfl) (by rw [hM.taped]) (by rfl)
        exact wp_ret rfl rfl rfl (by (repeat first | rw [if_pos (by omega)] | rw [if_neg (by omega)]); try rfl)
      · refine wp_eq (L' := [(2, 127), (0, w)]) (st' := [(0, 7)]) (g' := g) ?_ (by rfl) (by rw [e9]) (by rfl)
        refine wp_n 4 (pc' := 142) (L' := [(2, 127), (0, w)]) (st' := [(0, 5), (2, 128)]) (g' := g) rfl ?_
        refine wp_iald (k := 128) (5) rfl rfl (by omega) (by omega) (by decide) ?_
        refine wp_eq (L' := [(2, 127), (0, w)]) (st' := [(0, (c 10 16))]) (g' := g) ?_ (by rfl) (by rw [hM.pay]) (by rfl)
        exact wp_ret rfl rfl rfl (by (repeat first | rw [if_pos (by omega)] | rw [if_neg (by omega)]); try rfl)
      · refine wp_swd (a' := 144) rfl (by omega) e9 rfl ?_
        refine wp_n 1 (pc' := 145) (L' := [(2, 127), (0, w)]) (st' := [(0, (-1))]) (g' := g) rfl ?_
        exact wp_ret rfl rfl rfl (by (repeat first | rw [if_pos (by omega)] | rw [if_neg (by omega)]); try rfl)
def F_about (P : Nat) (w : Int) (c c1 : am_G) (v1 : Int) : Prop := v1 = (if 10 ≤ w ∧ w ≤ 13 then c 17 (w - 10).toNat else if 20 ≤ w ∧ w ≤ 23 then lsum (c 3) (w - 20).toNat P else if w = 0 then (P : Int) else if w = 1 then c 6 3 else if w = 2 then c 6 4 else if w = 3 then c 10 4 else if w = 4 then c 10 11 else if w = 5 then c 10 14 else if w = 6 then c 47 1 else if w = 7 then c 10 16 else -1) ∧ c1 = c
theorem C_about {sn : Nat} {sx : Nat → Int} {b : Nat} {g : am_G} {P : Nat} {w : Int} (h_w : R32 w) (hI : CInv P g) : Ev sn sx 2 130 [(2, 0), (0, w)] (SH b) g (CPost P g (F_about P w g)) := (e_about h_w hI).mono fun r h => by
  subst h
  exact ⟨_, _, b, rfl, hI, fun _ _ _ => rfl, rfl, rfl⟩
theorem M_about {sn : Nat} {sx : Nat → Int} {b : Nat} {g c : am_G} {P : Nat} {w : Int} (h_w : R32 w) (hI : CInv P c) (hM : MRel c g) : Ev sn sx 2 251 [(2, 127), (0, w)] (SH b) g (MPost b g (F_about P w c)) := (m_about h_w hI hM).mono fun r h => by
  subst h
  refine ⟨_, _, rfl, fun _ _ _ => rfl, fun c1 v1 hE => ?_⟩
  obtain ⟨rfl, rfl⟩ := hE
  exact ⟨rfl, hM⟩
