/-! THE CLASS'S READER: read, text -/
def FrX (t : Nat) (g h : am_G) : Prop := ∀ c j, (c ≠ 47 ∨ j < 2) → (c ≠ 7 ∨ j < 300 * t) → ((c ≠ 8 ∧ c ≠ 9) ∨ j < 4 * t ∨ 4 * t + 4 ≤ j) → h c j = g c j
theorem FrX.c {t : Nat} {g h i : am_G} (h1 : FrX t g h) (h2 : FrCt t h i) : FrX t g i := fun c j a b x => (h2 c j (by omega) b x).trans (h1 c j a b x)
theorem FrX.up {t k i : Nat} {x : Int} {g h : am_G} (h1 : FrX t g h) (hk : (k = 47 ∧ 2 ≤ i) ∨ (k = 7 ∧ 300 * t ≤ i) ∨ ((k = 8 ∨ k = 9) ∧ 4 * t ≤ i ∧ i < 4 * t + 4)) : FrX t g (am_up h k i x) := fun c j a b x => (up_no (by omega)).trans (h1 c j a b x)
theorem FrX.rfl {t : Nat} {g : am_G} : FrX t g g := fun _ _ _ _ _ => Eq.refl _
theorem RdT.x {T : Nat → Int} {L t : Nat} {g h : am_G} (hR : RdT T L g) (hF : FrX t g h) : RdT T L h := ⟨(funext fun j => hF 48 j (by omega) (by omega) (by omega)).trans hR.1, (hF 47 1 (by omega) (by omega) (by omega)).trans hR.2.1, hR.2.2⟩
theorem wx_rd {sn : Nat} {sx : Nat → Int} {K : Nat} {g : am_G} {Q : am_R → Prop} {f : Nat} {i : Int} (hf : g 47 2 = (f : Int)) (hb : 1 ≤ f ∧ f ≤ 5) (hQ : Q (some (0, 0), SH 7, g)) : Wp sn sx K T59 76 [(2, 47), (2, 6), (0, i)] [] (SH 7) g Q := by
  have hW : Wp sn sx K T59 110 [(2, 47), (2, 6), (0, i)] [] (SH 7) g Q := by
    refine wp_n 2 (pc' := 114) (L' := [(2, 47), (2, 6), (0, i)]) (st' := [(0, (g 47 2))]) (g' := g) rfl ?_
    refine wp_if_ne rfl (fun _ => ?_) (fun c => ?_)
    · refine wp_n 1 (pc' := 122) (L' := [(2, 47), (2, 6), (0, i)]) (st' := [(0, 0)]) (g' := g) rfl ?_
      exact wp_ret rfl rfl rfl hQ
    · exfalso; omega
  refine wp_n 4 (pc' := 82) (L' := [(2, 47), (2, 6), (0, i)]) (st' := [(0, 300), (0, i)]) (g' := g) rfl ?_
  refine wp_ic_gt rfl (fun _ => hW) (fun _ => ?_)
  refine wp_n 2 (pc' := 89) (L' := [(2, 47), (2, 6), (0, i)]) (st' := [(0, (g 47 2))]) (g' := g) rfl ?_
  refine wp_if_ne rfl (fun _ => hW) (fun c => ?_)
  exfalso; omega
theorem pclf_mono {T : Nat → Int} {L p f q : Nat} {came came' : Nat → Prop} (h : ∀ c, c < 4 → (came c ↔ came' c)) (H : PClF T L p came f q) : PClF T L p came' f q := by
  rcases H with H | ⟨c, h1, h2, h3, H | H⟩
  · exact Or.inl H
  · exact Or.inr ⟨c, h1, h2, h3, Or.inl ⟨(h c h1).mp H.1, H.2⟩⟩
  · exact Or.inr ⟨c, h1, h2, h3, Or.inr ⟨fun k => H.1 ((h c h1).mpr k), H.2⟩⟩
def RTx (T : Nat → Int) (L t : Nat) (g : am_G) (r : am_R) : Prop := (∃ g' cs p F, r = (some (0, 1), SH 7, g') ∧ FrX t g g' ∧ TxS T L t cs p F g' ∧ tK T L p = -1 ∧ g' 47 3 = -1) ∨ ∃ g' cs f q, r = (some (0, 0), SH 7, g') ∧ FrX t g g' ∧ RdY T L t f q g' ∧ TxF T L cs f q
set_option maxHeartbeats 400000 in
set_option maxRecDepth 20000 in
theorem e_read {sn : Nat} {sx : Nat → Int} {b : Nat} {g : am_G} {T : Nat → Int} {L t : Nat} (hR : RdT T L g) (ht : g 6 3 = (t : Int)) (ht6 : t < 6) : Ev sn sx 76 59 [(2, 47), (2, 6)] (SH b) g (RTx T L t g) := by
  have hl3 := hR.2.2.1
  refine ev_of (K := 75) T59 (by decide) rfl rfl (Nat.le_of_ble_eq_true rfl) ?_
  refine wp_eq (L' := [(2, 47), (2, 6), (9, 0)]) (st' := []) (g' := g) ?_
  refine wp_ns 3 (0, [(2, 47), (2, 6), (9, 0)], [], (SH b), g) (5, [(2, 47), (2, 6), (9, 0)], [], (SH 7), g) rfl ?_
  show Wp sn sx 75 T59 5 [(2, 47), (2, 6), (9, 0)] [] (SH 7) g (RTx T L t g)
  refine wp_n 3 (pc' := 10) (L' := [(2, 47), (2, 6), (9, 0)]) (st' := [(0, (g 6 3)), (2, 47)]) (g' := g) rfl ?_
  refine wp_eq (L' := [(2, 47), (2, 6), (9, 0)]) (st' := [(0, ((t : Nat) : Int)), (2, 47)]) (g' := g) ?_ (by rfl) (by rw [ht]) (by rfl)
  refine wp_n 4 (pc' := 18) (L' := [(2, 47), (2, 6), (9, 0)]) (st' := [(0, ((t : Nat) : Int)), (2, 47)]) (g' := (am_up g 47 5 ((t : Nat) : Int))) rfl ?_
  refine wp_eq (L' := [(2, 47), (2, 6), (9, 0)]) (st' := [(0, ((t : Nat) : Int)), (2, 47)]) (g' := (am_up g 47 5 ((t : Nat) : Int))) ?_ (by rfl) (by first | rfl | rw [up_eq]) (by rfl)
  refine wp_n 14 (pc' := 42) (L' := [(2, 47), (2, 6), (0, 0)]) (st' := []) (g' := (am_up (am_up (am_up (am_up (am_up g 47 5 ((t : Nat) : Int)) 47 7 (((t : Nat) : Int) * 300)) 47 2 0) 47 3 (-1)) 47 8 0)) rfl ?_
  have L42 : ∀ (lf : Nat) (i : Nat) (k : am_G), 4 - i < lf → (i ≤ 4) → (∀ u : Nat, u < i → k 8 (4 * t + u) = -1) → (FrX t g k) → (k 47 5 = (t : Int)) → (k 47 7 = ((300 * t : Nat) : Int)) → (k 47 2 = 0) → (k 47 3 = -1) → (k 47 8 = ((0 : Nat) : Int)) → Wp sn sx 75 T59 42 [(2, 47), (2, 6), (0, ((i : Nat) : Int))] [] (SH 7) k (RTx T L t g) := by
    intro lf
    induction lf with
    | zero => intro i k hlf; exact absurd hlf (Nat.not_lt_zero _)
    | succ lf ih42 =>
      intro i k hlf hi hz hFk h5 h7 h2 h3 h8
      refine wp_n 2 (pc' := 44) (L' := [(2, 47), (2, 6), (0, ((i : Nat) : Int))]) (st' := [(0, 4), (0, ((i : Nat) : Int))]) (g' := k) rfl ?_
      refine wp_ic_ge rfl (fun c1 => ?_) (fun c1 => ?_)
      · have hi4 : i = 4 := by omega
        refine wp_n 1 (pc' := 71) (L' := [(2, 47), (2, 6), (0, ((i : Nat) : Int))]) (st' := [(2, 47)]) (g' := k) rfl ?_
        refine wp_cv (as := [(2, 47)]) (rest := []) rfl rfl rfl (Nat.le_of_ble_eq_true rfl) rfl (e_advance (T := T) (L := L) (a := 0) (hR.x (t := t) hFk) h8 (Nat.zero_le _)) (by decide) (fun r2 h3 => ?_)
        obtain ⟨g71, rfl, hT71, hF71⟩ := h3
        have hsk := sk_in (T := T) (L - 0) 0 rfl (Nat.zero_le _)
        refine wp_eq (L' := [(2, 47), (2, 6), (0, ((i : Nat) : Int))]) (st' := []) (g' := g71) ?_
        refine wp_n 2 (pc' := 76) (L' := [(2, 47), (2, 6), (0, 0)]) (st' := []) (g' := g71) rfl ?_
        have L76 : ∀ (lf : Nat) (i : Nat) (h : am_G) (cs : List (Nat × List Int × Nat)) (p F : Nat), 301 - i < lf → (TxS T L t cs p F h) → (FrX t g h) → (i ≤ p) → Wp sn sx 75 T59 76 [(2, 47), (2, 6), (0, ((i : Nat) : Int))] [] (SH 7) h (RTx T L t g) := by
          intro lf
          induction lf with
          | zero => intro i h cs p F hlf; exact absurd hlf (Nat.not_lt_zero _)
          | succ lf ih76 =>
            intro i h cs p F hlf hS hFh hip
            have hpl := hS.1.pl
            have hb := hS.1.b
            refine wp_n 4 (pc' := 82) (L' := [(2, 47), (2, 6), (0, ((i : Nat) : Int))]) (st' := [(0, 300), (0, ((i : Nat) : Int))]) (g' := h) rfl ?_
            refine wp_ic_gt rfl (fun c4 => ?_) (fun c4 => ?_)
            · exfalso; omega
            · refine wp_n 2 (pc' := 89) (L' := [(2, 47), (2, 6), (0, ((i : Nat) : Int))]) (st' := [(0, (h 47 2))]) (g' := h) rfl ?_
              refine wp_eq (L' := [(2, 47), (2, 6), (0, ((i : Nat) : Int))]) (st' := [(0, 0)]) (g' := h) ?_ (by rfl) (by rw [hS.1.f]) (by rfl)
              refine wp_n 3 (pc' := 96) (L' := [(2, 47), (2, 6), (0, ((i : Nat) : Int))]) (st' := [(0, (h 47 9))]) (g' := h) rfl ?_
              refine wp_eq (L' := [(2, 47), (2, 6), (0, ((i : Nat) : Int))]) (st' := [(0, (tK T L p))]) (g' := h) ?_ (by rfl) (by rw [hS.1.k]) (by rfl)
              refine wp_n 1 (pc' := 97) (L' := [(2, 47), (2, 6), (0, ((i : Nat) : Int))]) (st' := [(0, (-1)), (0, (tK T L p))]) (g' := h) rfl ?_
              refine wp_ic_eq rfl (fun c5 => ?_) (fun c5 => ?_)
              · refine wp_n 2 (pc' := 114) (L' := [(2, 47), (2, 6), (0, ((i : Nat) : Int))]) (st' := [(0, (h 47 2))]) (g' := h) rfl ?_
                refine wp_eq (L' := [(2, 47), (2, 6), (0, ((i : Nat) : Int))]) (st' := [(0, 0)]) (g' := h) ?_ (by rfl) (by rw [hS.1.f]) (by rfl)
                refine wp_n 3 (pc' := 122) (L' := [(2, 47), (2, 6), (0, ((i : Nat) : Int))]) (st' := [(0, 1)]) (g' := h) rfl ?_
                exact wp_ret rfl rfl rfl (Or.inl ⟨_, cs, p, F, rfl, hFh, hS, by omega, hS.1.2.2.2.1.2⟩)
              · refine wp_n 1 (pc' := 101) (L' := [(2, 47), (2, 6), (0, ((i : Nat) : Int))]) (st' := [(2, 47)]) (g' := h) rfl ?_
                refine wp_cv (as := [(2, 47)]) (rest := []) rfl rfl rfl (Nat.le_of_ble_eq_true rfl) rfl (e_readClause hS.1 hS.2.2.1 (by omega) (fun c hc => (hS.2.2.2 c hc).b ht6)) (by decide) (fun r6 h7 => ?_)
                rcases h7 with ⟨g101, c9, p9, C9, rfl, hF101, h1_, hP_, hR_, hK_, hW_, h8_, h9_, ho_⟩ | ⟨x101, f9, q9, rfl, hF101, hY101, hP101⟩
                · have hS1 := hS.next h1_ hP_ hR_ hK_ hW_ h8_ h9_ ho_
                  have hp9 := nx_in (T := T) (show p9 ≤ L from Nat.le_of_lt hP_.2.2.2.2.2.2.1)
                  have hpp := hP_.2.2.2.2.2.1
                  refine wp_eq (L' := [(2, 47), (2, 6), (0, ((i : Nat) : Int))]) (st' := []) (g' := g101) ?_
                  refine wp_n 2 (pc' := 76) (L' := [(2, 47), (2, 6), (0, (((i : Nat) : Int) + 1))]) (st' := []) (g' := g101) rfl ?_
                  refine wp_eq (ih76 (i + 1) (g101) (cs ++ [(c9, C9, p9)]) ((nx T L p9)) ((F + C9.length)) ?_ ?_ ?_ ?_) (by first | rfl | (simp; done) | (simp; omega)) (by rfl) (by rfl)
                  · omega
                  · exact hS1
                  · exact hFh.c hF101
                  · omega
                · have hTF : TxF T L cs f9 q9 := ⟨p, F, hS.2.1, hS.2.2.1, hS.1.pl, pclf_mono (fun c hc => not_congr (hS.2.2.2 c hc).none_iff) hP101⟩
                  refine wp_eq (L' := [(2, 47), (2, 6), (0, ((i : Nat) : Int))]) (st' := []) (g' := x101) ?_
                  refine wp_n 2 (pc' := 76) (L' := [(2, 47), (2, 6), (0, (((i : Nat) : Int) + 1))]) (st' := []) (g' := x101) rfl ?_
                  exact wx_rd hY101.2.2.1 hY101.2.2.2.1 (Or.inr ⟨_, cs, f9, q9, rfl, hFh.c hF101, hY101, hTF⟩)
        refine wp_eq (L76 (_ + 1) (0) (g71) ([]) ((sk T L 0)) (0) (Nat.lt_succ_self _) ?_ ?_ ?_) (by first | rfl | (simp; done) | (simp; omega)) (by rfl) (by rfl)
        · exact ⟨⟨(hR.x (t := t) hFk).tk hF71, (hF71 47 5 (by omega)).trans h5, ht6, ⟨(hF71 47 2 (by omega)).trans h2, (hF71 47 3 (by omega)).trans h3⟩, hT71, hsk.2, (hF71 47 7 (by omega)).trans h7⟩, ⟨⟨rfl, rfl⟩, List.nodup_nil⟩, Nat.zero_le _, fun c hc => (hF71 8 _ (by omega)).trans (hz c (by omega))⟩
        · exact fun c j a b x => (hF71 c j (by omega)).trans (hFk c j a b x)
        · exact Nat.zero_le _
      · refine wp_n 5 (pc' := 58) (L' := [(2, 47), (2, 6), (0, ((i : Nat) : Int))]) (st' := [(0, (k 47 5)), (2, 8)]) (g' := k) rfl ?_
        refine wp_eq (L' := [(2, 47), (2, 6), (0, ((i : Nat) : Int))]) (st' := [(0, ((t : Nat) : Int)), (2, 8)]) (g' := k) ?_ (by rfl) (by rw [h5]) (by rfl)
        refine wp_n 5 (pc' := 63) (L' := [(2, 47), (2, 6), (0, ((i : Nat) : Int))]) (st' := [(0, (-1)), (0, ((((t : Nat) : Int) * 4) + ((i : Nat) : Int))), (2, 8)]) (g' := k) rfl ?_
        refine wp_iast (k := 8) ((4 * t + i)) rfl rfl (by omega) (by omega) (by decide) ?_
        refine wp_n 2 (pc' := 42) (L' := [(2, 47), (2, 6), (0, (((i : Nat) : Int) + 1))]) (st' := []) (g' := (am_up k 8 ((4 * t + i)) (-1))) rfl ?_
        refine wp_eq (ih42 (i + 1) ((am_up k 8 ((4 * t + i)) (-1))) ?_ ?_ ?_ ?_ ?_ ?_ ?_ ?_ ?_) (by first | rfl | (simp; done) | (simp; omega)) (by rfl) (by rfl)
        · omega
        · omega
        · intro u hu
          by_cases q : u = i
          · subst q; exact up_eq
          · rw [up_nj (by omega)]; exact hz u (by omega)
        · exact hFk.up (by omega)
        · exact (up_ne (by decide)).trans h5
        · exact (up_ne (by decide)).trans h7
        · exact (up_ne (by decide)).trans h2
        · exact (up_ne (by decide)).trans h3
        · exact (up_ne (by decide)).trans h8
  refine wp_eq (L42 (_ + 1) (0) ((am_up (am_up (am_up (am_up (am_up g 47 5 ((t : Nat) : Int)) 47 7 (((t : Nat) : Int) * 300)) 47 2 0) 47 3 (-1)) 47 8 0)) (Nat.lt_succ_self _) ?_ ?_ ?_ ?_ ?_ ?_ ?_ ?_) (by first | rfl | (simp; done) | (simp; omega)) (by rfl) (by rfl)
  · exact Nat.zero_le _
  · exact fun u hu => absurd hu (Nat.not_lt_zero _)
  · exact ((((FrX.rfl.up (by omega)).up (by omega)).up (by omega)).up (by omega)).up (by omega)
  · rw [up_nj (by decide), up_nj (by decide), up_nj (by decide), up_nj (by decide), up_eq]
  · rw [up_nj (by decide), up_nj (by decide), up_nj (by decide), up_eq]; omega
  · rw [up_nj (by decide), up_nj (by decide), up_eq]
  · rw [up_nj (by decide), up_eq]
  · exact up_eq
/-- what text leaves -/
def TxE (c c1 : am_G) (v1 : Int) : Prop := (c 6 3 = 6 ∧ v1 = -1 ∧ c1 = c) ∨ (∃ t : Nat, c 6 3 = (t : Int) ∧ t < 6 ∧ (∀ a j, (a ≠ 47 ∨ j = 0) → (a ≠ 6 ∨ j ≠ 3) → (a ≠ 7 ∨ j < 300 * t) → ((a ≠ 8 ∧ a ≠ 9) ∨ j < 4 * t ∨ 4 * t + 4 ≤ j) → c1 a j = c a j) ∧ c1 47 1 = 0 ∧ ((∃ cs p F, v1 = (t : Int) ∧ c1 6 3 = (t : Int) + 1 ∧ c1 47 2 = 0 ∧ c1 47 3 = -1 ∧ TrN (c 48) (c 47 1).toNat (sk (c 48) (c 47 1).toNat 0) 0 cs p F ∧ F ≤ p ∧ p ≤ (c 47 1).toNat ∧ tK (c 48) (c 47 1).toNat p = -1 ∧ ∀ k, k < 4 → Cls t c1 k (fnd cs 0 k)) ∨ ∃ (cs : List (Nat × List Int × Nat)) (f q : Nat), v1 = -1 ∧ c1 6 3 = (t : Int) ∧ c1 47 2 = (f : Int) ∧ (1 ≤ f ∧ f ≤ 5) ∧ c1 47 3 = (q : Int) ∧ TxF (c 48) (c 47 1).toNat cs f q))
theorem Cls.same {t : Nat} {g h : am_G} {c : Nat} {x : Option (Nat × List Int)} (hc : Cls t g c x) (hF : ∀ a j, 7 ≤ a → a ≤ 9 → h a j = g a j) : Cls t h c x := by
  cases x with
  | none => exact (hF 8 _ (by decide) (by decide)).trans hc
  | some y => exact ⟨(hF 8 _ (by decide) (by decide)).trans hc.1, (hF 9 _ (by decide) (by decide)).trans hc.2.1, fun i hi => (hF 7 _ (by decide) (by decide)).trans (hc.2.2.1 i hi), hc.2.2.2⟩
theorem CInv.rdt {P : Nat} {g : am_G} (hI : CInv P g) : RdT (g 48) (g 47 1).toNat g := by
  have h := hI.tap
  have h1 := h.1
  exact ⟨rfl, (Int.toNat_of_nonneg h1.1).symm, by omega, fun j hj => h.2 j (by omega)⟩
theorem hgt_eqn {f f' : Nat → Int} {a : Nat} : ∀ n, (∀ i, i < n → f' (a + i) = f (a + i)) → hgt f' a n = hgt f a n := by
  intro n
  induction n with
  | zero => intro _; rfl
  | succ n ih => intro h; rw [hgt_s, hgt_s, h n (by omega), ih fun i hi => h i (by omega)]
theorem ClW.eqn {k a n : Nat} {f f' : Nat → Int} (h : ClW k f a n) (hf : ∀ i, i < n → f' (a + i) = f (a + i)) : ClW k f' a n := by
  obtain ⟨h1, h2, h3, h4⟩ := h
  refine ⟨h1, fun i hi => ?_, fun i hi => ?_, ?_⟩
  · rw [hf i hi, hgt_eqn i fun j hj => hf j (by omega)]; exact h2 i hi
  · rw [hgt_eqn i fun j hj => hf j (by omega)]; exact h3 i hi
  · rw [hgt_eqn n hf]; exact h4
theorem Cls.txc {t k : Nat} {h : am_G} {x : Option (Nat × List Int)} (hk : k < 4) (hc : Cls t h k x) : TxC 0 h t k := by
  cases x with
  | none => exact Or.inl hc
  | some y => exact Or.inr ⟨300 * t + y.1, y.2.length, hc.1, by rw [hc.2.1], by omega, by have := hc.2.2.2.2; omega, hc.2.2.2.1.clw (by decide) fun i hi => hc.2.2.1 i hi⟩
theorem TxE.inv {P : Nat} {c c1 : am_G} {v1 : Int} (hI : CInv P c) (h : TxE c c1 v1) : CInv P c1 := by
  rcases h with ⟨_, _, rfl⟩ | ⟨t, ht, ht6, hF, h1, hd⟩
  · exact hI
  have k (a j : Nat) (q : (a ≠ 47 ∨ j = 0) ∧ (a < 6 ∨ 9 < a)) : c1 a j = c a j := hF a j q.1 (by omega) (by omega) (by omega)
  have hx := hI.tx
  have h64 : c1 6 4 = c 6 4 := hF 6 4 (by omega) (by omega) (by omega) (by omega)
  have h60 (j : Nat) (q : j ≠ 3) : c1 6 j = c 6 j := hF 6 j (by omega) (by omega) (by omega) (by omega)
  have hlaw := hx.2.1
  have hn : c1 6 3 = (t : Int) ∨ c1 6 3 = (t : Int) + 1 := by
    rcases hd with ⟨_, _, _, _, h2, _⟩ | ⟨_, _, _, _, h2, _⟩
    · exact Or.inr h2
    · exact Or.inl h2
  have hold : ∀ u q : Nat, u < t → q < 4 → TxC 0 c1 u q := fun u q hu hq => by
    have e8 : c1 8 (4 * u + q) = c 8 (4 * u + q) := hF 8 _ (by omega) (by omega) (by omega) (by omega)
    have e9 : c1 9 (4 * u + q) = c 9 (4 * u + q) := hF 9 _ (by omega) (by omega) (by omega) (by omega)
    rcases hx.2.2 u q (show (u : Int) < c 6 3 by omega) hq with w | ⟨a, n, w1, w2, w3, w4, w5⟩
    · exact Or.inl (e8.trans w)
    · exact Or.inr ⟨a, n, e8.trans w1, e9.trans w2, w3, w4, w5.eq fun i hi => hF 7 _ (by omega) (by omega) (by omega) (by omega)⟩
  have htx : TxW 0 c1 := by
    refine ⟨by rcases hn with q | q <;> (show 0 ≤ c1 6 3 ∧ c1 6 3 ≤ 6; omega), by show -1 ≤ c1 6 4 ∧ c1 6 4 < c1 6 3; rw [h64]; have : c 6 4 < c 6 3 := hlaw.2; have : -1 ≤ c 6 4 := hlaw.1; omega, fun u q hu hq => ?_⟩
    have hu' : (u : Int) < c1 6 3 := hu
    by_cases e : u < t
    · exact hold u q e hq
    · rcases hd with ⟨cs, p, F, _, h2, _, _, _, _, _, _, h9⟩ | ⟨cs, f, qq, _, h2, _⟩
      · obtain rfl : u = t := by omega
        exact (h9 q hq).txc hq
      · omega
  refine ⟨hI.ck.same fun a j q => k a j (by omega), fun a j => ?_, hI.rgi.same fun a j q1 q2 => k a j (by omega), hI.e24.same fun a j q => k a j (by omega), hI.e24i.same fun a j q => k a j (by omega), htx, hI.txi.same fun a j q1 q2 => k a j (by omega), ?_, ⟨by omega, fun j hj => by rw [k 48 j (by omega)]; exact hI.tap.2 j hj⟩, hI.cls.same fun a j q1 q2 => k a j (by omega), hI.wls.same fun a j q1 q2 => k a j (by omega), hI.caw.same fun a j q => k a j (by omega), hI.cal.same fun a j q => k a j (by omega)⟩
  · by_cases e : a < 6 ∨ 9 < a
    · by_cases e2 : a < 2 ∨ 23 < a
      · exact Rg.out e2
      · show Rg P a j (c1 a j); rw [k a j (by omega)]; exact hI.rg a j
    · by_cases e2 : a = 6
      · subst e2
        show Rg P 6 j (c1 6 j)
        by_cases e3 : j = 3
        · subst e3; unfold Rg; omega
        · rw [h60 j e3]; exact hI.rg 6 j
      · unfold Rg; omega
  · have hti := hI.ti
    refine ⟨by rw [k 29 3 (by omega)]; have := hti.1; omega, fun u hu => ?_⟩
    rw [k 29 3 (by omega)] at hu
    have h1' := hti.1
    have h2 := hti.2 u hu
    refine ⟨fun j hj => ?_, fun q hq => ⟨?_, ?_⟩⟩
    · rw [k 30 _ (by omega), hF 7 _ (by omega) (by omega) (by omega) (by omega)]; exact h2.1 j hj
    · rw [k 31 _ (by omega), hF 8 _ (by omega) (by omega) (by omega) (by omega)]; exact (h2.2 q hq).1
    · rw [k 32 _ (by omega), hF 9 _ (by omega) (by omega) (by omega) (by omega)]; exact (h2.2 q hq).2
set_option maxHeartbeats 400000 in
set_option maxRecDepth 20000 in
theorem e_text {sn : Nat} {sx : Nat → Int} {b : Nat} {g : am_G} {P : Nat} (hI : CInv P g) : Ev sn sx 77 103 [(2, 0)] (SH b) g (fun r => ∃ g' v b1, r = (some (0, v), SH b1, g') ∧ TxE g g' v) := by
  have hx := hI.tx.1
  have hx3 : 0 ≤ g 6 3 ∧ g 6 3 ≤ 6 := hx
  obtain ⟨t, ht⟩ : ∃ t : Nat, g 6 3 = (t : Int) := ⟨(g 6 3).toNat, by omega⟩
  refine ev_of (K := 76) T103 (by decide) rfl rfl (Nat.le_of_ble_eq_true rfl) ?_
  refine wp_eq (L' := [(2, 0), (9, 0)]) (st' := []) (g' := g) ?_
  refine wp_n 3 (pc' := 7) (L' := [(2, 0), (9, 0)]) (st' := [(0, (g 6 3))]) (g' := g) rfl ?_
  refine wp_eq (L' := [(2, 0), (9, 0)]) (st' := [(0, ((t : Nat) : Int))]) (g' := g) ?_ (by rfl) (by rw [ht]) (by rfl)
  refine wp_n 1 (pc' := 9) (L' := [(2, 0), (9, 0)]) (st' := [(0, 6), (0, ((t : Nat) : Int))]) (g' := g) rfl ?_
  refine wp_ic_lt rfl (fun c1 => ?_) (fun c1 => ?_)
  · have ht6 : t < 6 := by omega
    refine wp_n 4 (pc' := 22) (L' := [(2, 0), (9, 0)]) (st' := [(2, 6), (2, 47)]) (g' := g) rfl ?_
    refine wp_cv (as := [(2, 47), (2, 6)]) (rest := []) rfl rfl rfl (Nat.le_of_ble_eq_true rfl) rfl (e_read (b := b) (T := g 48) (L := (g 47 1).toNat) (t := t) hI.rdt ht ht6) (by decide) (fun r1 h1_ => ?_)
    rcases h1_ with ⟨g22, cs22, p22, F22, rfl, hF22, hS22, hk22, h22⟩ | ⟨x22, cs22, f22, q22, rfl, hF22, hY22, hT22⟩
    · show Wp sn sx 76 T103 25 [(2, 0), (9, 0)] [(0, 1)] (SH 7) g22 (fun r => ∃ g' v b1, r = (some (0, v), SH b1, g') ∧ TxE g g' v)
      refine wp_n 11 (pc' := 48) (L' := [(2, 0), (0, 1)]) (st' := [(0, (g22 6 3)), (2, 6)]) (g' := (am_up g22 47 1 0)) rfl ?_
      refine wp_eq (L' := [(2, 0), (0, 1)]) (st' := [(0, ((t : Nat) : Int)), (2, 6)]) (g' := (am_up g22 47 1 0)) ?_ (by rfl) (by first | rw [hF22 6 3 (by omega) (by omega) (by omega), ht] | rw [up_ne (by decide), hF22 6 3 (by omega) (by omega) (by omega), ht]) (by rfl)
      refine wp_n 6 (pc' := 60) (L' := [(2, 0), (0, 1)]) (st' := [(0, (((t : Nat) : Int) + 1))]) (g' := (am_up (am_up g22 47 1 0) 6 3 (((t : Nat) : Int) + 1))) rfl ?_
      refine wp_eq (L' := [(2, 0), (0, 1)]) (st' := [(0, ((t : Int) + 1))]) (g' := (am_up (am_up g22 47 1 0) 6 3 (((t : Nat) : Int) + 1))) ?_ (by rfl) (by first | rfl | rw [up_eq]) (by rfl)
      refine wp_n 2 (pc' := 62) (L' := [(2, 0), (0, 1)]) (st' := [(0, (((t : Int) + 1) - 1))]) (g' := (am_up (am_up g22 47 1 0) 6 3 (((t : Nat) : Int) + 1))) rfl ?_
      exact wp_ret rfl rfl rfl ⟨_, _, _, rfl, Or.inr ⟨t, ht, ht6, fun a j q1 q2 q3 q4 => (up_no (by omega)).trans ((up_no (by omega)).trans (hF22 a j (by omega) q3 q4)), (up_ne (by decide)).trans up_eq, Or.inl ⟨cs22, p22, F22, by omega, up_eq, (up_ne (by decide)).trans ((up_nj (by decide)).trans hS22.1.2.2.2.1.1), (up_ne (by decide)).trans ((up_nj (by decide)).trans h22), hS22.2.1, hS22.2.2.1, hS22.1.pl, hk22, fun c hc => (hS22.2.2.2 c hc).same fun a j q1 q2 => (up_ne (by omega)).trans (up_ne (by omega))⟩⟩⟩
    · show Wp sn sx 76 T103 25 [(2, 0), (9, 0)] [(0, 0)] (SH 7) x22 (fun r => ∃ g' v b1, r = (some (0, v), SH b1, g') ∧ TxE g g' v)
      refine wp_n 8 (pc' := 39) (L' := [(2, 0), (0, 0)]) (st' := [(0, (-1))]) (g' := (am_up x22 47 1 0)) rfl ?_
      exact wp_ret rfl rfl rfl ⟨_, _, _, rfl, Or.inr ⟨t, ht, ht6, fun a j q1 q2 q3 q4 => (up_no (by omega)).trans (hF22 a j (by omega) q3 q4), up_eq, Or.inr ⟨cs22, f22, q22, rfl, (up_ne (by decide)).trans ((hF22 6 3 (by omega) (by omega) (by omega)).trans ht), (up_nj (by decide)).trans hY22.2.2.1, hY22.2.2.2.1, (up_nj (by decide)).trans hY22.2.2.2.2, hT22⟩⟩⟩
  · refine wp_n 1 (pc' := 13) (L' := [(2, 0), (9, 0)]) (st' := [(0, (-1))]) (g' := g) rfl ?_
    exact wp_ret rfl rfl rfl ⟨_, _, _, rfl, Or.inl ⟨by omega, rfl, rfl⟩⟩
theorem C_text {sn : Nat} {sx : Nat → Int} {b : Nat} {g : am_G} {P : Nat} (hI : CInv P g) : Ev sn sx 77 103 [(2, 0)] (SH b) g (CPost P g (TxE g)) := (e_text hI).mono fun r hh => by
  obtain ⟨g', v, b1, h1, h2⟩ := hh
  refine ⟨g', v, b1, h1, h2.inv hI, fun c j hc => ?_, h2⟩
  rcases h2 with ⟨_, _, rfl⟩ | ⟨t, ht, ht6, hF, _⟩
  · rfl
  · exact hF c j (by omega) (by omega) (by omega) (by omega)
