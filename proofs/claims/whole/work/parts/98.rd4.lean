/-! THE CLASS'S READER: the text -/
/-- clauses one behind another, from token p with F codes on -/
def Trc (T : Nat → Int) (L : Nat) : Nat → Nat → List (Nat × List Int × Nat) → Nat → Nat → Prop
  | p, F, [], p', F' => p = p' ∧ F = F'
  | p, F, x :: r, p', F' => PCl T L p x.1 x.2.2 x.2.1 ∧ Trc T L (nx T L x.2.2) (F + x.2.1.length) r p' F'
theorem Trc.snoc {T : Nat → Int} {L p' F' c p1 : Nat} {C : List Int} (h2 : PCl T L p' c p1 C) : ∀ (cs : List (Nat × List Int × Nat)) (p F : Nat), Trc T L p F cs p' F' → Trc T L p F (cs ++ [(c, C, p1)]) (nx T L p1) (F' + C.length) := by
  intro cs
  induction cs with
  | nil => intro p F h; obtain ⟨rfl, rfl⟩ := h; exact ⟨h2, rfl, rfl⟩
  | cons x r ih => intro p F h; exact ⟨h.1, ih _ _ h.2⟩
def TrN (T : Nat → Int) (L p F : Nat) (cs : List (Nat × List Int × Nat)) (p' F' : Nat) : Prop := Trc T L p F cs p' F' ∧ (cs.map Prod.fst).Nodup
def fnd : List (Nat × List Int × Nat) → Nat → Nat → Option (Nat × List Int)
  | [], _, _ => none
  | x :: r, F, c => if x.1 = c then some (F, x.2.1) else fnd r (F + x.2.1.length) c
theorem fnd_none {c : Nat} : ∀ (cs : List (Nat × List Int × Nat)) (F : Nat), fnd cs F c = none ↔ ¬ c ∈ cs.map Prod.fst := by
  intro cs
  induction cs with
  | nil => intro F; exact ⟨fun _ h => (by cases h), fun _ => rfl⟩
  | cons x r ih =>
    intro F
    rw [fnd, List.map_cons, List.mem_cons]
    by_cases q : x.1 = c
    · rw [if_pos q]; exact ⟨fun h => (by cases h), fun h => absurd (Or.inl q.symm) h⟩
    · rw [if_neg q, ih]
      exact ⟨fun h k => k.elim (fun e => q e.symm) h, fun h k => h (Or.inr k)⟩
theorem nodup_snoc {c p1 : Nat} {C : List Int} {cs : List (Nat × List Int × Nat)} (h : (cs.map Prod.fst).Nodup) (hn : ¬ c ∈ cs.map Prod.fst) : ((cs ++ [(c, C, p1)]).map Prod.fst).Nodup := by
  rw [List.map_append, List.nodup_append]
  refine ⟨h, by simp, fun a ha d hd => ?_⟩
  rw [List.map_cons, List.map_nil, List.mem_singleton] at hd
  intro e
  rw [e, hd] at ha
  exact hn ha
def lnC : List (Nat × List Int × Nat) → Nat
  | [] => 0
  | x :: r => x.2.1.length + lnC r
theorem Trc.len {T : Nat → Int} {L : Nat} : ∀ (cs : List (Nat × List Int × Nat)) (p F p' F' : Nat), Trc T L p F cs p' F' → F' = F + lnC cs := by
  intro cs
  induction cs with
  | nil => intro p F p' F' h; exact h.2.symm
  | cons x r ih => intro p F p' F' h; have := ih _ _ _ _ h.2; rw [lnC]; omega
theorem fnd_snoc {c d p1 : Nat} {C : List Int} : ∀ (cs : List (Nat × List Int × Nat)) (F : Nat), fnd cs F c = none → fnd (cs ++ [(c, C, p1)]) F d = if c = d then some (F + lnC cs, C) else fnd cs F d := by
  intro cs
  induction cs with
  | nil =>
    intro F _
    show (if c = d then _ else none) = _
    rfl
  | cons x r ih =>
    intro F h
    rw [fnd] at h
    by_cases q : x.1 = c
    · rw [if_pos q] at h; cases h
    · rw [if_neg q] at h
      show (if x.1 = d then _ else fnd (r ++ _) _ d) = _
      rw [ih _ h, fnd, lnC]
      by_cases q2 : x.1 = d
      · rw [if_pos q2, if_neg (by omega), if_pos q2]
      · rw [if_neg q2, if_neg q2, Nat.add_assoc]
/-- what a row holds of a clause -/
def Cls (t : Nat) (h : am_G) (c : Nat) : Option (Nat × List Int) → Prop
  | none => h 8 (4 * t + c) = -1
  | some x => h 8 (4 * t + c) = ((300 * t + x.1 : Nat) : Int) ∧ h 9 (4 * t + c) = ((300 * t + x.1 + x.2.length : Nat) : Int) ∧ CdW t x.1 x.2 h ∧ CW c 27 x.2 ∧ x.1 + x.2.length ≤ 300
/-- read so far: clauses cs, now at p with F codes -/
def TxS (T : Nat → Int) (L t : Nat) (cs : List (Nat × List Int × Nat)) (p F : Nat) (h : am_G) : Prop := RdH T L t p F h ∧ TrN T L (sk T L 0) 0 cs p F ∧ F ≤ p ∧ ∀ c, c < 4 → Cls t h c (fnd cs 0 c)
/-- a fault f at q behind clauses cs -/
def TxF (T : Nat → Int) (L : Nat) (cs : List (Nat × List Int × Nat)) (f q : Nat) : Prop := ∃ p F, TrN T L (sk T L 0) 0 cs p F ∧ F ≤ p ∧ p ≤ L ∧ PClF T L p (fun c => fnd cs 0 c ≠ none) f q
theorem Cls.none_iff {t : Nat} {h : am_G} {c : Nat} {x : Option (Nat × List Int)} (hc : Cls t h c x) : h 8 (4 * t + c) = -1 ↔ x = none := by
  cases x with
  | none => exact ⟨fun _ => rfl, fun _ => hc⟩
  | some y => exact ⟨fun q => by have := hc.1; omega, fun q => by cases q⟩
theorem Cls.b {t : Nat} {h : am_G} {c : Nat} {x : Option (Nat × List Int)} (ht : t < 6) (hc : Cls t h c x) : -1 ≤ h 8 (4 * t + c) ∧ h 8 (4 * t + c) ≤ 1800 := by
  cases x with
  | none => have : h 8 (4 * t + c) = -1 := hc; omega
  | some y => have h1 := hc.1; have h2 := hc.2.2.2.2; omega
theorem Cls.keep {t F : Nat} {g h : am_G} {c : Nat} {x : Option (Nat × List Int)} (hc : Cls t g c x) (h8 : h 8 (4 * t + c) = g 8 (4 * t + c)) (h9 : h 9 (4 * t + c) = g 9 (4 * t + c)) (hK : CdK t F g h) (hF : ∀ y, x = some y → y.1 + y.2.length ≤ F) : Cls t h c x := by
  cases x with
  | none => exact h8.trans hc
  | some y => exact ⟨h8.trans hc.1, h9.trans hc.2.1, hc.2.2.1.keep hK (hF y rfl), hc.2.2.2⟩
theorem fnd_len {c : Nat} {y : Nat × List Int} : ∀ (cs : List (Nat × List Int × Nat)) (F : Nat), fnd cs F c = some y → y.1 + y.2.length ≤ F + lnC cs := by
  intro cs
  induction cs with
  | nil => intro F h; cases h
  | cons x r ih =>
    intro F h
    rw [fnd] at h
    rw [lnC]
    by_cases q : x.1 = c
    · rw [if_pos q] at h; cases h; show F + x.2.1.length ≤ _; omega
    · rw [if_neg q] at h; have := ih _ h; omega
theorem TxS.next {T : Nat → Int} {L t : Nat} {cs : List (Nat × List Int × Nat)} {p F c p1 : Nat} {C : List Int} {g g' : am_G} (hS : TxS T L t cs p F g) (h1 : g 8 (4 * t + c) = -1) (hP : PCl T L p c p1 C) (hR : RdH T L t (nx T L p1) (F + C.length) g') (hK : CdK t F g g') (hW : CdW t F C g') (h8 : g' 8 (4 * t + c) = ((300 * t + F : Nat) : Int)) (h9 : g' 9 (4 * t + c) = ((300 * t + F + C.length : Nat) : Int)) (ho : ∀ d, d < 4 → d ≠ c → g' 8 (4 * t + d) = g 8 (4 * t + d) ∧ g' 9 (4 * t + d) = g 9 (4 * t + d)) : TxS T L t (cs ++ [(c, C, p1)]) (nx T L p1) (F + C.length) g' := by
  obtain ⟨a1, a2, a3, a4⟩ := hS
  have hc4 := hP.1
  have hn := (a4 c hc4).none_iff.mp h1
  have hl := a2.1.len
  have hx := nx_in (T := T) (show p1 ≤ L from Nat.le_of_lt hP.2.2.2.2.2.2.1)
  have hb1 := hP.2.2.2.2.2.1
  have hb2 := hP.2.2.2.2.2.2.1
  have hb3 := hP.2.2.2.2.2.2.2.1
  refine ⟨hR, ⟨Trc.snoc hP cs _ _ a2.1, nodup_snoc a2.2 ((fnd_none cs 0).mp hn)⟩, by omega, fun d hd => ?_⟩
  rw [fnd_snoc cs 0 hn]
  by_cases q : c = d
  · subst q
    rw [if_pos rfl, show 0 + lnC cs = F by omega]
    exact ⟨h8, h9, hW, hP.2.2.2.2.2.2.2.2, by have := a1.1.2.2.1; show F + C.length ≤ 300; omega⟩
  · rw [if_neg q]
    have h2 := ho d hd (fun e => q e.symm)
    exact (a4 d hd).keep h2.1 h2.2 hK fun y hy => by have := fnd_len cs 0 hy; omega
