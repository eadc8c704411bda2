/-! THE WORLD OF THE ABSTRACT MACHINE in the heap: cell k of it lies at base + k -/
abbrev am_C4 : Type := ClassId × ClassId × ClassId × ClassId
def am_rf (base : Nat) (rs : List Nat) (j : Nat) : Option Nat := match rs[j]? with
  | some (r + 1) => some (base + r)
  | _ => none
def am_fv (base : Nat) (gk : Nat → Int) (rs : List Nat) (j t : Nat) : Value := if t = 2 then va_rf (am_rf base rs j) else if t = 1 then .long (Int64.ofInt (gk j)) else .int (Int32.ofInt (gk j))
def am_en (base : Nat) (cs : am_C4) (gk : Nat → Int) (o : Nat × Nat × List Nat) : va_E :=
  if o.1 = 0 then .inl (cs.1, o.2.1, .inl fun j => Int32.ofInt (gk j))
  else if o.1 = 1 then .inl (cs.2.1, o.2.1, .inr (.inl fun j => Int64.ofInt (gk j)))
  else if o.1 = 2 then .inl (cs.2.2.1, o.2.1, .inl fun j => Int32.ofInt (gk j))
  else if o.1 = 3 then .inl (cs.2.2.2, o.2.1, .inr (.inr (.inr (.inr (am_rf base o.2.2)))))
  else .inr (o.1 - 4, (am_cls.getD (o.1 - 4) []).mapIdx (am_fv base gk o.2.2))
def am_ws (base : Nat) (cs : am_C4) (sh : am_Sh) (g : am_G) : va_W := sh.mapIdx fun k o => (base + k, am_en base cs (g k) o)
def am_tys (cs : am_C4) : List (ClassId × FieldType) := [(cs.1, .int), (cs.2.1, .long), (cs.2.2.1, .boolean), (cs.2.2.2, .object "LeaningWheel$Big")]
def am_AA (base : Nat) : Nat → Prop := fun q => base ≤ q
theorem am_ws_get {base : Nat} {cs : am_C4} {sh : am_Sh} {g : am_G} {k : Nat} {o : Nat × Nat × List Nat} (h : sh[k]? = some o) : (am_ws base cs sh g)[k]? = some (base + k, am_en base cs (g k) o) := by
  unfold am_ws
  rw [List.getElem?_mapIdx, h]
  rfl
theorem am_ws_inv {base : Nat} {cs : am_C4} {sh : am_Sh} {g : am_G} {k : Nat} {q : Nat × va_E} (h : (am_ws base cs sh g)[k]? = some q) : q.1 = base + k ∧ k < sh.length := by
  unfold am_ws at h
  rw [List.getElem?_mapIdx] at h
  cases hk : sh[k]? with
  | none => rw [hk] at h; cases h
  | some o =>
    rw [hk] at h
    cases h
    exact ⟨rfl, (List.getElem?_eq_some_iff.mp hk).1⟩
theorem am_D (base : Nat) (cs : am_C4) (sh : am_Sh) (g : am_G) : va_D (am_AA base) (am_ws base cs sh g) := by
  refine ⟨fun i j p q hp hq e => ?_, fun k q hq => ?_⟩
  · have h1 := (am_ws_inv hp).1
    have h2 := (am_ws_inv hq).1
    omega
  · have h1 := (am_ws_inv hq).1
    show base ≤ q.1
    omega
/-- one cell of the world is changed -/
theorem am_ws_set {base : Nat} {cs : am_C4} {sh sh' : am_Sh} {g g' : am_G} {k : Nat} {o : Nat × Nat × List Nat} (hk : k < sh.length) (h1 : sh' = sh.set k o) (h2 : ∀ i, i ≠ k → g' i = g i) : (am_ws base cs sh g).set k (base + k, am_en base cs (g' k) o) = am_ws base cs sh' g' := by
  subst h1
  unfold am_ws
  refine List.ext_getElem? fun i => ?_
  rw [List.getElem?_set, List.getElem?_mapIdx, List.getElem?_mapIdx, List.getElem?_set, List.length_mapIdx]
  by_cases hi : k = i
  · subst hi
    simp [hk]
  · simp only [hi, if_false]
    rw [h2 i (fun e => hi e.symm)]
theorem am_up_ne {g : am_G} {k i j : Nat} {v : Int} (h : i ≠ k) : am_up g k j v i = g i := by
  funext z
  simp [am_up, h]
theorem am_up_at {g : am_G} {k j : Nat} {v : Int} : am_up g k j v k = fun z => if z = j then v else g k z := by
  funext z
  simp [am_up]
theorem am_set_same {sh : am_Sh} {k : Nat} {o : Nat × Nat × List Nat} (h : sh[k]? = some o) : sh = sh.set k o := by
  refine List.ext_getElem? fun i => ?_
  rw [List.getElem?_set]
  obtain ⟨hl, he⟩ := List.getElem?_eq_some_iff.mp h
  by_cases hi : k = i
  · subst hi
    rw [if_pos rfl, if_pos hl, h]
  · rw [if_neg hi]
/-- a value in the machine -/
def am_cv (base b : Nat) (S : Nat → Nat) (v : am_V) : Value := if v.1 = 0 then .int (Int32.ofInt v.2) else if v.1 = 1 then .long (Int64.ofInt v.2) else if v.1 = 2 then .ref (base + v.2.toNat) else if v.1 = 4 then .ref (S v.2.toNat) else if v.1 = 5 then .ref b else .null
theorem am_cv_cat {base b : Nat} {S : Nat → Nat} (v : am_V) : (am_cv base b S v).category = if v.1 = 1 then 2 else 1 := by
  unfold am_cv
  by_cases h0 : v.1 = 0
  · simp [h0, Value.category]
  · by_cases h1 : v.1 = 1
    · simp [h1, Value.category]
    · simp only [h0, h1, if_false]
      split
      · rfl
      · split
        · rfl
        · split <;> rfl
theorem am_cv_r {base b : Nat} {S : Nat → Nat} {v : am_V} (h : am_isr v.1 = true) : ∃ a : Nat, am_cv base b S v = .ref a := by
  unfold am_isr at h
  simp only [Bool.or_eq_true, beq_iff_eq] at h
  unfold am_cv
  rcases h with (h | h) | h <;> simp [h]
/-- locals by places -/
def am_al (base b : Nat) (S : Nat → Nat) : Nat → List am_V → List (Nat × Value)
  | _, [] => []
  | i, v :: t => if v.1 = 9 then am_al base b S (i + 1) t else (i, am_cv base b S v) :: am_al base b S (i + 1) t
theorem am_al_mem {base b : Nat} {S : Nat → Nat} {q : Nat × Value} : ∀ (L : List am_V) (i : Nat), q ∈ am_al base b S i L ↔ ∃ (j : Nat) (v : am_V), L[j]? = some v ∧ v.1 ≠ 9 ∧ q = (i + j, am_cv base b S v)
  | [], i => by simp [am_al]
  | u :: t, i => by
    have ih := am_al_mem (base := base) (b := b) (S := S) (q := q) t (i + 1)
    have split : (∃ (j : Nat) (v : am_V), (u :: t)[j]? = some v ∧ v.1 ≠ 9 ∧ q = (i + j, am_cv base b S v)) ↔ (u.1 ≠ 9 ∧ q = (i, am_cv base b S u)) ∨ ∃ (j : Nat) (v : am_V), t[j]? = some v ∧ v.1 ≠ 9 ∧ q = (i + 1 + j, am_cv base b S v) := by
      constructor
      · rintro ⟨j, v, h1, h2, h3⟩
        cases j with
        | zero => simp at h1; subst h1; exact Or.inl ⟨h2, h3⟩
        | succ j => simp at h1; exact Or.inr ⟨j, v, h1, h2, by rw [h3]; congr 1; omega⟩
      · rintro (⟨h2, h3⟩ | ⟨j, v, h1, h2, h3⟩)
        · exact ⟨0, u, by simp, h2, h3⟩
        · exact ⟨j + 1, v, by simpa using h1, h2, by rw [h3]; congr 1; omega⟩
    rw [split]
    unfold am_al
    by_cases hu : u.1 = 9
    · rw [if_pos hu, ih]
      constructor
      · exact Or.inr
      · rintro (⟨h, -⟩ | h)
        · exact absurd hu h
        · exact h
    · rw [if_neg hu, List.mem_cons, ih]
      constructor
      · rintro (h | h)
        · exact Or.inl ⟨hu, h⟩
        · exact Or.inr h
      · rintro (⟨-, h⟩ | h)
        · exact Or.inl h
        · exact Or.inr h
def am_LR (base b : Nat) (S : Nat → Nat) (ls : Array Slot) (L : List am_V) : Prop := lv_has ls L.length (am_al base b S 0 L)
theorem am_LR_at {base b : Nat} {S : Nat → Nat} {ls : Array Slot} {L : List am_V} {i : Nat} {v : am_V} (h : am_LR base b S ls L) (hi : L[i]? = some v) (hv : v.1 ≠ 9) : ls[i]? = some (.val (am_cv base b S v)) :=
  h.2.2 (i, am_cv base b S v) ((am_al_mem L 0).mpr ⟨i, v, hi, hv, by simp⟩)
theorem am_s1_len (L : List am_V) (i : Nat) (v : am_V) : (am_s1 L i v).length = L.length := by
  unfold am_s1
  rw [List.length_set]
  cases i with
  | zero => rfl
  | succ j =>
    simp only [am_k]
    split
    · split
      · rw [List.length_set]
      · rfl
    · rfl
theorem am_s1_get {L : List am_V} {i : Nat} {v : am_V} {j : Nat} {u : am_V} (h : (am_s1 L i v)[j]? = some u) (h9 : u.1 ≠ 9) : (j = i ∧ u = v) ∨ (j ≠ i ∧ L[j]? = some u ∧ ¬ (j + 1 = i ∧ u.1 = 1)) := by
  unfold am_s1 at h
  rw [List.getElem?_set] at h
  by_cases hj : i = j
  · rw [if_pos hj] at h
    split at h
    · cases h; exact Or.inl ⟨hj.symm, rfl⟩
    · cases h
  · rw [if_neg hj] at h
    refine Or.inr ⟨fun e => hj e.symm, ?_⟩
    cases i with
    | zero => exact ⟨h, fun q => by omega⟩
    | succ z =>
      simp only [am_k] at h
      cases hz : L[z]? with
      | none =>
        rw [hz] at h
        refine ⟨h, fun q => ?_⟩
        have e : j = z := by omega
        subst e
        rw [hz] at h
        cases h
      | some w =>
        rw [hz] at h
        simp only at h
        by_cases hw : w.1 = 1
        · rw [if_pos hw, List.getElem?_set] at h
          by_cases hzj : z = j
          · rw [if_pos hzj] at h
            split at h
            · cases h; exact absurd rfl h9
            · cases h
          · rw [if_neg hzj] at h
            exact ⟨h, fun q => by omega⟩
        · rw [if_neg hw] at h
          refine ⟨h, fun q => ?_⟩
          have e : j = z := by omega
          subst e
          rw [hz] at h
          cases h
          exact hw q.2
theorem am_LR_s1 {base b : Nat} {S : Nat → Nat} {ls : Array Slot} {L : List am_V} {i : Nat} {v : am_V} (h : lv_has ls L.length ((i, am_cv base b S v) :: (am_al base b S 0 L).filter (fun q => !(q.1 == i) && !(q.1 + 1 == i && q.2.category == 2)))) : am_LR base b S ls (am_s1 L i v) := by
  refine ⟨by rw [am_s1_len]; exact h.1, h.2.1, fun q hq => h.2.2 q ?_⟩
  obtain ⟨j, u, h1, h2, rfl⟩ := (am_al_mem _ _).mp hq
  rcases am_s1_get h1 h2 with ⟨rfl, rfl⟩ | ⟨h3, h4, h5⟩
  · simp
  · refine List.mem_cons_of_mem _ (List.mem_filter.mpr ⟨(am_al_mem _ _).mpr ⟨j, u, h4, h2, rfl⟩, ?_⟩)
    simp only [Nat.zero_add, am_cv_cat]
    by_cases hu : u.1 = 1
    · have : j + 1 ≠ i := fun e => h5 ⟨e, hu⟩
      simp [h3, this]
    · simp [h3, hu]
theorem am_s2_get {L : List am_V} {i : Nat} {v : am_V} {j : Nat} {u : am_V} (h : (am_s2 L i v)[j]? = some u) (h9 : u.1 ≠ 9) : (j = i ∧ u = v) ∨ (j ≠ i ∧ j ≠ i + 1 ∧ L[j]? = some u ∧ ¬ (j + 1 = i ∧ u.1 = 1)) := by
  unfold am_s2 at h
  rw [List.getElem?_set] at h
  by_cases hj : i + 1 = j
  · rw [if_pos hj] at h
    split at h
    · cases h; exact absurd rfl h9
    · cases h
  · rw [if_neg hj] at h
    rcases am_s1_get h h9 with q | ⟨q1, q2, q3⟩
    · exact Or.inl q
    · exact Or.inr ⟨q1, fun e => hj e.symm, q2, q3⟩
theorem am_s2_len (L : List am_V) (i : Nat) (v : am_V) : (am_s2 L i v).length = L.length := by
  unfold am_s2
  rw [List.length_set, am_s1_len]
theorem am_LR_s2 {base b : Nat} {S : Nat → Nat} {ls : Array Slot} {L : List am_V} {i : Nat} {v : am_V} (h : lv_has ls L.length ((i, am_cv base b S v) :: (am_al base b S 0 L).filter (fun q => !(q.1 == i) && (!(q.1 == i + 1) && !(q.1 + 1 == i && q.2.category == 2))))) : am_LR base b S ls (am_s2 L i v) := by
  refine ⟨by rw [am_s2_len]; exact h.1, h.2.1, fun q hq => h.2.2 q ?_⟩
  obtain ⟨j, u, h1, h2, rfl⟩ := (am_al_mem _ _).mp hq
  rcases am_s2_get h1 h2 with ⟨rfl, rfl⟩ | ⟨h3, h3', h4, h5⟩
  · simp
  · refine List.mem_cons_of_mem _ (List.mem_filter.mpr ⟨(am_al_mem _ _).mpr ⟨j, u, h4, h2, rfl⟩, ?_⟩)
    simp only [Nat.zero_add, am_cv_cat]
    by_cases hu : u.1 = 1
    · have : j + 1 ≠ i := fun e => h5 ⟨e, hu⟩
      simp [h3, h3', this]
    · simp [h3, h3', hu]
