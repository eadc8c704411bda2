/-! THE ABSTRACT MACHINE, whole methods: answers, new cells, calls -/
def am_slen : List Nat := [4, 3, 5, 2, 5, 5, 5, 4, 4, 5, 4, 4, 4, 4, 3, 3, 3]
def am_sbyt : List (List Nat) := [[108, 111, 115, 115], [111, 102, 102], [115, 116, 97, 107, 101], [111, 110], [115, 112, 101, 101, 100], [112, 111, 105, 110, 116], [116, 101, 110, 116, 104], [116, 105, 108, 116], [115, 105, 100, 101], [112, 117, 114, 115, 101], [115, 112, 105, 110], [108, 97, 115, 116], [108, 111, 115, 116], [109, 111, 115, 116], [119, 111, 110], [109, 105, 110], [109, 97, 120]]
def am_nst : List Cond := [.methodLinkNest "LeaningWheel" 56 ⟨"LeaningWheel$Reader", "<init>", "()V"⟩ "LeaningWheel", .methodLinkNest "LeaningWheel" 63 ⟨"LeaningWheel$Machine", "<init>", "()V"⟩ "LeaningWheel", .methodLinkNest "LeaningWheel$Where" 39 ⟨"LeaningWheel$Big", "<init>", "()V"⟩ "LeaningWheel", .methodLinkNest "LeaningWheel$Chances" 11 ⟨"LeaningWheel$Big", "<init>", "()V"⟩ "LeaningWheel", .methodLinkNest "LeaningWheel" 100 ⟨"LeaningWheel$Planner", "<init>", "()V"⟩ "LeaningWheel", .methodLinkNest "LeaningWheel$Reader" 58 ⟨"LeaningWheel", "within", "(III)Z"⟩ "LeaningWheel", .methodLinkNest "LeaningWheel$Texts" 40 ⟨"LeaningWheel", "within", "(III)Z"⟩ "LeaningWheel", .methodLinkNest "LeaningWheel$Machine" 48 ⟨"LeaningWheel", "within", "(III)Z"⟩ "LeaningWheel"]
theorem am_nst_in : ∀ w ∈ am_nst, w ∈ lw_tbl := by
  have h : am_nst = [295, 341, 449, 513, 552, 732, 889, 899].filterMap (fun i => lw_tbl[i]?) := by decide +kernel
  intro w hw
  rw [h] at hw
  obtain ⟨i, -, hi⟩ := List.mem_filterMap.mp hw
  exact List.mem_of_getElem? hi
theorem am_nst_form : ∀ w ∈ am_nst, ∃ a i x h, w = Cond.methodLinkNest a i x h := by
  intro w hw
  simp only [am_nst, List.mem_cons, List.not_mem_nil, or_false] at hw
  rcases hw with rfl | rfl | rfl | rfl | rfl | rfl | rfl | rfl <;> exact ⟨_, _, _, _, rfl⟩
theorem am_nst_warm {s U : State} (hW : s.WarmedH U.vm) (h : ∀ w ∈ am_nst, va_Nw w s) : ∀ w ∈ am_nst, va_Nw w U := by
  intro w hw
  obtain ⟨a, i, x, hh, rfl⟩ := am_nst_form w hw
  exact va_Nw.warmM hW (h _ hw)
theorem am_SR_warm {S : Nat → Nat} {s U : State} (hW : s.WarmedH U.vm) (h : am_SR S s) : am_SR S U := fun i hi => (h i hi).warm hW
def am_cat (st : List am_V) : Nat := (st.map fun v => if v.1 = 1 then 2 else 1).sum
abbrev am_R : Type := Option am_V × am_Sh × am_G
def am_cl (g : am_G) (k : Nat) : am_G := fun a j => if a = k then 0 else g a j
def am_cp (g : am_G) (src sp dst dp n : Nat) : am_G := fun a j => if a = dst then (if dp ≤ j ∧ j < dp + n then g src (sp + (j - dp)) else g a j) else g a j
def am_tot (sh : am_Sh) : Nat := (sh.map fun o => o.2.1).sum
def am_kind (I : Instr) : Nat := match I with
  | .return_ => 1
  | .ireturn => 1
  | .lreturn => 1
  | .areturn => 1
  | .new _ => 2
  | .newarray _ => 2
  | .anewarray _ => 2
  | .invokestatic _ => 3
  | .invokevirtual _ => 4
  | .invokespecial _ => 5
  | _ => 0
def am_ret (e : am_E) (st : List am_V) : Option (Option am_V) := match e.1 with
  | .return_ => match st with
    | [] => some none
    | _ => none
  | .ireturn => match st with
    | [v] => if v.1 = 0 then (if e.2.2.1 = 1 then (if v.2 = 0 ∨ v.2 = 1 then some (some v) else none) else some (some v)) else none
    | _ => none
  | .lreturn => match st with
    | [v] => if v.1 = 1 then some (some v) else none
    | _ => none
  | .areturn => match st with
    | [v] => if v.1 = 4 then some (some v) else none
    | _ => none
  | _ => none
/-- new cells: an object, an array -/
def am_new (e : am_E) (pc : Nat) (st : List am_V) (sh : am_Sh) (g : am_G) : Option (Nat × List am_V × am_Sh × am_G) := match e.1 with
  | .new _ => some (pc + 3, (2, (sh.length : Int)) :: st, sh ++ [(4 + e.2.2.1, (am_cls.getD e.2.2.1 []).length, List.replicate (am_cls.getD e.2.2.1 []).length 0)], am_cl g sh.length)
  | .newarray t => (am_pp 0 st).bind fun q => if 0 ≤ w32 q.1 ∧ w32 q.1 ≤ 100000 then
      (match t with
      | .int => some 0
      | .long => some 1
      | .boolean => some 2
      | _ => none : Option Nat).bind fun k => some (pc + 2, (2, (sh.length : Int)) :: q.2, sh ++ [(k, (w32 q.1).toNat, [])], am_cl g sh.length) else none
  | .anewarray _ => (am_pp 0 st).bind fun q => if 0 ≤ w32 q.1 ∧ w32 q.1 ≤ 100000 then some (pc + 3, (2, (sh.length : Int)) :: q.2, sh ++ [(3, (w32 q.1).toNat, List.replicate (w32 q.1).toNat 0)], am_cl g sh.length) else none
  | _ => none
def am_args (n : Nat) (st : List am_V) : Option (List am_V × List am_V) := if n ≤ st.length then some ((st.take n).reverse, st.drop n) else none
def am_push (r : Option am_V) (st : List am_V) : List am_V := match r with
  | none => st
  | some v => v :: st
def am_cpy (st : List am_V) (sh : am_Sh) (g : am_G) : Option (List am_V × am_G) :=
  (am_pp 0 st).bind fun n => (am_pp 0 n.2).bind fun dp => (am_pp 2 dp.2).bind fun dst => (am_pp 0 dst.2).bind fun sp => (am_pp 2 sp.2).bind fun src =>
    (sh[src.1.toNat]?).bind fun o0 => (sh[dst.1.toNat]?).bind fun o1 => if o0.1 = o1.1 ∧ (o0.1 = 0 ∨ o0.1 = 1) ∧ 0 ≤ w32 sp.1 ∧ 0 ≤ w32 dp.1 ∧ 0 ≤ w32 n.1 ∧ w32 sp.1 + w32 n.1 ≤ (o0.2.1 : Int) ∧ w32 dp.1 + w32 n.1 ≤ (o1.2.1 : Int) ∧ am_cat src.2 ≤ 8 then
      some (src.2, am_cp g src.1.toNat (w32 sp.1).toNat dst.1.toNat (w32 dp.1).toNat (w32 n.1).toNat) else none
abbrev am_M : Type := MethodName × ByteArray × Nat × Option FieldType × Nat
/-- the receiver is of the class ci (99: String) -/
def am_rcv (ci : Nat) (as : List am_V) (sh : am_Sh) : Option Nat := match as with
  | [] => none
  | v :: _ => if v.1 = 2 then (if ci = 99 then none else (am_arr sh v.2 (4 + ci)).bind fun _ => some 0) else if v.1 = 4 ∧ v.2.toNat < 17 ∧ ci = 99 then some 0 else none
def am_call (cal : Nat → List am_V → am_Sh → am_G → Option am_R) (mi : Nat → Option am_M) (e : am_E) (st : List am_V) (sh : am_Sh) (g : am_G) : Option (List am_V × am_Sh × am_G) := match e.1 with
  | .invokestatic _ => if e.2.2.1 = 1001 then (am_cpy st sh g).bind fun q => some (q.1, sh, q.2)
      else (am_args e.2.2.2.toNat st).bind fun q => if am_cat q.2 ≤ 8 then (cal e.2.2.1 q.1 sh g).bind fun r => some (am_push r.1 q.2, r.2.1, r.2.2) else none
  | .invokevirtual _ => (am_args (e.2.2.2.toNat + 1) st).bind fun q => if am_cat q.2 ≤ 8 then (mi e.2.2.1).bind fun M => (am_rcv M.2.2.2.2 q.1 sh).bind fun _ => (cal e.2.2.1 q.1 sh g).bind fun r => some (am_push r.1 q.2, r.2.1, r.2.2) else none
  | .invokespecial _ => if e.2.2.1 = 1000 then (am_pp 2 st).bind fun q => if am_cat q.2 ≤ 8 then some (q.2, sh, g) else none
      else (am_args (e.2.2.2.toNat + 1) st).bind fun q => if am_cat q.2 ≤ 8 then (match q.1 with
        | [] => none
        | v :: _ => if v.1 = 2 then some v.2 else none).bind fun _ => (cal e.2.2.1 q.1 sh g).bind fun r => some (am_push r.1 q.2, r.2.1, r.2.2) else none
  | _ => none
def am_run (cal : Nat → List am_V → am_Sh → am_G → Option am_R) (mi : Nat → Option am_M) (tb : Nat → Option am_E) (sn : Nat) (sx : Nat → Int) : Nat → Nat → List am_V → List am_V → am_Sh → am_G → Option am_R
  | 0, _, _, _, _, _ => none
  | f + 1, pc, L, st, sh, g => (tb pc).bind fun e => match am_kind e.1 with
    | 0 => (am_stp sn sx e pc L st sh g).bind fun s => am_run cal mi tb sn sx f s.1 s.2.1 s.2.2.1 s.2.2.2.1 s.2.2.2.2
    | 1 => (am_ret e st).bind fun r => some (r, sh, g)
    | 2 => (am_new e pc st sh g).bind fun s => am_run cal mi tb sn sx f s.1 L s.2.1 s.2.2.1 s.2.2.2
    | _ => (am_call cal mi e st sh g).bind fun s => am_run cal mi tb sn sx f (pc + 3) L s.1 s.2.1 s.2.2
/-- the locals with which a method begins -/
def am_lay : List am_V → List am_V
  | [] => []
  | v :: t => if v.1 = 1 then v :: (9, 0) :: am_lay t else v :: am_lay t
def am_loc (n : Nat) (args : List am_V) : List am_V := am_lay args ++ List.replicate (n - (am_lay args).length) (9, 0)
/-- String's length and charAt, of constants -/
def am_prim (mid : Nat) (as : List am_V) (sh : am_Sh) (g : am_G) : Option am_R := if mid = 1002 then (match as with
  | [v] => if v.1 = 4 ∧ v.2.toNat < 17 then some (some (0, ((am_slen.getD v.2.toNat 0 : Nat) : Int)), sh, g) else none
  | _ => none) else if mid = 1003 then (match as with
  | [v, k] => if v.1 = 4 ∧ v.2.toNat < 17 ∧ k.1 = 0 then (am_xs (am_slen.getD v.2.toNat 0) k.2).bind fun j => some (some (0, (((am_sbyt.getD v.2.toNat []).getD j 0 : Nat) : Int)), sh, g) else none
  | _ => none) else none
def am_ev (mi : Nat → Option am_M) (tb : Nat → Nat → Option am_E) (sn : Nat) (sx : Nat → Int) : Nat → Nat → Nat → List am_V → am_Sh → am_G → Option am_R
  | 0, _, _, _, _, _ => none
  | d + 1, f, mid, as, sh, g => if 1002 ≤ mid then (if 6 ≤ d then am_prim mid as sh g else none) else (mi mid).bind fun M => if (am_lay as).length ≤ M.2.2.1 then am_run (am_ev mi tb sn sx d f) mi (tb mid) sn sx f 0 (am_loc M.2.2.1 as) [] sh g else none
theorem am_tot_app (sh : am_Sh) (o : Nat × Nat × List Nat) : am_tot (sh ++ [o]) = am_tot sh + o.2.1 := by simp [am_tot]
theorem am_new_len {e : am_E} {pc : Nat} {st : List am_V} {sh : am_Sh} {g : am_G} {r : Nat × List am_V × am_Sh × am_G} (h : am_new e pc st sh g = some r) : sh.length ≤ r.2.2.1.length ∧ am_tot sh ≤ am_tot r.2.2.1 := by
  obtain ⟨I, n, a, z⟩ := e
  cases I <;> simp only [am_new, Option.bind_eq_some_iff, Option.some.injEq, reduceCtorEq] at h
  case new k => subst h; simp [am_tot]
  case newarray t =>
    obtain ⟨q, -, h⟩ := h
    split at h
    · obtain ⟨k, -, h⟩ := Option.bind_eq_some_iff.mp h
      cases h
      simp [am_tot]
    · cases h
  case anewarray t =>
    obtain ⟨q, -, h⟩ := h
    split at h
    · cases h
      simp [am_tot]
    · cases h
def am_mono (cal : Nat → List am_V → am_Sh → am_G → Option am_R) : Prop := ∀ mid as sh g r, cal mid as sh g = some r → sh.length ≤ r.2.1.length ∧ am_tot sh ≤ am_tot r.2.1
theorem am_call_len {cal : Nat → List am_V → am_Sh → am_G → Option am_R} {mi : Nat → Option am_M} (hc : am_mono cal) {e : am_E} {st : List am_V} {sh : am_Sh} {g : am_G} {r : List am_V × am_Sh × am_G} (h : am_call cal mi e st sh g = some r) : sh.length ≤ r.2.1.length ∧ am_tot sh ≤ am_tot r.2.1 := by
  obtain ⟨I, n, a, z⟩ := e
  cases I <;> simp only [am_call, reduceCtorEq] at h
  all_goals repeat' (first | contradiction | split at h)
  all_goals (try simp only [Option.bind_eq_some_iff, Option.some.injEq, reduceCtorEq] at h)
  all_goals repeat' (first | contradiction | (obtain ⟨_, _, h⟩ := h) | split at h)
  all_goals (try simp only [Option.bind_eq_some_iff, Option.some.injEq, reduceCtorEq] at h)
  all_goals repeat' (first | contradiction | (obtain ⟨_, _, h⟩ := h) | split at h)
  all_goals subst_vars
  all_goals (first | exact ⟨Nat.le_refl _, Nat.le_refl _⟩ | exact hc _ _ _ _ _ (by assumption))
theorem am_run_len {cal : Nat → List am_V → am_Sh → am_G → Option am_R} {mi : Nat → Option am_M} {tb : Nat → Option am_E} {sn : Nat} {sx : Nat → Int} (hc : am_mono cal) : ∀ (f pc : Nat) (L st : List am_V) (sh : am_Sh) (g : am_G) (r : am_R), am_run cal mi tb sn sx f pc L st sh g = some r → sh.length ≤ r.2.1.length ∧ am_tot sh ≤ am_tot r.2.1 := by
  intro f
  induction f with
  | zero => intro pc L st sh g r h; cases h
  | succ f ih =>
    intro pc L st sh g r h
    unfold am_run at h
    obtain ⟨e, -, h⟩ := Option.bind_eq_some_iff.mp h
    split at h
    · obtain ⟨⟨p1, L1, s1, sh1, g1⟩, h1, h⟩ := Option.bind_eq_some_iff.mp h
      obtain ⟨e1, e2⟩ := am_stp_len h1
      have h3 := ih _ _ _ _ _ _ h
      simp only at h3
      have e3 : am_tot sh1 = am_tot sh := by unfold am_tot; rw [e2]
      exact ⟨by omega, by omega⟩
    · obtain ⟨q, -, h⟩ := Option.bind_eq_some_iff.mp h
      cases h
      exact ⟨Nat.le_refl _, Nat.le_refl _⟩
    · obtain ⟨q, h1, h⟩ := Option.bind_eq_some_iff.mp h
      have h2 := am_new_len h1
      have h3 := ih _ _ _ _ _ _ h
      exact ⟨Nat.le_trans h2.1 h3.1, Nat.le_trans h2.2 h3.2⟩
    · obtain ⟨q, h1, h⟩ := Option.bind_eq_some_iff.mp h
      have h2 := am_call_len hc h1
      have h3 := ih _ _ _ _ _ _ h
      exact ⟨Nat.le_trans h2.1 h3.1, Nat.le_trans h2.2 h3.2⟩
theorem am_ev_len {mi : Nat → Option am_M} {tb : Nat → Nat → Option am_E} {sn : Nat} {sx : Nat → Int} (f : Nat) : ∀ d, am_mono (am_ev mi tb sn sx d f) := by
  intro d
  induction d with
  | zero => intro mid as sh g r h; cases h
  | succ d ih =>
    intro mid as sh g r h
    unfold am_ev at h
    split at h
    · split at h
      · unfold am_prim at h
        repeat' (first | contradiction | split at h)
        · cases h; exact ⟨Nat.le_refl _, Nat.le_refl _⟩
        · obtain ⟨j, -, h⟩ := Option.bind_eq_some_iff.mp h
          cases h
          exact ⟨Nat.le_refl _, Nat.le_refl _⟩
      · cases h
    · obtain ⟨M, -, h⟩ := Option.bind_eq_some_iff.mp h
      split at h
      · exact am_run_len ih _ _ _ _ _ _ _ h
      · cases h
