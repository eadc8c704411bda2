/-! THE PILE: the reference's reading as steps; what a one, a product, a sum of the class are to it -/
def opn : List Nat → Nat
  | [] => 0
  | o :: t => opn t + (if o = 2 ∨ 40 ≤ o then 1 else 0)
def srp : List Nat → List Nat
  | [] => []
  | o :: t => if o = 2 then srp t else o :: t
def ngs : List Nat → List Int
  | [] => []
  | o :: t => if o = 2 then 20006 :: ngs t else []
def stl (l : Nat) : List Nat → List Nat
  | [] => []
  | o :: t => if o < 40 ∧ l ≤ o then stl l t else o :: t
def ste (l : Nat) : List Nat → List Int
  | [] => []
  | o :: t => if o < 40 ∧ l ≤ o then ((o : Int) + 19997) :: ste l t else []
def lat : List Nat → Nat
  | [] => 0
  | o :: t => if 40 ≤ o then o else lat t
theorem srp_2 (t : List Nat) : srp (2 :: t) = srp t := rfl
theorem ngs_2 (t : List Nat) : ngs (2 :: t) = 20006 :: ngs t := rfl
theorem srp_o {o : Nat} (h : o ≠ 2) (t : List Nat) : srp (o :: t) = o :: t := by rw [srp, if_neg h]
theorem ngs_o {o : Nat} (h : o ≠ 2) (t : List Nat) : ngs (o :: t) = [] := by rw [ngs, if_neg h]
theorem stl_y {o l : Nat} (h : o < 40 ∧ l ≤ o) (t : List Nat) : stl l (o :: t) = stl l t := by rw [stl, if_pos h]
theorem stl_n {o l : Nat} (h : ¬ (o < 40 ∧ l ≤ o)) (t : List Nat) : stl l (o :: t) = o :: t := by rw [stl, if_neg h]
theorem ste_y {o l : Nat} (h : o < 40 ∧ l ≤ o) (t : List Nat) : ste l (o :: t) = ((o : Int) + 19997) :: ste l t := by rw [ste, if_pos h]
theorem ste_n {o l : Nat} (h : ¬ (o < 40 ∧ l ≤ o)) (t : List Nat) : ste l (o :: t) = [] := by rw [ste, if_neg h]
theorem lat_y {o : Nat} (h : 40 ≤ o) (t : List Nat) : lat (o :: t) = o := by rw [lat, if_pos h]
theorem lat_n {o : Nat} (h : ¬ 40 ≤ o) (t : List Nat) : lat (o :: t) = lat t := by rw [lat, if_neg h]
theorem opn_y {o : Nat} (h : o = 2 ∨ 40 ≤ o) (t : List Nat) : opn (o :: t) = opn t + 1 := by rw [opn, if_pos h]
theorem opn_n {o : Nat} (h : ¬ (o = 2 ∨ 40 ≤ o)) (t : List Nat) : opn (o :: t) = opn t := by rw [opn, if_neg h]; rfl
abbrev Sst := Nat × List Nat × Bool × List Int
noncomputable def rbg (T : Nat → Int) (L k : Nat) (p : Nat) (σ : List Nat) (out : List Int) : Nat × Sst :=
  if tK T L p = -3 then (if 9999 < tV T L p then (2, p, σ, false, out) else (0, nx T L p, srp σ, true, out ++ tV T L p :: ngs σ))
  else if tK T L p = -2 ∧ 4 ≤ tV T L p ∧ tV T L p < 15 then (if (tV T L p < 9 ↔ k < 2) then (0, nx T L p, srp σ, true, out ++ (10000 + tV T L p - 4) :: ngs σ) else (5, p, σ, false, out))
  else if tK T L p = 40 then (if opn σ = 8 then (3, p, σ, false, out) else (0, nx T L p, 40 :: σ, false, out))
  else if tK T L p = 45 then (if opn σ = 8 then (3, p, σ, false, out) else (0, nx T L p, 2 :: σ, false, out))
  else if tK T L p = -2 ∧ 15 ≤ tV T L p then (if tK T L (nx T L p) = 40 then (if opn σ = 8 then (3, nx T L p, σ, false, out) else (0, nx T L (nx T L p), (if tV T L p = 15 then 41 else 42) :: σ, false, out)) else (1, nx T L p, σ, false, out))
  else (1, p, σ, false, out)
noncomputable def rbe (T : Nat → Int) (L : Nat) (p : Nat) (σ : List Nat) (out : List Int) : Nat × Sst :=
  if tK T L p = 43 ∨ tK T L p = 45 then (0, nx T L p, (if tK T L p = 43 then 3 else 4) :: stl 3 σ, false, out ++ ste 3 σ)
  else if tK T L p = 42 ∨ tK T L p = 47 then (0, nx T L p, (if tK T L p = 42 then 5 else 6) :: stl 5 σ, false, out ++ ste 5 σ)
  else if ((lat σ = 41 ∨ lat σ = 42) ↔ tK T L p = 44) then (if lat σ = 41 ∨ lat σ = 42 then (0, nx T L p, (lat σ + 2) :: (stl 3 σ).tail, false, out ++ ste 3 σ)
    else (0, nx T L p, srp (stl 3 σ).tail, true, out ++ ste 3 σ ++ (if lat σ = 40 then [] else [if lat σ = 43 then 20004 else 20005]) ++ ngs (stl 3 σ).tail))
  else (1, p, σ, true, out)
def gon (T : Nat → Int) (L : Nat) (p : Nat) (σ : List Nat) : Prop := tK T L p = 43 ∨ tK T L p = 45 ∨ tK T L p = 42 ∨ tK T L p = 47 ∨ ((tK T L p = 41 ∨ tK T L p = 44) ∧ 0 < lat σ)
noncomputable def rsm (T : Nat → Int) (L k : Nat) (s : Sst) : Nat × Sst := if s.2.2.1 = true then rbe T L s.1 s.2.1 s.2.2.2 else rbg T L k s.1 s.2.1 s.2.2.2
def goes (T : Nat → Int) (L : Nat) (s : Sst) : Prop := s.2.2.1 = false ∨ gon T L s.1 s.2.1
def rn (T : Nat → Int) (L k : Nat) : Nat → Sst → Nat × Sst → Prop
  | 0, s, r => r = (0, s)
  | n + 1, s, r => goes T L s ∧ (((rsm T L k s).1 = 0 ∧ rn T L k n (rsm T L k s).2 r) ∨ ((rsm T L k s).1 ≠ 0 ∧ r = rsm T L k s))
def Rn (T : Nat → Int) (L k : Nat) (s : Sst) (r : Nat × Sst) : Prop := ∃ n, rn T L k n s r
theorem Rn.refl {T : Nat → Int} {L k : Nat} {s : Sst} : Rn T L k s (0, s) := ⟨0, rfl⟩
theorem rn_trans {T : Nat → Int} {L k : Nat} {s' : Sst} {r : Nat × Sst} (h2 : Rn T L k s' r) : ∀ (n : Nat) (s : Sst), rn T L k n s (0, s') → Rn T L k s r := by
  intro n
  induction n with
  | zero => intro s h; cases h; exact h2
  | succ n ih =>
    intro s h
    obtain ⟨h0, h | h⟩ := h
    · obtain ⟨m, hm⟩ := ih _ h.2
      exact ⟨m + 1, h0, Or.inl ⟨h.1, hm⟩⟩
    · exact absurd (congrArg Prod.fst h.2).symm h.1
theorem Rn.trans {T : Nat → Int} {L k : Nat} {s s' : Sst} {r : Nat × Sst} (h1 : Rn T L k s (0, s')) (h2 : Rn T L k s' r) : Rn T L k s r := by
  obtain ⟨n, h1⟩ := h1
  exact rn_trans h2 n s h1
theorem Rn.one {T : Nat → Int} {L k : Nat} {s s' : Sst} (h0 : goes T L s) (h : rsm T L k s = (0, s')) : Rn T L k s (0, s') := ⟨1, h0, Or.inl ⟨by rw [h], by rw [h]; rfl⟩⟩
theorem Rn.bad {T : Nat → Int} {L k f : Nat} {s s' : Sst} (h0 : goes T L s) (hf : f ≠ 0) (h : rsm T L k s = (f, s')) : Rn T L k s (f, s') := ⟨1, h0, Or.inr ⟨by rw [h]; exact hf, h.symm⟩⟩
/-- a fault f at q -/
def Fl (T : Nat → Int) (L k : Nat) (f q : Nat) (s : Sst) : Prop := f ≠ 0 ∧ ((∃ s', Rn T L k s (f, s') ∧ s'.1 = q) ∨ (f = 1 ∧ ∃ s', Rn T L k s (0, s') ∧ ¬ goes T L s' ∧ s'.1 = q ∧ stl 3 s'.2.1 ≠ []))
theorem Fl.pre {T : Nat → Int} {L k f q : Nat} {s s' : Sst} (h1 : Rn T L k s (0, s')) (h2 : Fl T L k f q s') : Fl T L k f q s := by
  obtain ⟨h0, ⟨u, a, b⟩ | ⟨e, u, a, b⟩⟩ := h2
  · exact ⟨h0, Or.inl ⟨u, h1.trans a, b⟩⟩
  · exact ⟨h0, Or.inr ⟨e, u, h1.trans a, b⟩⟩
theorem Fl.one {T : Nat → Int} {L k f q : Nat} {s s' : Sst} (h0 : goes T L s) (hf : f ≠ 0) (h : rsm T L k s = (f, s')) (hq : s'.1 = q) : Fl T L k f q s := ⟨hf, Or.inl ⟨s', Rn.bad h0 hf h, hq⟩⟩
def TopP (σ : List Nat) : Prop := σ = [] ∨ ∃ o t, σ = o :: t ∧ (o = 3 ∨ o = 4 ∨ 40 ≤ o)
def TopO (σ : List Nat) : Prop := σ = [] ∨ ∃ o t, σ = o :: t ∧ 40 ≤ o
theorem TopP.fs {σ : List Nat} (h : TopP σ) : srp σ = σ ∧ ngs σ = [] ∧ stl 5 σ = σ ∧ ste 5 σ = [] := by
  rcases h with rfl | ⟨o, t, rfl, h⟩
  · exact ⟨rfl, rfl, rfl, rfl⟩
  · exact ⟨srp_o (by omega) t, ngs_o (by omega) t, stl_n (by omega) t, ste_n (by omega) t⟩
theorem TopO.p {σ : List Nat} (h : TopO σ) : TopP σ := by
  rcases h with h | ⟨o, t, h, h1⟩
  · exact Or.inl h
  · exact Or.inr ⟨o, t, h, by omega⟩
theorem TopO.fs {σ : List Nat} (h : TopO σ) : stl 3 σ = σ ∧ ste 3 σ = [] := by
  rcases h with rfl | ⟨o, t, rfl, h⟩
  · exact ⟨rfl, rfl⟩
  · exact ⟨stl_n (by omega) t, ste_n (by omega) t⟩
def MP (m : List Nat) : Prop := m = [] ∨ m = [5] ∨ m = [6]
def MsQ (m : List Nat) : Prop := m = [] ∨ m = [3] ∨ m = [4]
theorem MP.fs {m : List Nat} (h : MP m) (σ : List Nat) : stl 5 (m ++ σ) = stl 5 σ ∧ ste 5 (m ++ σ) = ste 3 m ++ ste 5 σ ∧ stl 3 (m ++ σ) = stl 3 σ ∧ ste 3 (m ++ σ) = ste 3 m ++ ste 3 σ ∧ lat (m ++ σ) = lat σ := by
  rcases h with rfl | rfl | rfl <;> exact ⟨rfl, rfl, rfl, rfl, rfl⟩
theorem MsQ.fs {m : List Nat} (h : MsQ m) (σ : List Nat) : stl 3 (m ++ σ) = stl 3 σ ∧ ste 3 (m ++ σ) = ste 3 m ++ ste 3 σ ∧ lat (m ++ σ) = lat σ := by
  rcases h with rfl | rfl | rfl <;> exact ⟨rfl, rfl, rfl⟩
/-- a one from p to p' with codes C, where o are open -/
def POne (T : Nat → Int) (L k o p p' : Nat) (C : List Int) : Prop := ∀ σ out, opn σ = o → Rn T L k (p, σ, false, out) (0, p', srp σ, true, out ++ (C ++ ngs σ))
def POneF (T : Nat → Int) (L k o p f q : Nat) : Prop := ∀ σ out, opn σ = o → Fl T L k f q (p, σ, false, out)
def PPr (T : Nat → Int) (L k o p p' : Nat) (C : List Int) : Prop := ∃ m, MP m ∧ ∀ σ out, opn σ = o → TopP σ → ∃ out', Rn T L k (p, σ, false, out) (0, p', m ++ σ, true, out') ∧ out' ++ ste 3 m = out ++ C
def PPrF (T : Nat → Int) (L k o p f q : Nat) : Prop := ∀ σ out, opn σ = o → TopP σ → Fl T L k f q (p, σ, false, out)
def PSm (T : Nat → Int) (L k o p p' : Nat) (C : List Int) : Prop := ∃ m m', MP m ∧ MsQ m' ∧ ∀ σ out, opn σ = o → TopO σ → ∃ out', Rn T L k (p, σ, false, out) (0, p', m ++ (m' ++ σ), true, out') ∧ out' ++ (ste 3 m ++ ste 3 m') = out ++ C
def PSmF (T : Nat → Int) (L k o p f q : Nat) : Prop := ∀ σ out, opn σ = o → TopO σ → Fl T L k f q (p, σ, false, out)
theorem goes_f {T : Nat → Int} {L p : Nat} {σ : List Nat} {out : List Int} : goes T L (p, σ, false, out) := Or.inl rfl
theorem rst_f {T : Nat → Int} {L k p : Nat} {σ : List Nat} {out : List Int} : rsm T L k (p, σ, false, out) = rbg T L k p σ out := rfl
theorem rst_t {T : Nat → Int} {L k p : Nat} {σ : List Nat} {out : List Int} : rsm T L k (p, σ, true, out) = rbe T L p σ out := rfl
/-! ones -/
theorem one_num {T : Nat → Int} {L k o p : Nat} (h : tK T L p = -3) (hv : tV T L p ≤ 9999) : POne T L k o p (nx T L p) [tV T L p] := fun σ out _ => Rn.one goes_f (by rw [rst_f, rbg, if_pos h, if_neg (by omega)]; rfl)
theorem one_numF {T : Nat → Int} {L k o p : Nat} (h : tK T L p = -3) (hv : 9999 < tV T L p) : POneF T L k o p 2 p := fun σ out _ => Fl.one goes_f (by decide) (by rw [rst_f, rbg, if_pos h, if_pos hv]) rfl
theorem one_nam {T : Nat → Int} {L k o p : Nat} (h : tK T L p = -2) (hv : 4 ≤ tV T L p ∧ tV T L p < 15) (hk : tV T L p < 9 ↔ k < 2) : POne T L k o p (nx T L p) [10000 + tV T L p - 4] := fun σ out _ => Rn.one goes_f (by rw [rst_f, rbg, if_neg (by omega), if_pos ⟨h, hv⟩, if_pos hk]; rfl)
theorem one_namF {T : Nat → Int} {L k o p : Nat} (h : tK T L p = -2) (hv : 4 ≤ tV T L p ∧ tV T L p < 15) (hk : ¬ (tV T L p < 9 ↔ k < 2)) : POneF T L k o p 5 p := fun σ out _ => Fl.one goes_f (by decide) (by rw [rst_f, rbg, if_neg (by omega), if_pos ⟨h, hv⟩, if_neg hk]) rfl
theorem one_badF {T : Nat → Int} {L k o p : Nat} (h1 : tK T L p ≠ -3) (h2 : tK T L p = -2 → tV T L p < 4) (h3 : tK T L p ≠ 40) (h4 : tK T L p ≠ 45) : POneF T L k o p 1 p := fun σ out _ => Fl.one goes_f (by decide) (by rw [rst_f, rbg, if_neg h1, if_neg (fun q => by have := h2 q.1; omega), if_neg h3, if_neg h4, if_neg (fun q => by have := h2 q.1; omega)]) rfl
theorem one_opnF {T : Nat → Int} {L k p : Nat} (h : tK T L p = 40 ∨ tK T L p = 45) : POneF T L k 8 p 3 p := fun σ out ho => by
  rcases h with h | h
  · exact Fl.one goes_f (by decide) (by rw [rst_f, rbg, if_neg (by omega), if_neg (by omega), if_pos h, if_pos ho]) rfl
  · exact Fl.one goes_f (by decide) (by rw [rst_f, rbg, if_neg (by omega), if_neg (by omega), if_neg (by omega), if_pos h, if_pos ho]) rfl
theorem step_par {T : Nat → Int} {L k p : Nat} (h : tK T L p = 40) {σ : List Nat} {out : List Int} (ho : opn σ ≠ 8) : Rn T L k (p, σ, false, out) (0, nx T L p, 40 :: σ, false, out) := Rn.one goes_f (by rw [rst_f, rbg, if_neg (by omega), if_neg (by omega), if_pos h, if_neg ho])
theorem step_neg {T : Nat → Int} {L k p : Nat} (h : tK T L p = 45) {σ : List Nat} {out : List Int} (ho : opn σ ≠ 8) : Rn T L k (p, σ, false, out) (0, nx T L p, 2 :: σ, false, out) := Rn.one goes_f (by rw [rst_f, rbg, if_neg (by omega), if_neg (by omega), if_neg (by omega), if_pos h, if_neg ho])
theorem step_pair {T : Nat → Int} {L k p : Nat} (h : tK T L p = -2) (hv : 15 ≤ tV T L p) (hn : tK T L (nx T L p) = 40) {σ : List Nat} {out : List Int} (ho : opn σ ≠ 8) : Rn T L k (p, σ, false, out) (0, nx T L (nx T L p), (if tV T L p = 15 then 41 else 42) :: σ, false, out) := Rn.one goes_f (by rw [rst_f, rbg, if_neg (by omega), if_neg (by omega), if_neg (by omega), if_neg (by omega), if_pos ⟨h, hv⟩, if_pos hn, if_neg ho])
theorem one_pairF1 {T : Nat → Int} {L k o p : Nat} (h : tK T L p = -2) (hv : 15 ≤ tV T L p) (hn : tK T L (nx T L p) ≠ 40) : POneF T L k o p 1 (nx T L p) := fun σ out _ => Fl.one goes_f (by decide) (by rw [rst_f, rbg, if_neg (by omega), if_neg (by omega), if_neg (by omega), if_neg (by omega), if_pos ⟨h, hv⟩, if_neg hn]) rfl
theorem one_pairF3 {T : Nat → Int} {L k p : Nat} (h : tK T L p = -2) (hv : 15 ≤ tV T L p) (hn : tK T L (nx T L p) = 40) : POneF T L k 8 p 3 (nx T L p) := fun σ out ho => Fl.one goes_f (by decide) (by rw [rst_f, rbg, if_neg (by omega), if_neg (by omega), if_neg (by omega), if_neg (by omega), if_pos ⟨h, hv⟩, if_pos hn, if_pos ho]) rfl
theorem one_neg {T : Nat → Int} {L k o p p' : Nat} {C : List Int} (h : tK T L p = 45) (ho : o < 8) (H : POne T L k (o + 1) (nx T L p) p' C) : POne T L k o p p' (C ++ [20006]) := fun σ out hσ => by
  have h1 := (step_neg (k := k) h (out := out) (show opn σ ≠ 8 by omega)).trans (H (2 :: σ) out (by rw [opn_y (Or.inl rfl)]; omega))
  rw [srp_2, ngs_2] at h1
  rw [List.append_assoc]
  exact h1
theorem one_negF {T : Nat → Int} {L k o p f q : Nat} (h : tK T L p = 45) (ho : o < 8) (H : POneF T L k (o + 1) (nx T L p) f q) : POneF T L k o p f q := fun σ out hσ => Fl.pre (step_neg h (by omega)) (H (2 :: σ) out (by rw [opn_y (Or.inl rfl)]; omega))
theorem topO_y {o : Nat} (h : 40 ≤ o) (t : List Nat) : TopO (o :: t) := Or.inr ⟨o, t, rfl, h⟩
/-- what a closing sign does behind a sum -/
theorem close_sum {T : Nat → Int} {L k p o : Nat} {m m' σ : List Nat} {out : List Int} (hm : MP m) (hm' : MsQ m') (h40 : 40 ≤ o) (ho : o = 40 ∨ o = 43 ∨ o = 44) (h : tK T L p = 41) : Rn T L k (p, m ++ (m' ++ o :: σ), true, out) (0, nx T L p, srp σ, true, out ++ (ste 3 m ++ ste 3 m') ++ ((if o = 40 then [] else [if o = 43 then 20004 else 20005]) ++ ngs σ)) := by
  have f1 := hm.fs (m' ++ o :: σ)
  have f2 := hm'.fs (o :: σ)
  have f3 := (topO_y h40 σ).fs
  have hl : lat (m ++ (m' ++ o :: σ)) = o := by rw [f1.2.2.2.2, f2.2.2, lat_y h40]
  have hs : stl 3 (m ++ (m' ++ o :: σ)) = o :: σ := by rw [f1.2.2.1, f2.1, f3.1]
  have he : ste 3 (m ++ (m' ++ o :: σ)) = ste 3 m ++ ste 3 m' := by rw [f1.2.2.2.1, f2.2.1, f3.2, List.append_nil]
  refine Rn.one (Or.inr (Or.inr (Or.inr (Or.inr (Or.inr ⟨Or.inl h, by show 0 < lat (m ++ (m' ++ o :: σ)); rw [hl]; omega⟩))))) ?_
  rw [rst_t, rbe, if_neg (by omega), if_neg (by omega), hl, if_pos (by omega), if_neg (by omega), hs, he]
  simp only [List.tail_cons, List.append_assoc]
theorem comma_sum {T : Nat → Int} {L k p o : Nat} {m m' σ : List Nat} {out : List Int} (hm : MP m) (hm' : MsQ m') (ho : o = 41 ∨ o = 42) (h : tK T L p = 44) : Rn T L k (p, m ++ (m' ++ o :: σ), true, out) (0, nx T L p, (o + 2) :: σ, false, out ++ (ste 3 m ++ ste 3 m')) := by
  have h40 : 40 ≤ o := by omega
  have f1 := hm.fs (m' ++ o :: σ)
  have f2 := hm'.fs (o :: σ)
  have f3 := (topO_y h40 σ).fs
  have hl : lat (m ++ (m' ++ o :: σ)) = o := by rw [f1.2.2.2.2, f2.2.2, lat_y h40]
  have hs : stl 3 (m ++ (m' ++ o :: σ)) = o :: σ := by rw [f1.2.2.1, f2.1, f3.1]
  have he : ste 3 (m ++ (m' ++ o :: σ)) = ste 3 m ++ ste 3 m' := by rw [f1.2.2.2.1, f2.2.1, f3.2, List.append_nil]
  refine Rn.one (Or.inr (Or.inr (Or.inr (Or.inr (Or.inr ⟨Or.inr h, by show 0 < lat (m ++ (m' ++ o :: σ)); rw [hl]; omega⟩))))) ?_
  rw [rst_t, rbe, if_neg (by omega), if_neg (by omega), hl, if_pos (by omega), if_pos ho, hs, he]
  simp only [List.tail_cons]
/-- another sign than that which is wanted -/
theorem wrong_sum {T : Nat → Int} {L k p o : Nat} {m m' σ : List Nat} {out : List Int} (hm : MP m) (hm' : MsQ m') (h40 : 40 ≤ o) (h : if o = 41 ∨ o = 42 then tK T L p ≠ 44 else tK T L p ≠ 41) (h1 : tK T L p ≠ 43 ∧ tK T L p ≠ 45 ∧ tK T L p ≠ 42 ∧ tK T L p ≠ 47) : Fl T L k 1 p (p, m ++ (m' ++ o :: σ), true, out) := by
  have f1 := hm.fs (m' ++ o :: σ)
  have f2 := hm'.fs (o :: σ)
  have f3 := (topO_y h40 σ).fs
  have hl : lat (m ++ (m' ++ o :: σ)) = o := by rw [f1.2.2.2.2, f2.2.2, lat_y h40]
  have hs : stl 3 (m ++ (m' ++ o :: σ)) = o :: σ := by rw [f1.2.2.1, f2.1, f3.1]
  by_cases hg : tK T L p = 41 ∨ tK T L p = 44
  · refine Fl.one (Or.inr (Or.inr (Or.inr (Or.inr (Or.inr ⟨hg, by show 0 < lat (m ++ (m' ++ o :: σ)); rw [hl]; omega⟩))))) (by decide) (s' := (p, m ++ (m' ++ o :: σ), true, out)) ?_ rfl
    rw [rst_t, rbe, if_neg (by omega), if_neg (by omega), hl, if_neg]
    · split at h <;> omega
  · refine ⟨by decide, Or.inr ⟨rfl, _, Rn.refl, ?_, rfl, ?_⟩⟩
    · rintro (q | q | q | q | q | q)
      · exact Bool.noConfusion (show true = false from q)
      · exact h1.1 q
      · exact h1.2.1 q
      · exact h1.2.2.1 q
      · exact h1.2.2.2 q
      · exact hg q.1
    · show stl 3 (m ++ (m' ++ o :: σ)) ≠ []
      rw [hs]
      exact List.cons_ne_nil _ _
theorem one_par {T : Nat → Int} {L k o p p1 : Nat} {C : List Int} (h : tK T L p = 40) (ho : o < 8) (H : PSm T L k (o + 1) (nx T L p) p1 C) (h1 : tK T L p1 = 41) : POne T L k o p (nx T L p1) C := fun σ out hσ => by
  obtain ⟨m, m', hm, hm', H⟩ := H
  obtain ⟨out', H1, H2⟩ := H (40 :: σ) out (by rw [opn_y (Or.inr (by decide))]; omega) (topO_y (by decide) σ)
  have := ((step_par (k := k) h (out := out) (show opn σ ≠ 8 by omega)).trans H1).trans (close_sum hm hm' (by decide) (Or.inl rfl) h1)
  rw [H2, if_pos rfl, List.nil_append, List.append_assoc] at this
  exact this
theorem one_parF {T : Nat → Int} {L k o p f q : Nat} (h : tK T L p = 40) (ho : o < 8) (H : PSmF T L k (o + 1) (nx T L p) f q) : POneF T L k o p f q := fun σ out hσ => Fl.pre (step_par h (by omega)) (H (40 :: σ) out (by rw [opn_y (Or.inr (by decide))]; omega) (topO_y (by decide) σ))
theorem one_parF1 {T : Nat → Int} {L k o p p1 : Nat} {C : List Int} (h : tK T L p = 40) (ho : o < 8) (H : PSm T L k (o + 1) (nx T L p) p1 C) (h1 : tK T L p1 ≠ 41) (h2 : tK T L p1 ≠ 43 ∧ tK T L p1 ≠ 45 ∧ tK T L p1 ≠ 42 ∧ tK T L p1 ≠ 47) : POneF T L k o p 1 p1 := fun σ out hσ => by
  obtain ⟨m, m', hm, hm', H⟩ := H
  obtain ⟨out', H1, H2⟩ := H (40 :: σ) out (by rw [opn_y (Or.inr (by decide))]; omega) (topO_y (by decide) σ)
  exact Fl.pre ((step_par (k := k) h (out := out) (show opn σ ≠ 8 by omega)).trans H1) (wrong_sum hm hm' (by decide) (by rw [if_neg (by decide)]; exact h1) h2)
def mnx (v : Int) : Nat := if v = 15 then 41 else 42
theorem mnx_in (v : Int) : mnx v = 41 ∨ mnx v = 42 := by unfold mnx; split <;> omega
theorem pair_1 {T : Nat → Int} {L k o p p1 : Nat} {C : List Int} (h : tK T L p = -2) (hv : 15 ≤ tV T L p) (hn : tK T L (nx T L p) = 40) (ho : o < 8) (H : PSm T L k (o + 1) (nx T L (nx T L p)) p1 C) {σ : List Nat} {out : List Int} (hσ : opn σ = o) : ∃ m m' out', MP m ∧ MsQ m' ∧ Rn T L k (p, σ, false, out) (0, p1, m ++ (m' ++ mnx (tV T L p) :: σ), true, out') ∧ out' ++ (ste 3 m ++ ste 3 m') = out ++ C := by
  obtain ⟨m, m', hm, hm', H⟩ := H
  have hx := mnx_in (tV T L p)
  obtain ⟨out', H1, H2⟩ := H (mnx (tV T L p) :: σ) out (by rw [opn_y (by omega)]; omega) (topO_y (by omega) σ)
  exact ⟨m, m', out', hm, hm', (step_pair (k := k) h hv hn (out := out) (show opn σ ≠ 8 by omega)).trans H1, H2⟩
theorem one_pairA {T : Nat → Int} {L k o p f q : Nat} (h : tK T L p = -2) (hv : 15 ≤ tV T L p) (hn : tK T L (nx T L p) = 40) (ho : o < 8) (H : PSmF T L k (o + 1) (nx T L (nx T L p)) f q) : POneF T L k o p f q := fun σ out hσ => by
  have hx := mnx_in (tV T L p)
  exact Fl.pre (step_pair (k := k) h hv hn (show opn σ ≠ 8 by omega)) (H (mnx (tV T L p) :: σ) out (by rw [opn_y (by omega)]; omega) (topO_y (by omega) σ))
theorem one_pairB {T : Nat → Int} {L k o p p1 : Nat} {C : List Int} (h : tK T L p = -2) (hv : 15 ≤ tV T L p) (hn : tK T L (nx T L p) = 40) (ho : o < 8) (H : PSm T L k (o + 1) (nx T L (nx T L p)) p1 C) (h1 : tK T L p1 ≠ 44) (h2 : tK T L p1 ≠ 43 ∧ tK T L p1 ≠ 45 ∧ tK T L p1 ≠ 42 ∧ tK T L p1 ≠ 47) : POneF T L k o p 1 p1 := fun σ out hσ => by
  obtain ⟨m, m', out', hm, hm', H1, _⟩ := pair_1 h hv hn ho H (σ := σ) (out := out) hσ
  have hx := mnx_in (tV T L p)
  exact Fl.pre H1 (wrong_sum hm hm' (by omega) (by rw [if_pos hx]; exact h1) h2)
theorem pair_2 {T : Nat → Int} {L k o p p1 p2 : Nat} {C D : List Int} (h : tK T L p = -2) (hv : 15 ≤ tV T L p) (hn : tK T L (nx T L p) = 40) (ho : o < 8) (H : PSm T L k (o + 1) (nx T L (nx T L p)) p1 C) (h1 : tK T L p1 = 44) (H' : PSm T L k (o + 1) (nx T L p1) p2 D) {σ : List Nat} {out : List Int} (hσ : opn σ = o) : ∃ m m' out', MP m ∧ MsQ m' ∧ Rn T L k (p, σ, false, out) (0, p2, m ++ (m' ++ (mnx (tV T L p) + 2) :: σ), true, out') ∧ out' ++ (ste 3 m ++ ste 3 m') = out ++ C ++ D := by
  obtain ⟨m, m', out', hm, hm', H1, H2⟩ := pair_1 h hv hn ho H (σ := σ) (out := out) hσ
  obtain ⟨n, n', hn1, hn1', H'⟩ := H'
  have hx := mnx_in (tV T L p)
  obtain ⟨out2, H3, H4⟩ := H' ((mnx (tV T L p) + 2) :: σ) (out' ++ (ste 3 m ++ ste 3 m')) (by rw [opn_y (by omega)]; omega) (topO_y (by omega) σ)
  exact ⟨n, n', out2, hn1, hn1', (H1.trans (comma_sum hm hm' hx h1)).trans H3, by rw [H4, H2]⟩
theorem one_pairC {T : Nat → Int} {L k o p p1 f q : Nat} {C : List Int} (h : tK T L p = -2) (hv : 15 ≤ tV T L p) (hn : tK T L (nx T L p) = 40) (ho : o < 8) (H : PSm T L k (o + 1) (nx T L (nx T L p)) p1 C) (h1 : tK T L p1 = 44) (H' : PSmF T L k (o + 1) (nx T L p1) f q) : POneF T L k o p f q := fun σ out hσ => by
  obtain ⟨m, m', out', hm, hm', H1, H2⟩ := pair_1 h hv hn ho H (σ := σ) (out := out) hσ
  have hx := mnx_in (tV T L p)
  exact Fl.pre (H1.trans (comma_sum hm hm' hx h1)) (H' ((mnx (tV T L p) + 2) :: σ) _ (by rw [opn_y (by omega)]; omega) (topO_y (by omega) σ))
theorem one_pairD {T : Nat → Int} {L k o p p1 p2 : Nat} {C D : List Int} (h : tK T L p = -2) (hv : 15 ≤ tV T L p) (hn : tK T L (nx T L p) = 40) (ho : o < 8) (H : PSm T L k (o + 1) (nx T L (nx T L p)) p1 C) (h1 : tK T L p1 = 44) (H' : PSm T L k (o + 1) (nx T L p1) p2 D) (h3 : tK T L p2 ≠ 41) (h2 : tK T L p2 ≠ 43 ∧ tK T L p2 ≠ 45 ∧ tK T L p2 ≠ 42 ∧ tK T L p2 ≠ 47) : POneF T L k o p 1 p2 := fun σ out hσ => by
  obtain ⟨m, m', out', hm, hm', H1, _⟩ := pair_2 h hv hn ho H h1 H' (σ := σ) (out := out) hσ
  have hx := mnx_in (tV T L p)
  exact Fl.pre H1 (wrong_sum hm hm' (by omega) (by rw [if_neg (by omega)]; exact h3) h2)
theorem one_pair {T : Nat → Int} {L k o p p1 p2 : Nat} {C D : List Int} (h : tK T L p = -2) (hv : 15 ≤ tV T L p) (hn : tK T L (nx T L p) = 40) (ho : o < 8) (H : PSm T L k (o + 1) (nx T L (nx T L p)) p1 C) (h1 : tK T L p1 = 44) (H' : PSm T L k (o + 1) (nx T L p1) p2 D) (h3 : tK T L p2 = 41) : POne T L k o p (nx T L p2) (C ++ (D ++ [if tV T L p = 15 then 20004 else 20005])) := fun σ out hσ => by
  obtain ⟨m, m', out', hm, hm', H1, H2⟩ := pair_2 h hv hn ho H h1 H' (σ := σ) (out := out) hσ
  have hx := mnx_in (tV T L p)
  have H3 := H1.trans (close_sum hm hm' (o := mnx (tV T L p) + 2) (by omega) (by omega) h3)
  rw [H2, if_neg (by omega)] at H3
  have e : (if mnx (tV T L p) + 2 = 43 then (20004 : Int) else 20005) = if tV T L p = 15 then 20004 else 20005 := by
    unfold mnx
    by_cases q : tV T L p = 15
    · rw [if_pos q, if_pos q]; rfl
    · rw [if_neg q, if_neg q]; rfl
  rw [e] at H3
  simp only [List.append_assoc] at H3 ⊢
  exact H3
/-! products and sums -/
theorem pr_one {T : Nat → Int} {L k o p p' : Nat} {C : List Int} (H : POne T L k o p p' C) : PPr T L k o p p' C := ⟨[], Or.inl rfl, fun σ out hσ ht => ⟨out ++ C, by
  have h := H σ out hσ
  have f := ht.fs
  rw [f.1, f.2.1, List.append_nil] at h
  exact h, by rw [ste, List.append_nil]⟩⟩
theorem pr_oneF {T : Nat → Int} {L k o p f q : Nat} (H : POneF T L k o p f q) : PPrF T L k o p f q := fun σ out hσ _ => H σ out hσ
theorem pr_step {T : Nat → Int} {L k o p p1 : Nat} {C : List Int} (H : PPr T L k o p p1 C) (h : tK T L p1 = 42 ∨ tK T L p1 = 47) {σ : List Nat} {out : List Int} (hσ : opn σ = o) (ht : TopP σ) : Rn T L k (p, σ, false, out) (0, nx T L p1, (if tK T L p1 = 42 then 5 else 6) :: σ, false, out ++ C) := by
  obtain ⟨m, hm, H⟩ := H
  obtain ⟨out', H1, H2⟩ := H σ out hσ ht
  have f1 := hm.fs σ
  have f2 := ht.fs
  refine H1.trans (Rn.one (Or.inr (Or.inr (Or.inr (h.elim (fun h => Or.inl h) (fun h => Or.inr (Or.inl h)))))) ?_)
  rw [rst_t, rbe, if_neg (by omega), if_pos h, f1.1, f1.2.1, f2.2.2.1, f2.2.2.2, List.append_nil, H2]
theorem pr_next {T : Nat → Int} {L k o p p1 p2 : Nat} {C D : List Int} (H : PPr T L k o p p1 C) (h : tK T L p1 = 42 ∨ tK T L p1 = 47) (H' : POne T L k o (nx T L p1) p2 D) : PPr T L k o p p2 (C ++ (D ++ [if tK T L p1 = 42 then 20002 else 20003])) := by
  refine ⟨[if tK T L p1 = 42 then 5 else 6], by unfold MP; split <;> simp, fun σ out hσ ht => ⟨out ++ C ++ D, ?_, ?_⟩⟩
  · have h1 := (pr_step H h (out := out) hσ ht).trans (H' _ (out ++ C) (by rw [opn_n (by split <;> omega)]; exact hσ))
    rw [srp_o (by split <;> omega), ngs_o (by split <;> omega), List.append_nil] at h1
    exact h1
  · by_cases q : tK T L p1 = 42
    · rw [if_pos q, if_pos q]; simp [ste]
    · rw [if_neg q, if_neg q]; simp [ste]
theorem pr_nextF {T : Nat → Int} {L k o p p1 f q : Nat} {C : List Int} (H : PPr T L k o p p1 C) (h : tK T L p1 = 42 ∨ tK T L p1 = 47) (H' : POneF T L k o (nx T L p1) f q) : PPrF T L k o p f q := fun σ out hσ ht => Fl.pre (pr_step H h (out := out) hσ ht) (H' _ _ (by rw [opn_n (by split <;> omega)]; exact hσ))
theorem sm_pr {T : Nat → Int} {L k o p p' : Nat} {C : List Int} (H : PPr T L k o p p' C) : PSm T L k o p p' C := by
  obtain ⟨m, hm, H⟩ := H
  refine ⟨m, [], hm, Or.inl rfl, fun σ out hσ ht => ?_⟩
  obtain ⟨out', H1, H2⟩ := H σ out hσ ht.p
  exact ⟨out', H1, by rw [ste, List.append_nil]; exact H2⟩
theorem sm_prF {T : Nat → Int} {L k o p f q : Nat} (H : PPrF T L k o p f q) : PSmF T L k o p f q := fun σ out hσ ht => H σ out hσ ht.p
theorem sm_step {T : Nat → Int} {L k o p p1 : Nat} {C : List Int} (H : PSm T L k o p p1 C) (h : tK T L p1 = 43 ∨ tK T L p1 = 45) {σ : List Nat} {out : List Int} (hσ : opn σ = o) (ht : TopO σ) : Rn T L k (p, σ, false, out) (0, nx T L p1, (if tK T L p1 = 43 then 3 else 4) :: σ, false, out ++ C) := by
  obtain ⟨m, m', hm, hm', H⟩ := H
  obtain ⟨out', H1, H2⟩ := H σ out hσ ht
  have f1 := hm.fs (m' ++ σ)
  have f2 := hm'.fs σ
  have f3 := ht.fs
  refine H1.trans (Rn.one (Or.inr (h.elim (fun h => Or.inl h) (fun h => Or.inr (Or.inl h)))) ?_)
  rw [rst_t, rbe, if_pos h, f1.2.2.1, f1.2.2.2.1, f2.1, f2.2.1, f3.1, f3.2, List.append_nil, H2]
theorem topP_34 {T : Nat → Int} {L p1 : Nat} (σ : List Nat) : TopP ((if tK T L p1 = 43 then 3 else 4) :: σ) := Or.inr ⟨_, σ, rfl, by split <;> omega⟩
theorem sm_next {T : Nat → Int} {L k o p p1 p2 : Nat} {C D : List Int} (H : PSm T L k o p p1 C) (h : tK T L p1 = 43 ∨ tK T L p1 = 45) (H' : PPr T L k o (nx T L p1) p2 D) : PSm T L k o p p2 (C ++ (D ++ [if tK T L p1 = 43 then 20000 else 20001])) := by
  obtain ⟨m, hm, H'⟩ := H'
  refine ⟨m, [if tK T L p1 = 43 then 3 else 4], hm, by unfold MsQ; split <;> simp, fun σ out hσ ht => ?_⟩
  obtain ⟨out', H1, H2⟩ := H' ((if tK T L p1 = 43 then 3 else 4) :: σ) (out ++ C) (by rw [opn_n (by split <;> omega)]; exact hσ) (topP_34 σ)
  refine ⟨out', (sm_step H h (out := out) hσ ht).trans H1, ?_⟩
  rw [← List.append_assoc, H2]
  by_cases q : tK T L p1 = 43
  · rw [if_pos q, if_pos q]; simp [ste]
  · rw [if_neg q, if_neg q]; simp [ste]
theorem sm_nextF {T : Nat → Int} {L k o p p1 f q : Nat} {C : List Int} (H : PSm T L k o p p1 C) (h : tK T L p1 = 43 ∨ tK T L p1 = 45) (H' : PPrF T L k o (nx T L p1) f q) : PSmF T L k o p f q := fun σ out hσ ht => Fl.pre (sm_step H h (out := out) hσ ht) (H' _ _ (by rw [opn_n (by split <;> omega)]; exact hσ) (topP_34 σ))
/-! codes that a machine can work through -/
def dlt (c : Int) : Int := if c < 20000 then 1 else if c = 20006 then 0 else -1
def hfn : Int → List Int → Int
  | h, [] => h
  | h, c :: t => hfn (h + dlt c) t
def cok (k : Nat) (d : Int) : Int → List Int → Prop
  | _, [] => True
  | h, c :: t => codeOk k c ∧ (c = 20006 → 1 ≤ h) ∧ (20000 ≤ c → c ≠ 20006 → 2 ≤ h) ∧ h + dlt c ≤ d ∧ cok k d (h + dlt c) t
theorem hfn_app (A B : List Int) : ∀ h, hfn h (A ++ B) = hfn (hfn h A) B := by
  induction A with
  | nil => intro h; rfl
  | cons c t ih => intro h; exact ih _
theorem hfn_add (A : List Int) : ∀ h x : Int, hfn (h + x) A = hfn h A + x := by
  induction A with
  | nil => intro h x; rfl
  | cons c t ih => intro h x; show hfn (h + x + dlt c) t = hfn (h + dlt c) t + x; rw [← ih, show h + x + dlt c = h + dlt c + x by omega]
theorem cok_app {k : Nat} {d : Int} (A B : List Int) : ∀ h, cok k d h A → cok k d (hfn h A) B → cok k d h (A ++ B) := by
  induction A with
  | nil => intro h _ hb; exact hb
  | cons c t ih => intro h ha hb; exact ⟨ha.1, ha.2.1, ha.2.2.1, ha.2.2.2.1, ih _ ha.2.2.2.2 hb⟩
theorem cok_up {k : Nat} {d e x : Int} (hx : 0 ≤ x) (hd : d + x ≤ e) (A : List Int) : ∀ h, cok k d h A → cok k e (h + x) A := by
  induction A with
  | nil => intro h _; trivial
  | cons c t ih =>
    intro h ha
    have h5 := ih _ ha.2.2.2.2
    rw [show h + dlt c + x = h + x + dlt c by omega] at h5
    exact ⟨ha.1, fun q => by have := ha.2.1 q; omega, fun q r => by have := ha.2.2.1 q r; omega, by have := ha.2.2.2.1; omega, h5⟩
def CW (k : Nat) (d : Int) (C : List Int) : Prop := cok k d 0 C ∧ hfn 0 C = 1
theorem CW.up {k : Nat} {d e : Int} {C : List Int} (h : CW k d C) (hd : d ≤ e) : CW k e C := ⟨by have := cok_up (x := 0) (by decide) (show d + 0 ≤ e by omega) C 0 h.1; exact this, h.2⟩
theorem CW.one {k : Nat} {d c : Int} (hc : codeOk k c) (hl : c < 20000) (hd : 1 ≤ d) : CW k d [c] := ⟨⟨hc, fun q => by omega, fun q _ => by omega, by unfold dlt; rw [if_pos hl]; omega, trivial⟩, by show 0 + dlt c = 1; unfold dlt; rw [if_pos hl]; rfl⟩
theorem CW.neg {k : Nat} {d : Int} {C : List Int} (h : CW k d C) (hd : 1 ≤ d) : CW k d (C ++ [20006]) := by
  refine ⟨cok_app C _ 0 h.1 ?_, by rw [hfn_app, h.2]; rfl⟩
  rw [h.2]
  exact ⟨Or.inr (Or.inr (Or.inr (by decide))), fun _ => by decide, fun _ q => absurd rfl q, by show 1 + 0 ≤ d; omega, trivial⟩
theorem CW.bin {k : Nat} {d c : Int} {A B : List Int} (ha : CW k d A) (hb : CW k (d - 1) B) (hc : 20000 ≤ c ∧ c ≤ 20005) (hd : 1 ≤ d) : CW k d (A ++ (B ++ [c])) := by
  have hB := cok_up (x := 1) (e := d) (by decide) (by omega) B 0 hb.1
  have hf : hfn (0 + 1) B = 1 + 1 := by rw [hfn_add, hb.2]
  have hdl : dlt c = -1 := by unfold dlt; rw [if_neg (by omega), if_neg (by omega)]
  refine ⟨cok_app A _ 0 ha.1 ?_, ?_⟩
  · rw [ha.2]
    refine cok_app B _ 1 hB ?_
    rw [show (1 : Int) = 0 + 1 from rfl, hf]
    exact ⟨Or.inr (Or.inr (Or.inr (by omega))), fun q => by omega, fun _ _ => by decide, by rw [hdl]; omega, trivial⟩
  · rw [hfn_app, ha.2, hfn_app, show (1 : Int) = 0 + 1 from rfl, hf]
    show 1 + 1 + dlt c = 1
    rw [hdl]; rfl
theorem hgt_cons (f : Nat → Int) (a : Nat) : ∀ i, hgt f a (i + 1) = dlt (f a) + hgt f (a + 1) i := by
  intro i
  induction i with
  | zero => rw [hgt_s]; show 0 + dlt (f a) = dlt (f a) + 0; omega
  | succ i ih =>
    rw [hgt_s, ih, hgt_s, show a + (i + 1) = a + 1 + i by omega]
    omega
theorem cok_hgt {k : Nat} {d : Int} {f : Nat → Int} (C : List Int) : ∀ (h : Int) (a : Nat), cok k d h C → h ≤ d → (∀ i, i < C.length → f (a + i) = C.getD i 0) → (∀ i, i < C.length → codeOk k (f (a + i)) ∧ (f (a + i) = 20006 → 1 ≤ h + hgt f a i) ∧ (20000 ≤ f (a + i) → f (a + i) ≠ 20006 → 2 ≤ h + hgt f a i)) ∧ (∀ i, i ≤ C.length → h + hgt f a i ≤ d) ∧ hfn h C = h + hgt f a C.length := by
  induction C with
  | nil => intro h a _ hd _; exact ⟨fun i hi => absurd hi (Nat.not_lt_zero _), fun i hi => by (rw [Nat.le_zero.mp hi]; show h + 0 ≤ d; omega), by (show h = h + 0; omega)⟩
  | cons c t ih =>
    intro h a hk hd hf
    have e0 : f a = c := hf 0 (Nat.succ_pos _)
    have h1 := ih (h + dlt c) (a + 1) hk.2.2.2.2 hk.2.2.2.1 (fun i hi => by rw [show a + 1 + i = a + (i + 1) by omega]; exact hf (i + 1) (Nat.succ_lt_succ hi))
    refine ⟨fun i hi => ?_, fun i hi => ?_, ?_⟩
    · cases i with
      | zero =>
        rw [Nat.add_zero, e0]
        have z : hgt f a 0 = 0 := rfl
        rw [z, Int.add_zero]
        exact ⟨hk.1, hk.2.1, hk.2.2.1⟩
      | succ i =>
        have h2 := h1.1 i (Nat.lt_of_succ_lt_succ hi)
        rw [hgt_cons, e0, show a + (i + 1) = a + 1 + i by omega, ← Int.add_assoc]
        exact h2
    · cases i with
      | zero => show h + 0 ≤ d; omega
      | succ i =>
        have h2 := h1.2.1 i (Nat.le_of_succ_le_succ hi)
        rw [hgt_cons, e0, ← Int.add_assoc]
        exact h2
    · show hfn (h + dlt c) t = h + hgt f a (t.length + 1)
      rw [h1.2.2, hgt_cons, e0, Int.add_assoc]
theorem CW.clw {k : Nat} {d : Int} {C : List Int} {f : Nat → Int} {a : Nat} (h : CW k d C) (hd : 0 ≤ d ∧ d ≤ 60) (hf : ∀ i, i < C.length → f (a + i) = C.getD i 0) : ClW k f a C.length := by
  have h1 := cok_hgt C 0 a h.1 hd.1 hf
  refine ⟨?_, fun i hi => ?_, fun i hi => ?_, ?_⟩
  · cases C with
    | nil => exact absurd h.2 (by decide)
    | cons c t => exact Nat.succ_pos _
  · have := h1.1 i hi
    rw [Int.zero_add] at this
    exact this
  · have := h1.2.1 i hi
    omega
  · have := h1.2.2
    rw [h.2] at this
    omega
