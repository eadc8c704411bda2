/-! REASONING ABOUT RUNS of the abstract machine: Wp (from a place in a method), Ev (a method) -/
theorem am_run_le {cal cal' : Nat → List am_V → am_Sh → am_G → Option am_R} {mi : Nat → Option am_M} {tb : Nat → Option am_E} {sn : Nat} {sx : Nat → Int} (hc : ∀ mid as sh g r, cal mid as sh g = some r → cal' mid as sh g = some r) : ∀ (f pc : Nat) (L st : List am_V) (sh : am_Sh) (g : am_G) (r : am_R), am_run cal mi tb sn sx f pc L st sh g = some r → am_run cal' mi tb sn sx f pc L st sh g = some r := by
  have key : ∀ (e : am_E) (st : List am_V) (sh : am_Sh) (g : am_G) (q : List am_V × am_Sh × am_G), am_call cal mi e st sh g = some q → am_call cal' mi e st sh g = some q := by
    intro e st sh g q h
    obtain ⟨I, n, a, z⟩ := e
    cases I <;> simp only [am_call, reduceCtorEq] at h ⊢
    case invokestatic k =>
      split at h
      · rename_i h1
        rw [if_pos h1]
        exact h
      · rename_i h1
        rw [if_neg h1]
        obtain ⟨q1, h2, h3⟩ := Option.bind_eq_some_iff.mp h
        refine Option.bind_eq_some_iff.mpr ⟨q1, h2, ?_⟩
        split at h3
        case isFalse => cases h3
        rename_i h4
        rw [if_pos h4]
        obtain ⟨r, h5, h6⟩ := Option.bind_eq_some_iff.mp h3
        exact Option.bind_eq_some_iff.mpr ⟨r, hc _ _ _ _ _ h5, h6⟩
    case invokevirtual k =>
      obtain ⟨q1, h2, h3⟩ := Option.bind_eq_some_iff.mp h
      refine Option.bind_eq_some_iff.mpr ⟨q1, h2, ?_⟩
      split at h3
      case isFalse => cases h3
      rename_i h4
      rw [if_pos h4]
      obtain ⟨M, h7, h3⟩ := Option.bind_eq_some_iff.mp h3
      refine Option.bind_eq_some_iff.mpr ⟨M, h7, ?_⟩
      obtain ⟨v, h8, h3⟩ := Option.bind_eq_some_iff.mp h3
      refine Option.bind_eq_some_iff.mpr ⟨v, h8, ?_⟩
      obtain ⟨r, h5, h6⟩ := Option.bind_eq_some_iff.mp h3
      exact Option.bind_eq_some_iff.mpr ⟨r, hc _ _ _ _ _ h5, h6⟩
    case invokespecial k =>
      split at h
      · rename_i h1
        rw [if_pos h1]
        exact h
      · rename_i h1
        rw [if_neg h1]
        obtain ⟨q1, h2, h3⟩ := Option.bind_eq_some_iff.mp h
        refine Option.bind_eq_some_iff.mpr ⟨q1, h2, ?_⟩
        split at h3
        case isFalse => cases h3
        rename_i h4
        rw [if_pos h4]
        obtain ⟨v, h8, h3⟩ := Option.bind_eq_some_iff.mp h3
        refine Option.bind_eq_some_iff.mpr ⟨v, h8, ?_⟩
        obtain ⟨r, h5, h6⟩ := Option.bind_eq_some_iff.mp h3
        exact Option.bind_eq_some_iff.mpr ⟨r, hc _ _ _ _ _ h5, h6⟩
  intro f
  induction f with
  | zero => intro pc L st sh g r h; cases h
  | succ f ih =>
    intro pc L st sh g r h
    unfold am_run at h ⊢
    obtain ⟨e, h1, h⟩ := Option.bind_eq_some_iff.mp h
    refine Option.bind_eq_some_iff.mpr ⟨e, h1, ?_⟩
    split at h
    · rename_i hk
      obtain ⟨s, h2, h3⟩ := Option.bind_eq_some_iff.mp h
      exact Option.bind_eq_some_iff.mpr ⟨s, h2, ih _ _ _ _ _ _ h3⟩
    · exact h
    · rename_i hk
      obtain ⟨s, h2, h3⟩ := Option.bind_eq_some_iff.mp h
      exact Option.bind_eq_some_iff.mpr ⟨s, h2, ih _ _ _ _ _ _ h3⟩
    · rename_i k1 k2 k3
      obtain ⟨s, h2, h3⟩ := Option.bind_eq_some_iff.mp h
      exact Option.bind_eq_some_iff.mpr ⟨s, key _ _ _ _ _ h2, ih _ _ _ _ _ _ h3⟩
theorem am_ev_le {mi : Nat → Option am_M} {tb : Nat → Nat → Option am_E} {sn : Nat} {sx : Nat → Int} (f : Nat) : ∀ d mid as sh g r, am_ev mi tb sn sx d f mid as sh g = some r → am_ev mi tb sn sx (d + 1) f mid as sh g = some r := by
  intro d
  induction d with
  | zero => intro mid as sh g r h; cases h
  | succ d ih =>
    intro mid as sh g r h
    rw [am_ev] at h ⊢
    by_cases hm : 1002 ≤ mid
    · rw [if_pos hm] at h ⊢
      split at h
      · rename_i h6
        rw [if_pos (by omega)]
        exact h
      · cases h
    · rw [if_neg hm] at h ⊢
      obtain ⟨M, h1, h2⟩ := Option.bind_eq_some_iff.mp h
      refine Option.bind_eq_some_iff.mpr ⟨M, h1, ?_⟩
      split at h2
      · rename_i h3
        rw [if_pos h3]
        exact am_run_le ih _ _ _ _ _ _ _ h2
      · cases h2
theorem am_ev_le2 {mi : Nat → Option am_M} {tb : Nat → Nat → Option am_E} {sn : Nat} {sx : Nat → Int} (f : Nat) {d d' : Nat} (hd : d ≤ d') : ∀ mid as sh g r, am_ev mi tb sn sx d f mid as sh g = some r → am_ev mi tb sn sx d' f mid as sh g = some r := by
  induction hd with
  | refl => exact fun _ _ _ _ _ h => h
  | step _ ih => exact fun mid as sh g r h => am_ev_le f _ mid as sh g r (ih mid as sh g r h)
section WP
variable {sn : Nat} {sx : Nat → Int} {K : Nat} {T : List (Nat × am_E)} {pc : Nat} {L st t : List am_V} {sh : am_Sh} {g : am_G} {Q : am_R → Prop}
def Ev (sn : Nat) (sx : Nat → Int) (K mid : Nat) (as : List am_V) (sh : am_Sh) (g : am_G) (Q : am_R → Prop) : Prop := ∃ r, Q r ∧ ∃ f0, ∀ f, f0 ≤ f → am_ev am_mi am_tb sn sx K f mid as sh g = some r
def Wp (sn : Nat) (sx : Nat → Int) (K : Nat) (T : List (Nat × am_E)) (pc : Nat) (L st : List am_V) (sh : am_Sh) (g : am_G) (Q : am_R → Prop) : Prop := ∃ r, Q r ∧ ∃ f0, ∀ f f', f0 ≤ f → f0 ≤ f' → am_run (am_ev am_mi am_tb sn sx K f') am_mi (am_fd T) sn sx f pc L st sh g = some r
theorem Ev.up {K' mid : Nat} {as : List am_V} (h : Ev sn sx K mid as sh g Q) (hK : K ≤ K') : Ev sn sx K' mid as sh g Q := by
  obtain ⟨r, hq, f0, hf⟩ := h
  exact ⟨r, hq, f0, fun f h1 => am_ev_le2 f hK _ _ _ _ _ (hf f h1)⟩
theorem Ev.mono {mid : Nat} {as : List am_V} {Q' : am_R → Prop} (h : Ev sn sx K mid as sh g Q) (hQ : ∀ r, Q r → Q' r) : Ev sn sx K mid as sh g Q' := by
  obtain ⟨r, hq, hf⟩ := h
  exact ⟨r, hQ r hq, hf⟩
theorem Wp.mono {Q' : am_R → Prop} (h : Wp sn sx K T pc L st sh g Q) (hQ : ∀ r, Q r → Q' r) : Wp sn sx K T pc L st sh g Q' := by
  obtain ⟨r, hq, hf⟩ := h
  exact ⟨r, hQ r hq, hf⟩
theorem wp_eq {L' st' : List am_V} {g' : am_G} (h : Wp sn sx K T pc L' st' sh g' Q) (h1 : L' = L := by rfl) (h2 : st' = st := by rfl) (h3 : g' = g := by rfl) : Wp sn sx K T pc L st sh g Q := by
  subst h1; subst h2; subst h3
  exact h
theorem wp_stp {e : am_E} {s' : am_St} (he : am_fd T pc = some e) (hk : am_kind e.1 = 0) (h : am_stp sn sx e pc L st sh g = some s') (k : Wp sn sx K T s'.1 s'.2.1 s'.2.2.1 s'.2.2.2.1 s'.2.2.2.2 Q) : Wp sn sx K T pc L st sh g Q := by
  obtain ⟨r, hq, f0, hf⟩ := k
  refine ⟨r, hq, f0 + 1, fun f f' h1 h2 => ?_⟩
  obtain ⟨f, rfl⟩ : ∃ q, f = q + 1 := ⟨f - 1, by omega⟩
  unfold am_run
  refine Option.bind_eq_some_iff.mpr ⟨e, he, ?_⟩
  simp only [hk]
  exact Option.bind_eq_some_iff.mpr ⟨s', h, hf f f' (by omega) (by omega)⟩
/-- k instructions in a row, none a call, an answer or a new cell -/
def am_stps (sn : Nat) (sx : Nat → Int) (T : List (Nat × am_E)) : Nat → am_St → Option am_St
  | 0, s => some s
  | k + 1, s => (am_fd T s.1).bind fun e => if am_kind e.1 = 0 then (am_stp sn sx e s.1 s.2.1 s.2.2.1 s.2.2.2.1 s.2.2.2.2).bind (am_stps sn sx T k) else none
theorem wp_ns (k : Nat) : ∀ (s s' : am_St), am_stps sn sx T k s = some s' → Wp sn sx K T s'.1 s'.2.1 s'.2.2.1 s'.2.2.2.1 s'.2.2.2.2 Q → Wp sn sx K T s.1 s.2.1 s.2.2.1 s.2.2.2.1 s.2.2.2.2 Q := by
  induction k with
  | zero => intro s s' h kk; cases h; exact kk
  | succ k ih =>
    intro s s' h kk
    unfold am_stps at h
    obtain ⟨e, h1, h2⟩ := Option.bind_eq_some_iff.mp h
    split at h2
    case isFalse => cases h2
    rename_i hk
    obtain ⟨s1, h3, h4⟩ := Option.bind_eq_some_iff.mp h2
    exact wp_stp h1 hk h3 (ih s1 s' h4 kk)
theorem wp_n (k : Nat) {pc' : Nat} {L' st' : List am_V} {g' : am_G} (h : am_stps sn sx T k (pc, L, st, sh, g) = some (pc', L', st', sh, g')) (kk : Wp sn sx K T pc' L' st' sh g' Q) : Wp sn sx K T pc L st sh g Q := wp_ns k (pc, L, st, sh, g) (pc', L', st', sh, g') h kk
theorem wp_ret {e : am_E} {v : Option am_V} (he : am_fd T pc = some e) (hk : am_kind e.1 = 1) (h : am_ret e st = some v) (hq : Q (v, sh, g)) : Wp sn sx K T pc L st sh g Q := by
  refine ⟨_, hq, 1, fun f f' h1 h2 => ?_⟩
  obtain ⟨f, rfl⟩ : ∃ q, f = q + 1 := ⟨f - 1, by omega⟩
  unfold am_run
  refine Option.bind_eq_some_iff.mpr ⟨e, he, ?_⟩
  simp only [hk]
  exact Option.bind_eq_some_iff.mpr ⟨v, h, rfl⟩
theorem wp_new {e : am_E} {s' : Nat × List am_V × am_Sh × am_G} (he : am_fd T pc = some e) (hk : am_kind e.1 = 2) (h : am_new e pc st sh g = some s') (k : Wp sn sx K T s'.1 L s'.2.1 s'.2.2.1 s'.2.2.2 Q) : Wp sn sx K T pc L st sh g Q := by
  obtain ⟨r, hq, f0, hf⟩ := k
  refine ⟨r, hq, f0 + 1, fun f f' h1 h2 => ?_⟩
  obtain ⟨f, rfl⟩ : ∃ q, f = q + 1 := ⟨f - 1, by omega⟩
  unfold am_run
  refine Option.bind_eq_some_iff.mpr ⟨e, he, ?_⟩
  simp only [hk]
  exact Option.bind_eq_some_iff.mpr ⟨s', h, hf f f' (by omega) (by omega)⟩
/-- a call, of any kind: what it is once its callee's answer is known -/
theorem wp_call0 {e : am_E} {mid K' : Nat} {as : List am_V} {Q' : am_R → Prop} {F : am_R → List am_V × am_Sh × am_G} (he : am_fd T pc = some e) (hk : 3 ≤ am_kind e.1) (hcall : ∀ (cal : Nat → List am_V → am_Sh → am_G → Option am_R) (r : am_R), cal mid as sh g = some r → am_call cal am_mi e st sh g = some (F r)) (hev : Ev sn sx K' mid as sh g Q') (hK : K' ≤ K) (kk : ∀ r, Q' r → Wp sn sx K T (pc + 3) L (F r).1 (F r).2.1 (F r).2.2 Q) : Wp sn sx K T pc L st sh g Q := by
  obtain ⟨r1, hq1, f1, hf1⟩ := hev.up hK
  obtain ⟨r, hq, f0, hf⟩ := kk r1 hq1
  refine ⟨r, hq, f0 + f1 + 1, fun f f' h1 h2 => ?_⟩
  obtain ⟨f, rfl⟩ : ∃ q, f = q + 1 := ⟨f - 1, by omega⟩
  unfold am_run
  refine Option.bind_eq_some_iff.mpr ⟨e, he, ?_⟩
  have h3 := hcall (am_ev am_mi am_tb sn sx K f') r1 (hf1 f' (by omega))
  split
  · rename_i w; omega
  · rename_i w; omega
  · rename_i w; omega
  · exact Option.bind_eq_some_iff.mpr ⟨_, h3, hf f f' (by omega) (by omega)⟩
theorem wp_cs {idx n mid K' : Nat} {na : Int} {as rest : List am_V} {Q' : am_R → Prop} (he : am_fd T pc = some (.invokestatic idx, n, mid, na)) (hm : mid ≠ 1001) (ha : am_args na.toNat st = some (as, rest)) (hc : am_cat rest ≤ 8) (hev : Ev sn sx K' mid as sh g Q') (hK : K' ≤ K) (kk : ∀ r, Q' r → Wp sn sx K T (pc + 3) L (am_push r.1 rest) r.2.1 r.2.2 Q) : Wp sn sx K T pc L st sh g Q := by
  refine wp_call0 (F := fun r => (am_push r.1 rest, r.2.1, r.2.2)) he (by show 3 ≤ 3; omega) (fun cal r h => ?_) hev hK kk
  show (if mid = 1001 then _ else _) = _
  rw [if_neg hm, ha]
  show (if am_cat rest ≤ 8 then _ else _) = _
  rw [if_pos hc]
  exact Option.bind_eq_some_iff.mpr ⟨r, h, rfl⟩
theorem wp_cv {idx n mid K' : Nat} {na : Int} {M : am_M} {v : Nat} {as rest : List am_V} {Q' : am_R → Prop} (he : am_fd T pc = some (.invokevirtual idx, n, mid, na)) (hM : am_mi mid = some M) (ha : am_args (na.toNat + 1) st = some (as, rest)) (hc : am_cat rest ≤ 8) (hr : am_rcv M.2.2.2.2 as sh = some v) (hev : Ev sn sx K' mid as sh g Q') (hK : K' ≤ K) (kk : ∀ r, Q' r → Wp sn sx K T (pc + 3) L (am_push r.1 rest) r.2.1 r.2.2 Q) : Wp sn sx K T pc L st sh g Q := by
  refine wp_call0 (F := fun r => (am_push r.1 rest, r.2.1, r.2.2)) he (by show 3 ≤ 4; omega) (fun cal r h => ?_) hev hK kk
  show Option.bind (am_args (na.toNat + 1) st) _ = _
  rw [ha]
  show (if am_cat rest ≤ 8 then _ else _) = _
  rw [if_pos hc]
  refine Option.bind_eq_some_iff.mpr ⟨M, hM, ?_⟩
  refine Option.bind_eq_some_iff.mpr ⟨v, hr, ?_⟩
  exact Option.bind_eq_some_iff.mpr ⟨r, h, rfl⟩
theorem wp_ci {idx n mid K' : Nat} {na k : Int} {as rest : List am_V} {Q' : am_R → Prop} (he : am_fd T pc = some (.invokespecial idx, n, mid, na)) (hm : mid ≠ 1000) (ha : am_args (na.toNat + 1) st = some ((2, k) :: as, rest)) (hc : am_cat rest ≤ 8) (hev : Ev sn sx K' mid ((2, k) :: as) sh g Q') (hK : K' ≤ K) (kk : ∀ r, Q' r → Wp sn sx K T (pc + 3) L (am_push r.1 rest) r.2.1 r.2.2 Q) : Wp sn sx K T pc L st sh g Q := by
  refine wp_call0 (F := fun r => (am_push r.1 rest, r.2.1, r.2.2)) he (by show 3 ≤ 5; omega) (fun cal r h => ?_) hev hK kk
  show (if mid = 1000 then _ else _) = _
  rw [if_neg hm, ha]
  show (if am_cat rest ≤ 8 then _ else _) = _
  rw [if_pos hc]
  refine Option.bind_eq_some_iff.mpr ⟨k, rfl, ?_⟩
  exact Option.bind_eq_some_iff.mpr ⟨r, h, rfl⟩
theorem wp_callx {e : am_E} {q : List am_V × am_Sh × am_G} (he : am_fd T pc = some e) (hk : 3 ≤ am_kind e.1) (hcall : ∀ (cal : Nat → List am_V → am_Sh → am_G → Option am_R), am_call cal am_mi e st sh g = some q) (kk : Wp sn sx K T (pc + 3) L q.1 q.2.1 q.2.2 Q) : Wp sn sx K T pc L st sh g Q := by
  obtain ⟨r, hq, f0, hf⟩ := kk
  refine ⟨r, hq, f0 + 1, fun f f' h1 h2 => ?_⟩
  obtain ⟨f, rfl⟩ : ∃ q, f = q + 1 := ⟨f - 1, by omega⟩
  unfold am_run
  refine Option.bind_eq_some_iff.mpr ⟨e, he, ?_⟩
  split
  · rename_i w; omega
  · rename_i w; omega
  · rename_i w; omega
  · exact Option.bind_eq_some_iff.mpr ⟨_, hcall _, hf f f' (by omega) (by omega)⟩
/-- Object's constructor -/
theorem wp_obj {idx n : Nat} {na k : Int} {rest : List am_V} (he : am_fd T pc = some (.invokespecial idx, n, 1000, na)) (hc : am_cat rest ≤ 8) (kk : Wp sn sx K T (pc + 3) L rest sh g Q) : Wp sn sx K T pc L ((2, k) :: rest) sh g Q := by
  refine wp_callx (q := (rest, sh, g)) he (by show 3 ≤ 5; omega) (fun cal => ?_) kk
  show (if am_cat rest ≤ 8 then some (rest, sh, g) else none) = _
  rw [if_pos hc]
/-- System.arraycopy, over the same kind of arrays -/
theorem wp_cpy {idx n a b c : Nat} {na : Int} {src dst kd l0 l1 : Nat} {r0 r1 : List Nat} {sp dp k : Int} {rest : List am_V} (he : am_fd T pc = some (.invokestatic idx, n, 1001, na)) (h0 : sh[src]? = some (kd, l0, r0)) (h1 : sh[dst]? = some (kd, l1, r1)) (hkd : kd = 0 ∨ kd = 1) (e1 : sp = (a : Int)) (e2 : dp = (b : Int)) (e3 : k = (c : Int)) (h2 : a + c ≤ l0) (h3 : b + c ≤ l1) (h4 : l0 ≤ 100000) (h5 : l1 ≤ 100000) (hc : am_cat rest ≤ 8) (kk : Wp sn sx K T (pc + 3) L rest sh (am_cp g src a dst b c) Q) : Wp sn sx K T pc L ((0, k) :: (0, dp) :: (2, (dst : Int)) :: (0, sp) :: (2, (src : Int)) :: rest) sh g Q := by
  subst e1; subst e2; subst e3
  refine wp_callx (q := (rest, sh, am_cp g src a dst b c)) he (by show 3 ≤ 3; omega) (fun cal => ?_) kk
  have wa : w32 (a : Int) = a := w32_id (by omega) (by omega)
  have wb : w32 (b : Int) = b := w32_id (by omega) (by omega)
  have wc : w32 (c : Int) = c := w32_id (by omega) (by omega)
  have key : am_cpy ((0, (c : Int)) :: (0, (b : Int)) :: (2, (dst : Int)) :: (0, (a : Int)) :: (2, (src : Int)) :: rest) sh g = some (rest, am_cp g src a dst b c) := by
    simp only [am_cpy, am_pp, if_true, Option.bind_some, Int.toNat_natCast, h0, h1, wa, wb, wc]
    rw [if_pos (by refine ⟨?_, ?_, ?_, ?_, ?_, ?_, ?_, ?_⟩ <;> first | exact True.intro | exact hkd | exact hc | omega)]
  show ((am_cpy _ sh g).bind fun q => some (q.1, sh, q.2)) = _
  rw [key]
  rfl
/-- a method, from its first instruction -/
theorem ev_of {mid : Nat} {as : List am_V} {M : am_M} (T : List (Nat × am_E)) (hm : mid < 1002) (hM : am_mi mid = some M) (hT : am_tb mid = am_fd T) (hfit : (am_lay as).length ≤ M.2.2.1) (h : Wp sn sx K T 0 (am_loc M.2.2.1 as) [] sh g Q) : Ev sn sx (K + 1) mid as sh g Q := by
  obtain ⟨r, hq, f0, hf⟩ := h
  refine ⟨r, hq, f0, fun f h1 => ?_⟩
  rw [am_ev, if_neg (by omega), hM]
  show (if (am_lay as).length ≤ M.2.2.1 then _ else _) = _
  rw [if_pos hfit, hT]
  exact hf f f h1 h1
theorem ev_prim {mid : Nat} {as : List am_V} {r : am_R} (hm : 1002 ≤ mid) (hK : 6 ≤ K) (h : am_prim mid as sh g = some r) (hq : Q r) : Ev sn sx (K + 1) mid as sh g Q := by
  refine ⟨r, hq, 0, fun f _ => ?_⟩
  rw [am_ev, if_pos hm, if_pos hK, h]
/-! branches, in a form for omega -/
theorem wp_ic_eq {off : Int} {n a : Nat} {z x y : Int} (he : am_fd T pc = some (.if_icmp .eq off, n, a, z)) (kt : (x + 2147483648) % 4294967296 = (y + 2147483648) % 4294967296 → Wp sn sx K T a L t sh g Q) (kf : ¬ (x + 2147483648) % 4294967296 = (y + 2147483648) % 4294967296 → Wp sn sx K T (pc + 3) L t sh g Q) : Wp sn sx K T pc L ((0, y) :: (0, x) :: t) sh g Q := by
  refine wp_stp he rfl (s' := (if am_cm .eq (w32 x) (w32 y) = true then a else pc + 3, L, t, sh, g)) rfl ?_
  by_cases h : am_cm .eq (w32 x) (w32 y) = true
  · rw [if_pos h]
    have h' : (w32 x = (w32 y)) := of_decide_eq_true h
    unfold w32 at h'
    exact kt (by omega)
  · rw [if_neg h]
    have h' : ¬ (w32 x = (w32 y)) := of_decide_eq_false (Bool.eq_false_iff.mpr h)
    unfold w32 at h'
    exact kf (by omega)
theorem wp_if_eq {off : Int} {n a : Nat} {z x : Int} (he : am_fd T pc = some (.ifCond .eq off, n, a, z)) (kt : (x + 2147483648) % 4294967296 = 2147483648 → Wp sn sx K T a L t sh g Q) (kf : ¬ (x + 2147483648) % 4294967296 = 2147483648 → Wp sn sx K T (pc + 3) L t sh g Q) : Wp sn sx K T pc L ((0, x) :: t) sh g Q := by
  refine wp_stp he rfl (s' := (if am_cm .eq (w32 x) 0 = true then a else pc + 3, L, t, sh, g)) rfl ?_
  by_cases h : am_cm .eq (w32 x) 0 = true
  · rw [if_pos h]
    have h' : (w32 x = 0) := of_decide_eq_true h
    unfold w32 at h'
    exact kt (by omega)
  · rw [if_neg h]
    have h' : ¬ (w32 x = 0) := of_decide_eq_false (Bool.eq_false_iff.mpr h)
    unfold w32 at h'
    exact kf (by omega)
theorem wp_ic_ne {off : Int} {n a : Nat} {z x y : Int} (he : am_fd T pc = some (.if_icmp .ne off, n, a, z)) (kt : ¬ (x + 2147483648) % 4294967296 = (y + 2147483648) % 4294967296 → Wp sn sx K T a L t sh g Q) (kf : (x + 2147483648) % 4294967296 = (y + 2147483648) % 4294967296 → Wp sn sx K T (pc + 3) L t sh g Q) : Wp sn sx K T pc L ((0, y) :: (0, x) :: t) sh g Q := by
  refine wp_stp he rfl (s' := (if am_cm .ne (w32 x) (w32 y) = true then a else pc + 3, L, t, sh, g)) rfl ?_
  by_cases h : am_cm .ne (w32 x) (w32 y) = true
  · rw [if_pos h]
    have h' : (w32 x ≠ (w32 y)) := of_decide_eq_true h
    unfold w32 at h'
    exact kt (by omega)
  · rw [if_neg h]
    have h' : ¬ (w32 x ≠ (w32 y)) := of_decide_eq_false (Bool.eq_false_iff.mpr h)
    unfold w32 at h'
    exact kf (by omega)
theorem wp_if_ne {off : Int} {n a : Nat} {z x : Int} (he : am_fd T pc = some (.ifCond .ne off, n, a, z)) (kt : ¬ (x + 2147483648) % 4294967296 = 2147483648 → Wp sn sx K T a L t sh g Q) (kf : (x + 2147483648) % 4294967296 = 2147483648 → Wp sn sx K T (pc + 3) L t sh g Q) : Wp sn sx K T pc L ((0, x) :: t) sh g Q := by
  refine wp_stp he rfl (s' := (if am_cm .ne (w32 x) 0 = true then a else pc + 3, L, t, sh, g)) rfl ?_
  by_cases h : am_cm .ne (w32 x) 0 = true
  · rw [if_pos h]
    have h' : (w32 x ≠ 0) := of_decide_eq_true h
    unfold w32 at h'
    exact kt (by omega)
  · rw [if_neg h]
    have h' : ¬ (w32 x ≠ 0) := of_decide_eq_false (Bool.eq_false_iff.mpr h)
    unfold w32 at h'
    exact kf (by omega)
theorem wp_ic_lt {off : Int} {n a : Nat} {z x y : Int} (he : am_fd T pc = some (.if_icmp .lt off, n, a, z)) (kt : (x + 2147483648) % 4294967296 < (y + 2147483648) % 4294967296 → Wp sn sx K T a L t sh g Q) (kf : (y + 2147483648) % 4294967296 ≤ (x + 2147483648) % 4294967296 → Wp sn sx K T (pc + 3) L t sh g Q) : Wp sn sx K T pc L ((0, y) :: (0, x) :: t) sh g Q := by
  refine wp_stp he rfl (s' := (if am_cm .lt (w32 x) (w32 y) = true then a else pc + 3, L, t, sh, g)) rfl ?_
  by_cases h : am_cm .lt (w32 x) (w32 y) = true
  · rw [if_pos h]
    have h' : (w32 x < (w32 y)) := of_decide_eq_true h
    unfold w32 at h'
    exact kt (by omega)
  · rw [if_neg h]
    have h' : ¬ (w32 x < (w32 y)) := of_decide_eq_false (Bool.eq_false_iff.mpr h)
    unfold w32 at h'
    exact kf (by omega)
theorem wp_if_lt {off : Int} {n a : Nat} {z x : Int} (he : am_fd T pc = some (.ifCond .lt off, n, a, z)) (kt : (x + 2147483648) % 4294967296 < 2147483648 → Wp sn sx K T a L t sh g Q) (kf : 2147483648 ≤ (x + 2147483648) % 4294967296 → Wp sn sx K T (pc + 3) L t sh g Q) : Wp sn sx K T pc L ((0, x) :: t) sh g Q := by
  refine wp_stp he rfl (s' := (if am_cm .lt (w32 x) 0 = true then a else pc + 3, L, t, sh, g)) rfl ?_
  by_cases h : am_cm .lt (w32 x) 0 = true
  · rw [if_pos h]
    have h' : (w32 x < 0) := of_decide_eq_true h
    unfold w32 at h'
    exact kt (by omega)
  · rw [if_neg h]
    have h' : ¬ (w32 x < 0) := of_decide_eq_false (Bool.eq_false_iff.mpr h)
    unfold w32 at h'
    exact kf (by omega)
theorem wp_ic_ge {off : Int} {n a : Nat} {z x y : Int} (he : am_fd T pc = some (.if_icmp .ge off, n, a, z)) (kt : (y + 2147483648) % 4294967296 ≤ (x + 2147483648) % 4294967296 → Wp sn sx K T a L t sh g Q) (kf : (x + 2147483648) % 4294967296 < (y + 2147483648) % 4294967296 → Wp sn sx K T (pc + 3) L t sh g Q) : Wp sn sx K T pc L ((0, y) :: (0, x) :: t) sh g Q := by
  refine wp_stp he rfl (s' := (if am_cm .ge (w32 x) (w32 y) = true then a else pc + 3, L, t, sh, g)) rfl ?_
  by_cases h : am_cm .ge (w32 x) (w32 y) = true
  · rw [if_pos h]
    have h' : ((w32 y) ≤ w32 x) := of_decide_eq_true h
    unfold w32 at h'
    exact kt (by omega)
  · rw [if_neg h]
    have h' : ¬ ((w32 y) ≤ w32 x) := of_decide_eq_false (Bool.eq_false_iff.mpr h)
    unfold w32 at h'
    exact kf (by omega)
theorem wp_if_ge {off : Int} {n a : Nat} {z x : Int} (he : am_fd T pc = some (.ifCond .ge off, n, a, z)) (kt : 2147483648 ≤ (x + 2147483648) % 4294967296 → Wp sn sx K T a L t sh g Q) (kf : (x + 2147483648) % 4294967296 < 2147483648 → Wp sn sx K T (pc + 3) L t sh g Q) : Wp sn sx K T pc L ((0, x) :: t) sh g Q := by
  refine wp_stp he rfl (s' := (if am_cm .ge (w32 x) 0 = true then a else pc + 3, L, t, sh, g)) rfl ?_
  by_cases h : am_cm .ge (w32 x) 0 = true
  · rw [if_pos h]
    have h' : (0 ≤ w32 x) := of_decide_eq_true h
    unfold w32 at h'
    exact kt (by omega)
  · rw [if_neg h]
    have h' : ¬ (0 ≤ w32 x) := of_decide_eq_false (Bool.eq_false_iff.mpr h)
    unfold w32 at h'
    exact kf (by omega)
theorem wp_ic_gt {off : Int} {n a : Nat} {z x y : Int} (he : am_fd T pc = some (.if_icmp .gt off, n, a, z)) (kt : (y + 2147483648) % 4294967296 < (x + 2147483648) % 4294967296 → Wp sn sx K T a L t sh g Q) (kf : (x + 2147483648) % 4294967296 ≤ (y + 2147483648) % 4294967296 → Wp sn sx K T (pc + 3) L t sh g Q) : Wp sn sx K T pc L ((0, y) :: (0, x) :: t) sh g Q := by
  refine wp_stp he rfl (s' := (if am_cm .gt (w32 x) (w32 y) = true then a else pc + 3, L, t, sh, g)) rfl ?_
  by_cases h : am_cm .gt (w32 x) (w32 y) = true
  · rw [if_pos h]
    have h' : ((w32 y) < w32 x) := of_decide_eq_true h
    unfold w32 at h'
    exact kt (by omega)
  · rw [if_neg h]
    have h' : ¬ ((w32 y) < w32 x) := of_decide_eq_false (Bool.eq_false_iff.mpr h)
    unfold w32 at h'
    exact kf (by omega)
theorem wp_if_gt {off : Int} {n a : Nat} {z x : Int} (he : am_fd T pc = some (.ifCond .gt off, n, a, z)) (kt : 2147483648 < (x + 2147483648) % 4294967296 → Wp sn sx K T a L t sh g Q) (kf : (x + 2147483648) % 4294967296 ≤ 2147483648 → Wp sn sx K T (pc + 3) L t sh g Q) : Wp sn sx K T pc L ((0, x) :: t) sh g Q := by
  refine wp_stp he rfl (s' := (if am_cm .gt (w32 x) 0 = true then a else pc + 3, L, t, sh, g)) rfl ?_
  by_cases h : am_cm .gt (w32 x) 0 = true
  · rw [if_pos h]
    have h' : (0 < w32 x) := of_decide_eq_true h
    unfold w32 at h'
    exact kt (by omega)
  · rw [if_neg h]
    have h' : ¬ (0 < w32 x) := of_decide_eq_false (Bool.eq_false_iff.mpr h)
    unfold w32 at h'
    exact kf (by omega)
theorem wp_ic_le {off : Int} {n a : Nat} {z x y : Int} (he : am_fd T pc = some (.if_icmp .le off, n, a, z)) (kt : (x + 2147483648) % 4294967296 ≤ (y + 2147483648) % 4294967296 → Wp sn sx K T a L t sh g Q) (kf : (y + 2147483648) % 4294967296 < (x + 2147483648) % 4294967296 → Wp sn sx K T (pc + 3) L t sh g Q) : Wp sn sx K T pc L ((0, y) :: (0, x) :: t) sh g Q := by
  refine wp_stp he rfl (s' := (if am_cm .le (w32 x) (w32 y) = true then a else pc + 3, L, t, sh, g)) rfl ?_
  by_cases h : am_cm .le (w32 x) (w32 y) = true
  · rw [if_pos h]
    have h' : (w32 x ≤ (w32 y)) := of_decide_eq_true h
    unfold w32 at h'
    exact kt (by omega)
  · rw [if_neg h]
    have h' : ¬ (w32 x ≤ (w32 y)) := of_decide_eq_false (Bool.eq_false_iff.mpr h)
    unfold w32 at h'
    exact kf (by omega)
theorem wp_if_le {off : Int} {n a : Nat} {z x : Int} (he : am_fd T pc = some (.ifCond .le off, n, a, z)) (kt : (x + 2147483648) % 4294967296 ≤ 2147483648 → Wp sn sx K T a L t sh g Q) (kf : 2147483648 < (x + 2147483648) % 4294967296 → Wp sn sx K T (pc + 3) L t sh g Q) : Wp sn sx K T pc L ((0, x) :: t) sh g Q := by
  refine wp_stp he rfl (s' := (if am_cm .le (w32 x) 0 = true then a else pc + 3, L, t, sh, g)) rfl ?_
  by_cases h : am_cm .le (w32 x) 0 = true
  · rw [if_pos h]
    have h' : (w32 x ≤ 0) := of_decide_eq_true h
    unfold w32 at h'
    exact kt (by omega)
  · rw [if_neg h]
    have h' : ¬ (w32 x ≤ 0) := of_decide_eq_false (Bool.eq_false_iff.mpr h)
    unfold w32 at h'
    exact kf (by omega)
theorem wp_lc_lt {off : Int} {n m a : Nat} {a0 : Nat} {z z0 x y : Int} (h0 : am_fd T pc = some (.lcmp, m, a0, z0)) (he : am_fd T (pc + 1) = some (.ifCond .lt off, n, a, z)) (hx : -9223372036854775808 ≤ x ∧ x < 9223372036854775808) (hy : -9223372036854775808 ≤ y ∧ y < 9223372036854775808) (kt : x < y → Wp sn sx K T a L t sh g Q) (kf : y ≤ x → Wp sn sx K T (pc + 1 + 3) L t sh g Q) : Wp sn sx K T pc L ((1, y) :: (1, x) :: t) sh g Q := by
  refine wp_stp h0 rfl (s' := (pc + 1, L, (0, if w64 y < w64 x then 1 else if w64 x = w64 y then 0 else -1) :: t, sh, g)) rfl ?_
  rw [w64_id hx.1 hx.2, w64_id hy.1 hy.2]
  refine wp_if_lt he (fun h => kt ?_) (fun h => kf ?_)
  · split at h
    · omega
    · split at h <;> omega
  · split at h
    · omega
    · split at h <;> omega
theorem wp_lc_le {off : Int} {n m a : Nat} {a0 : Nat} {z z0 x y : Int} (h0 : am_fd T pc = some (.lcmp, m, a0, z0)) (he : am_fd T (pc + 1) = some (.ifCond .le off, n, a, z)) (hx : -9223372036854775808 ≤ x ∧ x < 9223372036854775808) (hy : -9223372036854775808 ≤ y ∧ y < 9223372036854775808) (kt : x ≤ y → Wp sn sx K T a L t sh g Q) (kf : y < x → Wp sn sx K T (pc + 1 + 3) L t sh g Q) : Wp sn sx K T pc L ((1, y) :: (1, x) :: t) sh g Q := by
  refine wp_stp h0 rfl (s' := (pc + 1, L, (0, if w64 y < w64 x then 1 else if w64 x = w64 y then 0 else -1) :: t, sh, g)) rfl ?_
  rw [w64_id hx.1 hx.2, w64_id hy.1 hy.2]
  refine wp_if_le he (fun h => kt ?_) (fun h => kf ?_)
  · split at h
    · omega
    · split at h <;> omega
  · split at h
    · omega
    · split at h <;> omega
theorem wp_lc_gt {off : Int} {n m a : Nat} {a0 : Nat} {z z0 x y : Int} (h0 : am_fd T pc = some (.lcmp, m, a0, z0)) (he : am_fd T (pc + 1) = some (.ifCond .gt off, n, a, z)) (hx : -9223372036854775808 ≤ x ∧ x < 9223372036854775808) (hy : -9223372036854775808 ≤ y ∧ y < 9223372036854775808) (kt : y < x → Wp sn sx K T a L t sh g Q) (kf : x ≤ y → Wp sn sx K T (pc + 1 + 3) L t sh g Q) : Wp sn sx K T pc L ((1, y) :: (1, x) :: t) sh g Q := by
  refine wp_stp h0 rfl (s' := (pc + 1, L, (0, if w64 y < w64 x then 1 else if w64 x = w64 y then 0 else -1) :: t, sh, g)) rfl ?_
  rw [w64_id hx.1 hx.2, w64_id hy.1 hy.2]
  refine wp_if_gt he (fun h => kt ?_) (fun h => kf ?_)
  · split at h
    · omega
    · split at h <;> omega
  · split at h
    · omega
    · split at h <;> omega
theorem wp_lc_ge {off : Int} {n m a : Nat} {a0 : Nat} {z z0 x y : Int} (h0 : am_fd T pc = some (.lcmp, m, a0, z0)) (he : am_fd T (pc + 1) = some (.ifCond .ge off, n, a, z)) (hx : -9223372036854775808 ≤ x ∧ x < 9223372036854775808) (hy : -9223372036854775808 ≤ y ∧ y < 9223372036854775808) (kt : y ≤ x → Wp sn sx K T a L t sh g Q) (kf : x < y → Wp sn sx K T (pc + 1 + 3) L t sh g Q) : Wp sn sx K T pc L ((1, y) :: (1, x) :: t) sh g Q := by
  refine wp_stp h0 rfl (s' := (pc + 1, L, (0, if w64 y < w64 x then 1 else if w64 x = w64 y then 0 else -1) :: t, sh, g)) rfl ?_
  rw [w64_id hx.1 hx.2, w64_id hy.1 hy.2]
  refine wp_if_ge he (fun h => kt ?_) (fun h => kf ?_)
  · split at h
    · omega
    · split at h <;> omega
  · split at h
    · omega
    · split at h <;> omega
theorem wp_lc_eq {off : Int} {n m a : Nat} {a0 : Nat} {z z0 x y : Int} (h0 : am_fd T pc = some (.lcmp, m, a0, z0)) (he : am_fd T (pc + 1) = some (.ifCond .eq off, n, a, z)) (hx : -9223372036854775808 ≤ x ∧ x < 9223372036854775808) (hy : -9223372036854775808 ≤ y ∧ y < 9223372036854775808) (kt : x = y → Wp sn sx K T a L t sh g Q) (kf : ¬ x = y → Wp sn sx K T (pc + 1 + 3) L t sh g Q) : Wp sn sx K T pc L ((1, y) :: (1, x) :: t) sh g Q := by
  refine wp_stp h0 rfl (s' := (pc + 1, L, (0, if w64 y < w64 x then 1 else if w64 x = w64 y then 0 else -1) :: t, sh, g)) rfl ?_
  rw [w64_id hx.1 hx.2, w64_id hy.1 hy.2]
  refine wp_if_eq he (fun h => kt ?_) (fun h => kf ?_)
  · split at h
    · omega
    · split at h <;> omega
  · split at h
    · omega
    · split at h <;> omega
theorem wp_lc_ne {off : Int} {n m a : Nat} {a0 : Nat} {z z0 x y : Int} (h0 : am_fd T pc = some (.lcmp, m, a0, z0)) (he : am_fd T (pc + 1) = some (.ifCond .ne off, n, a, z)) (hx : -9223372036854775808 ≤ x ∧ x < 9223372036854775808) (hy : -9223372036854775808 ≤ y ∧ y < 9223372036854775808) (kt : ¬ x = y → Wp sn sx K T a L t sh g Q) (kf : x = y → Wp sn sx K T (pc + 1 + 3) L t sh g Q) : Wp sn sx K T pc L ((1, y) :: (1, x) :: t) sh g Q := by
  refine wp_stp h0 rfl (s' := (pc + 1, L, (0, if w64 y < w64 x then 1 else if w64 x = w64 y then 0 else -1) :: t, sh, g)) rfl ?_
  rw [w64_id hx.1 hx.2, w64_id hy.1 hy.2]
  refine wp_if_ne he (fun h => kt ?_) (fun h => kf ?_)
  · split at h
    · omega
    · split at h <;> omega
  · split at h
    · omega
    · split at h <;> omega
/-! loads and stores, at an index that is known as a number -/
theorem am_arr_of {sh : am_Sh} {k kd len : Nat} {rs : List Nat} (h : sh[k]? = some (kd, len, rs)) : am_arr sh (k : Int) kd = some (len, rs) := by
  show ((sh[((k : Int)).toNat]?).bind fun o => if o.1 = kd then some o.2 else none) = _
  rw [Int.toNat_natCast, h]
  show (if kd = kd then some (len, rs) else none) = _
  rw [if_pos rfl]
theorem am_xs_of {len j : Nat} (hj : j < len) (hl : len ≤ 100000) : am_xs len (j : Int) = some j := am_xs_iff hj (w32_id (by omega) (by omega))
theorem wp_iald {n a k len : Nat} {z i : Int} {rs : List Nat} (j : Nat) (he : am_fd T pc = some (.iaload, n, a, z)) (hs : sh[k]? = some (0, len, rs)) (hi : i = (j : Int)) (hj : j < len) (hl : len ≤ 100000) (kk : Wp sn sx K T (pc + 1) L ((0, g k j) :: t) sh g Q) : Wp sn sx K T pc L ((0, i) :: (2, (k : Int)) :: t) sh g Q := by
  refine wp_stp he rfl (s' := (pc + 1, L, (0, g k j) :: t, sh, g)) ?_ kk
  show ((am_arr sh (k : Int) 0).bind fun o => (am_xs o.1 i).bind fun q => some (pc + 1, L, ((0 : Nat), g ((k : Int)).toNat q) :: t, sh, g)) = _
  rw [am_arr_of hs]
  simp only [Option.bind_some]
  rw [hi, am_xs_of hj hl]
  rfl
theorem wp_lald {n a k len : Nat} {z i : Int} {rs : List Nat} (j : Nat) (he : am_fd T pc = some (.laload, n, a, z)) (hs : sh[k]? = some (1, len, rs)) (hi : i = (j : Int)) (hj : j < len) (hl : len ≤ 100000) (kk : Wp sn sx K T (pc + 1) L ((1, g k j) :: t) sh g Q) : Wp sn sx K T pc L ((0, i) :: (2, (k : Int)) :: t) sh g Q := by
  refine wp_stp he rfl (s' := (pc + 1, L, (1, g k j) :: t, sh, g)) ?_ kk
  show ((am_arr sh (k : Int) 1).bind fun o => (am_xs o.1 i).bind fun q => some (pc + 1, L, ((1 : Nat), g ((k : Int)).toNat q) :: t, sh, g)) = _
  rw [am_arr_of hs]
  simp only [Option.bind_some]
  rw [hi, am_xs_of hj hl]
  rfl
theorem wp_bald {n a k len : Nat} {z i : Int} {rs : List Nat} (j : Nat) (he : am_fd T pc = some (.baload, n, a, z)) (hs : sh[k]? = some (2, len, rs)) (hi : i = (j : Int)) (hj : j < len) (hl : len ≤ 100000) (kk : Wp sn sx K T (pc + 1) L ((0, g k j) :: t) sh g Q) : Wp sn sx K T pc L ((0, i) :: (2, (k : Int)) :: t) sh g Q := by
  refine wp_stp he rfl (s' := (pc + 1, L, (0, g k j) :: t, sh, g)) ?_ kk
  show ((am_arr sh (k : Int) 2).bind fun o => (am_xs o.1 i).bind fun q => some (pc + 1, L, ((0 : Nat), g ((k : Int)).toNat q) :: t, sh, g)) = _
  rw [am_arr_of hs]
  simp only [Option.bind_some]
  rw [hi, am_xs_of hj hl]
  rfl
theorem wp_aald {n a k len r : Nat} {z i : Int} {rs : List Nat} (j : Nat) (he : am_fd T pc = some (.aaload, n, a, z)) (hs : sh[k]? = some (3, len, rs)) (hi : i = (j : Int)) (hj : j < len) (hl : len ≤ 100000) (hr : rs[j]? = some (r + 1)) (kk : Wp sn sx K T (pc + 1) L ((2, (r : Int)) :: t) sh g Q) : Wp sn sx K T pc L ((0, i) :: (2, (k : Int)) :: t) sh g Q := by
  refine wp_stp he rfl (s' := (pc + 1, L, (2, (r : Int)) :: t, sh, g)) ?_ kk
  show ((am_arr sh (k : Int) 3).bind fun o => (am_xs o.1 i).bind fun q => (o.2[q]?).bind fun r => if r = 0 then none else some (pc + 1, L, ((2 : Nat), ((r - 1 : Nat) : Int)) :: t, sh, g)) = _
  rw [am_arr_of hs]
  simp only [Option.bind_some]
  rw [hi, am_xs_of hj hl]
  show ((rs[j]?).bind fun r => if r = 0 then none else some (pc + 1, L, ((2 : Nat), ((r - 1 : Nat) : Int)) :: t, sh, g)) = _
  rw [hr]
  show (if r + 1 = 0 then none else _) = _
  rw [if_neg (Nat.succ_ne_zero r)]
  rfl
theorem wp_iast {n a k len : Nat} {z i x : Int} {rs : List Nat} (j : Nat) (he : am_fd T pc = some (.iastore, n, a, z)) (hs : sh[k]? = some (0, len, rs)) (hi : i = (j : Int)) (hj : j < len) (hl : len ≤ 100000) (kk : Wp sn sx K T (pc + 1) L t sh (am_up g k j x) Q) : Wp sn sx K T pc L ((0, x) :: (0, i) :: (2, (k : Int)) :: t) sh g Q := by
  refine wp_stp he rfl (s' := (pc + 1, L, t, sh, am_up g k j x)) ?_ kk
  show ((am_arr sh (k : Int) 0).bind fun o => (am_xs o.1 i).bind fun q => some (pc + 1, L, t, sh, am_up g ((k : Int)).toNat q x)) = _
  rw [am_arr_of hs]
  simp only [Option.bind_some]
  rw [hi, am_xs_of hj hl]
  rfl
theorem wp_last {n a k len : Nat} {z i x : Int} {rs : List Nat} (j : Nat) (he : am_fd T pc = some (.lastore, n, a, z)) (hs : sh[k]? = some (1, len, rs)) (hi : i = (j : Int)) (hj : j < len) (hl : len ≤ 100000) (kk : Wp sn sx K T (pc + 1) L t sh (am_up g k j x) Q) : Wp sn sx K T pc L ((1, x) :: (0, i) :: (2, (k : Int)) :: t) sh g Q := by
  refine wp_stp he rfl (s' := (pc + 1, L, t, sh, am_up g k j x)) ?_ kk
  show ((am_arr sh (k : Int) 1).bind fun o => (am_xs o.1 i).bind fun q => some (pc + 1, L, t, sh, am_up g ((k : Int)).toNat q x)) = _
  rw [am_arr_of hs]
  simp only [Option.bind_some]
  rw [hi, am_xs_of hj hl]
  rfl
theorem wp_bast {n a k len : Nat} {z i x : Int} {rs : List Nat} (j : Nat) (he : am_fd T pc = some (.bastore, n, a, z)) (hs : sh[k]? = some (2, len, rs)) (hi : i = (j : Int)) (hj : j < len) (hl : len ≤ 100000) (h01 : x = 0 ∨ x = 1) (kk : Wp sn sx K T (pc + 1) L t sh (am_up g k j x) Q) : Wp sn sx K T pc L ((0, x) :: (0, i) :: (2, (k : Int)) :: t) sh g Q := by
  refine wp_stp he rfl (s' := (pc + 1, L, t, sh, am_up g k j x)) ?_ kk
  show ((am_arr sh (k : Int) 2).bind fun o => (am_xs o.1 i).bind fun q => if x = 0 ∨ x = 1 then some (pc + 1, L, t, sh, am_up g ((k : Int)).toNat q x) else none) = _
  rw [am_arr_of hs]
  simp only [Option.bind_some]
  rw [hi, am_xs_of hj hl]
  show (if x = 0 ∨ x = 1 then _ else _) = _
  rw [if_pos h01]
  rfl
/-- the script -/
theorem wp_sald {n a : Nat} {z i k : Int} (j : Nat) (he : am_fd T pc = some (.iaload, n, a, z)) (hi : i = (j : Int)) (hj : j < sn) (hl : sn ≤ 100000) (kk : Wp sn sx K T (pc + 1) L ((0, sx j) :: t) sh g Q) : Wp sn sx K T pc L ((0, i) :: (5, k) :: t) sh g Q := by
  refine wp_stp he rfl (s' := (pc + 1, L, (0, sx j) :: t, sh, g)) ?_ kk
  show ((am_xs sn i).bind fun q => some (pc + 1, L, ((0 : Nat), sx q) :: t, sh, g)) = _
  rw [hi, am_xs_of hj hl]
  rfl
theorem wp_idiv {n a : Nat} {z x y : Int} (he : am_fd T pc = some (.idiv, n, a, z)) (hx : -2147483648 ≤ x ∧ x < 2147483648) (hy : -2147483648 ≤ y ∧ y < 2147483648) (h0 : y ≠ 0) (kk : Wp sn sx K T (pc + 1) L ((0, Int.tdiv x y) :: t) sh g Q) : Wp sn sx K T pc L ((0, y) :: (0, x) :: t) sh g Q := by
  refine wp_stp he rfl (s' := (pc + 1, L, (0, Int.tdiv x y) :: t, sh, g)) ?_ kk
  show (if w32 y = 0 then none else some (pc + 1, L, ((0 : Nat), Int.tdiv (w32 x) (w32 y)) :: t, sh, g)) = _
  rw [w32_id hx.1 hx.2, w32_id hy.1 hy.2, if_neg h0]
theorem wp_irem {n a : Nat} {z x y : Int} (he : am_fd T pc = some (.irem, n, a, z)) (hx : -2147483648 ≤ x ∧ x < 2147483648) (hy : -2147483648 ≤ y ∧ y < 2147483648) (h0 : y ≠ 0) (kk : Wp sn sx K T (pc + 1) L ((0, Int.tmod x y) :: t) sh g Q) : Wp sn sx K T pc L ((0, y) :: (0, x) :: t) sh g Q := by
  refine wp_stp he rfl (s' := (pc + 1, L, (0, Int.tmod x y) :: t, sh, g)) ?_ kk
  show (if w32 y = 0 then none else some (pc + 1, L, ((0 : Nat), Int.tmod (w32 x) (w32 y)) :: t, sh, g)) = _
  rw [w32_id hx.1 hx.2, w32_id hy.1 hy.2, if_neg h0]
theorem wp_ldiv {n a : Nat} {z x y : Int} (he : am_fd T pc = some (.ldiv, n, a, z)) (hx : -9223372036854775808 ≤ x ∧ x < 9223372036854775808) (hy : -9223372036854775808 ≤ y ∧ y < 9223372036854775808) (h0 : y ≠ 0) (kk : Wp sn sx K T (pc + 1) L ((1, Int.tdiv x y) :: t) sh g Q) : Wp sn sx K T pc L ((1, y) :: (1, x) :: t) sh g Q := by
  refine wp_stp he rfl (s' := (pc + 1, L, (1, Int.tdiv x y) :: t, sh, g)) ?_ kk
  show (if w64 y = 0 then none else some (pc + 1, L, ((1 : Nat), Int.tdiv (w64 x) (w64 y)) :: t, sh, g)) = _
  rw [w64_id hx.1 hx.2, w64_id hy.1 hy.2, if_neg h0]
theorem wp_lrem {n a : Nat} {z x y : Int} (he : am_fd T pc = some (.lrem, n, a, z)) (hx : -9223372036854775808 ≤ x ∧ x < 9223372036854775808) (hy : -9223372036854775808 ≤ y ∧ y < 9223372036854775808) (h0 : y ≠ 0) (kk : Wp sn sx K T (pc + 1) L ((1, Int.tmod x y) :: t) sh g Q) : Wp sn sx K T pc L ((1, y) :: (1, x) :: t) sh g Q := by
  refine wp_stp he rfl (s' := (pc + 1, L, (1, Int.tmod x y) :: t, sh, g)) ?_ kk
  show (if w64 y = 0 then none else some (pc + 1, L, ((1 : Nat), Int.tmod (w64 x) (w64 y)) :: t, sh, g)) = _
  rw [w64_id hx.1 hx.2, w64_id hy.1 hy.2, if_neg h0]
theorem wp_i2l {n a : Nat} {z x : Int} (he : am_fd T pc = some (.i2l, n, a, z)) (hx : -2147483648 ≤ x ∧ x < 2147483648) (kk : Wp sn sx K T (pc + 1) L ((1, x) :: t) sh g Q) : Wp sn sx K T pc L ((0, x) :: t) sh g Q := by
  refine wp_stp he rfl (s' := (pc + 1, L, (1, x) :: t, sh, g)) ?_ kk
  show some (pc + 1, L, ((1 : Nat), w32 x) :: t, sh, g) = _
  rw [w32_id hx.1 hx.2]
/-- fields of a cell that is known by its shape alone -/
theorem wp_gfi {idx n a len : Nat} {k : Nat} {z : Int} {rs : List Nat} (j : Nat) (hz : z.toNat = j) (he : am_fd T pc = some (.getfield idx, n, a, z)) (hs : sh[k]? = some (4 + a, len, rs)) (ht : (am_cls.getD a [])[z.toNat]? = some 0 ∨ (am_cls.getD a [])[z.toNat]? = some 3) (kk : Wp sn sx K T (pc + 3) L ((0, g k j) :: t) sh g Q) : Wp sn sx K T pc L ((2, (k : Int)) :: t) sh g Q := by
  subst hz
  refine wp_stp he rfl (s' := (pc + 3, L, (0, g k z.toNat) :: t, sh, g)) ?_ kk
  show ((am_arr sh (k : Int) (4 + a)).bind fun o => ((am_cls.getD a [])[z.toNat]?).bind fun q => if q = 2 then (o.2[z.toNat]?).bind fun r => if r = 0 then none else some (pc + 3, L, ((2 : Nat), ((r - 1 : Nat) : Int)) :: t, sh, g) else if q = 1 then some (pc + 3, L, ((1 : Nat), g ((k : Int)).toNat z.toNat) :: t, sh, g) else some (pc + 3, L, ((0 : Nat), g ((k : Int)).toNat z.toNat) :: t, sh, g)) = _
  rw [am_arr_of hs]
  rcases ht with ht | ht
  · show Option.bind ((am_cls.getD a [])[z.toNat]?) _ = _
    rw [ht]
    rfl
  · show Option.bind ((am_cls.getD a [])[z.toNat]?) _ = _
    rw [ht]
    rfl
theorem wp_gfr {idx n a len r : Nat} {k : Nat} {z : Int} {rs : List Nat} (he : am_fd T pc = some (.getfield idx, n, a, z)) (hs : sh[k]? = some (4 + a, len, rs)) (ht : (am_cls.getD a [])[z.toNat]? = some 2) (hr : rs[z.toNat]? = some (r + 1)) (kk : Wp sn sx K T (pc + 3) L ((2, (r : Int)) :: t) sh g Q) : Wp sn sx K T pc L ((2, (k : Int)) :: t) sh g Q := by
  refine wp_stp he rfl (s' := (pc + 3, L, (2, (r : Int)) :: t, sh, g)) ?_ kk
  show ((am_arr sh (k : Int) (4 + a)).bind fun o => ((am_cls.getD a [])[z.toNat]?).bind fun q => if q = 2 then (o.2[z.toNat]?).bind fun r => if r = 0 then none else some (pc + 3, L, ((2 : Nat), ((r - 1 : Nat) : Int)) :: t, sh, g) else if q = 1 then some (pc + 3, L, ((1 : Nat), g ((k : Int)).toNat z.toNat) :: t, sh, g) else some (pc + 3, L, ((0 : Nat), g ((k : Int)).toNat z.toNat) :: t, sh, g)) = _
  rw [am_arr_of hs]
  show Option.bind ((am_cls.getD a [])[z.toNat]?) _ = _
  rw [ht]
  show Option.bind (rs[z.toNat]?) _ = _
  rw [hr]
  rfl
theorem wp_pfi {idx n a len : Nat} {k : Nat} {z x : Int} {rs : List Nat} (j : Nat) (hz : z.toNat = j) (he : am_fd T pc = some (.putfield idx, n, a, z)) (hs : sh[k]? = some (4 + a, len, rs)) (ht : (am_cls.getD a [])[z.toNat]? = some 0) (kk : Wp sn sx K T (pc + 3) L t sh (am_up g k j x) Q) : Wp sn sx K T pc L ((0, x) :: (2, (k : Int)) :: t) sh g Q := by
  subst hz
  refine wp_stp he rfl (s' := (pc + 3, L, t, sh, am_up g k z.toNat x)) ?_ kk
  show ((am_arr sh (k : Int) (4 + a)).bind fun o => ((am_cls.getD a [])[z.toNat]?).bind fun q => if q = 2 then (if (0 : Nat) = 2 ∧ z.toNat < o.2.length then some (pc + 3, L, t, sh.set ((k : Int)).toNat (4 + a, o.1, o.2.set z.toNat (x.toNat + 1)), g) else none) else if q = 1 then (if (0 : Nat) = 1 then some (pc + 3, L, t, sh, am_up g ((k : Int)).toNat z.toNat x) else none) else if q = 3 then (if (0 : Nat) = 0 ∧ (x = 0 ∨ x = 1) then some (pc + 3, L, t, sh, am_up g ((k : Int)).toNat z.toNat x) else none) else (if (0 : Nat) = 0 then some (pc + 3, L, t, sh, am_up g ((k : Int)).toNat z.toNat x) else none)) = _
  rw [am_arr_of hs]
  show Option.bind ((am_cls.getD a [])[z.toNat]?) _ = _
  rw [ht]
  rfl
theorem wp_alen {n a len kd : Nat} {k : Nat} {z : Int} {rs : List Nat} (he : am_fd T pc = some (.arraylength, n, a, z)) (hs : sh[k]? = some (kd, len, rs)) (hk : kd < 4) (kk : Wp sn sx K T (pc + 1) L ((0, (len : Int)) :: t) sh g Q) : Wp sn sx K T pc L ((2, (k : Int)) :: t) sh g Q := by
  refine wp_stp he rfl (s' := (pc + 1, L, (0, (len : Int)) :: t, sh, g)) ?_ kk
  show (sh[((k : Int)).toNat]?).bind (fun o => if o.1 < 4 then some (pc + 1, L, ((0 : Nat), (o.2.1 : Int)) :: t, sh, g) else none) = _
  rw [Int.toNat_natCast, hs]
  show (if kd < 4 then _ else _) = _
  rw [if_pos hk]
end WP
theorem am_rcv_of {sh : am_Sh} {k ci len : Nat} {rs : List Nat} {as : List am_V} (h : sh[k]? = some (4 + ci, len, rs)) (hc : ci ≠ 99) : am_rcv ci ((2, (k : Int)) :: as) sh = some 0 := by
  show (if ci = 99 then none else (am_arr sh (k : Int) (4 + ci)).bind fun _ => some 0) = _
  rw [if_neg hc, am_arr_of h]
  rfl
