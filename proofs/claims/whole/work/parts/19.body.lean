/-! THE SIMULATION: bodies and methods -/
theorem am_al_rep {base b : Nat} {S : Nat → Nat} (k : Nat) : ∀ i, am_al base b S i (List.replicate k (9, 0)) = [] := by
  induction k with
  | zero => intro i; rfl
  | succ k ih =>
    intro i
    rw [List.replicate_succ]
    unfold am_al
    rw [if_pos rfl]
    exact ih _
theorem am_al_lay {base b : Nat} {S : Nat → Nat} {k : Nat} {q : Nat × Value} : ∀ (as : List am_V) (i : Nat), q ∈ am_al base b S i (am_lay as ++ List.replicate k (9, 0)) → q ∈ lv_args i (as.map (am_cv base b S))
  | [], i, h => by
    simp only [am_lay, List.nil_append, am_al_rep] at h
    cases h
  | v :: t, i, h => by
    unfold am_lay at h
    rw [List.map_cons]
    unfold lv_args
    rw [am_cv_cat]
    by_cases h1 : v.1 = 1
    · rw [if_pos h1] at h
      rw [if_pos h1, if_pos rfl]
      rw [List.cons_append, List.cons_append] at h
      unfold am_al at h
      rw [if_neg (by rw [h1]; decide)] at h
      rcases List.mem_cons.mp h with h | h
      · rw [h]; exact List.mem_cons_self
      · unfold am_al at h
        rw [if_pos rfl] at h
        exact List.mem_cons_of_mem _ (am_al_lay t _ h)
    · rw [if_neg h1] at h
      rw [if_neg h1, if_neg (by decide)]
      rw [List.cons_append] at h
      unfold am_al at h
      by_cases h9 : v.1 = 9
      · rw [if_pos h9] at h
        exact List.mem_cons_of_mem _ (am_al_lay t _ h)
      · rw [if_neg h9] at h
        rcases List.mem_cons.mp h with h | h
        · rw [h]; exact List.mem_cons_self
        · exact List.mem_cons_of_mem _ (am_al_lay t _ h)
theorem am_lay_len {base b : Nat} {S : Nat → Nat} : ∀ as : List am_V, (lg_sl (as.map (am_cv base b S))).length = (am_lay as).length
  | [] => rfl
  | v :: t => by
    have ih := am_lay_len (base := base) (b := b) (S := S) t
    unfold lg_sl at ih
    rw [List.map_cons]
    unfold lg_sl am_lay
    rw [List.flatMap_cons, List.length_append, ih, am_cv_cat]
    by_cases h1 : v.1 = 1
    · simp [h1]; omega
    · simp [h1]; omega
section AMB
variable {p : Program} {l : Launch} {e : Env} {R : Room} {s : State} {m : MethodId} {args : Array Value} {below : List Frame} {meth : Method} {c : Code} {Q : State → Prop}
variable {cc : ByteArray} {D : va_G} {cs : am_C4} {base b sn : Nat} {xs : Nat → Int32} {S : Nat → Nat} {own nm : String}
variable {pc pc' : Nat} {L L' st st' : List am_V} {sh sh' : am_Sh} {g g' : am_G}
set_option maxHeartbeats 8000000 in
theorem am_stp_L {en : am_E} {sx : Nat → Int} (h : am_stp sn sx en pc L st sh g = some (pc', L', st', sh', g')) : L'.length = L.length := by
  obtain ⟨I, n, a, z⟩ := en
  cases I <;> simp only [am_stp, am_nx, Option.bind_eq_some_iff, Option.some.injEq, Prod.mk.injEq, reduceCtorEq] at h
  all_goals repeat' (first | contradiction | (obtain ⟨_, _, h⟩ := h) | (obtain ⟨_, h⟩ := h) | split at h)
  all_goals (try simp only [Option.bind_eq_some_iff, Option.some.injEq, Prod.mk.injEq, reduceCtorEq] at h)
  all_goals repeat' (first | contradiction | (obtain ⟨_, _, h⟩ := h) | (obtain ⟨_, h⟩ := h) | split at h)
  all_goals (try simp only [Option.bind_eq_some_iff, Option.some.injEq, Prod.mk.injEq, reduceCtorEq] at h)
  all_goals repeat' (first | contradiction | (obtain ⟨_, _, h⟩ := h) | (obtain ⟨_, h⟩ := h) | split at h)
  all_goals subst_vars
  all_goals (first | rfl | exact am_s1_len _ _ _ | exact am_s2_len _ _ _)
theorem am_kind0 {e : am_E} (h : am_kind e.1 = 0) : True := trivial
set_option maxHeartbeats 4000000 in
theorem am_body {cal : Nat → List am_V → am_Sh → am_G → Option am_R} {mi : Nat → Option am_M} {d : Nat} {tb : Nat → Option am_E} {ret : Option FieldType} (hx : p.tables.exec = Jvm.exec) (hb : c.code = cc) (hown : s.vm.findClass own = some m.cls) (hts : ∀ w ∈ am_good, w.before args s = true) (hnm : meth.name = nm) (hF : am_F base b sn xs D cs S s) (hmono : am_mono cal) (hcal : am_Cal l base b sn xs D cs S mi d cal) (hd1 : d + 1 ≤ R.frames) (hd2 : 64 * (d + 1) ≤ R.locals)
    (htb : ∀ pc e, tb pc = some e → decode cc pc = .ok (e.1, e.2.1) ∧ am_okE mi own nm ret pc e) {r : am_R} {CE SE : Nat} (hCE : CE ≤ R.cells) (hSE : SE ≤ R.slots)
    (hret : ∀ (pc : Nat) (en : am_E) (st : List am_V) (H1 : Heap) (locs1 : List Loc) (ls1 : Array Slot), tb pc = some en → am_ret en st = some r.1 → va_P D vwCl (am_ws base cs r.2.1 r.2.2) H1 → H1.size = base + r.2.1.length → va_S (am_AA base) s.heap H1 locs1 → W p l e R s m args below meth c H1 locs1 CE SE Q (F0 m pc ls1 (st.map (am_cv base b S)))) :
    ∀ (f pc : Nat) (L st : List am_V) (sh : am_Sh) (g : am_G) (H : Heap) (locs : List Loc) (cells slots : Nat) (ls : Array Slot), am_run cal mi tb sn (fun j => (xs j).toInt) f pc L st sh g = some r → L.length = c.maxLocals → am_LR base b S ls L → va_P D vwCl (am_ws base cs sh g) H → H.size = base + sh.length → va_S (am_AA base) s.heap H locs → cells + (r.2.1.length - sh.length) = CE → slots + (am_tot r.2.1 - am_tot sh) = SE → W p l e R s m args below meth c H locs cells slots Q (F0 m pc ls (st.map (am_cv base b S))) := by
  intro f
  induction f with
  | zero => intro pc L st sh g H locs cells slots ls h; cases h
  | succ f ih =>
    intro pc L st sh g H locs cells slots ls h hL hl hP hz hS hc1 hc2
    unfold am_run at h
    obtain ⟨en, he, h⟩ := Option.bind_eq_some_iff.mp h
    obtain ⟨hdg, hokI, hokR, hokN, hokC⟩ := htb _ _ he
    have hml : c.maxLocals = ls.size := by rw [← hL]; exact hl.1.symm
    split at h
    · obtain ⟨⟨pc1, L1, st1, sh1, g1⟩, h1, h2⟩ := Option.bind_eq_some_iff.mp h
      obtain ⟨e1, e2⟩ := am_stp_len h1
      have e3 := am_stp_L h1
      have e4 : am_tot sh1 = am_tot sh := by unfold am_tot; rw [e2]
      exact am_step hx hb hown hts hnm hF.1 hF.2.1 hF.2.2.1 hF.2.2.2.1 hF.2.2.2.2.1 h1 hdg hokI hl hP hS (fun H1 locs1 ls1 p1 p2 p3 p4 =>
        ih pc1 L1 st1 sh1 g1 H1 locs1 cells slots ls1 h2 (by rw [e3]; exact hL) p4 p1 (by omega) p3 (by rw [e1]; exact hc1) (by rw [e4]; exact hc2))
    · obtain ⟨q, h1, h2⟩ := Option.bind_eq_some_iff.mp h
      have h2 := Option.some.inj h2
      subst h2
      have e1 : CE = cells := by rw [← hc1, Nat.sub_self]; rfl
      have e2 : SE = slots := by rw [← hc2, Nat.sub_self]; rfl
      have := hret pc en st H locs ls he h1 hP hz hS
      rw [e1, e2] at this
      exact this
    · obtain ⟨⟨pc1, st1, sh1, g1⟩, h1, h2⟩ := Option.bind_eq_some_iff.mp h
      have e1 := am_new_len h1
      have e2 := am_run_len hmono _ _ _ _ _ _ _ h2
      simp only at e1 e2
      exact am_newS hx hb hown hts hF h1 hdg hokI hokN hP hz hS (by omega) (by omega) (fun H1 p1 p2 p3 =>
        ih pc1 L st1 sh1 g1 H1 locs _ _ ls h2 hL hl p1 p2 p3 (by omega) (by omega))
    · obtain ⟨⟨st1, sh1, g1⟩, h1, h2⟩ := Option.bind_eq_some_iff.mp h
      have e1 := am_call_len hmono h1
      have e2 := am_run_len hmono _ _ _ _ _ _ _ h2
      simp only at e1 e2
      exact am_callS hx hb hml hown hts hF hcal hd1 hd2 h1 hdg hokI hokC hP hz hS (by omega) (by omega) (fun H1 locs1 p1 p2 p3 =>
        ih (pc + 3) L st1 sh1 g1 H1 locs1 _ _ ls h2 hL hl p1 p2 p3 (by omega) (by omega))
end AMB
/-- the prims' contracts, as they are owed -/
def am_PrimOK (l : Launch) (base b sn : Nat) (xs : Nat → Int32) (D : va_G) (cs : am_C4) (S : Nat → Nat) (mi : Nat → Option am_M) : Prop := ∀ d mid as sh g r M, 1002 ≤ mid → 6 ≤ d → mi mid = some M → am_prim mid as sh g = some r → Cond.code M.1 M.2.1 M.2.2.1 M.2.2.2.1 ∈ am_good ∧ am_Met l base b sn xs D cs S (d + 1) M as sh g r
set_option maxHeartbeats 4000000 in
theorem am_sim {l : Launch} {base b sn : Nat} {xs : Nat → Int32} {D : va_G} {cs : am_C4} {S : Nat → Nat} {mi : Nat → Option am_M} {tb : Nat → Nat → Option am_E} (hall : ∀ mid M, mid < 1002 → mi mid = some M → am_okM mi M (tb mid)) (hprim : am_PrimOK l base b sn xs D cs S mi) (f : Nat) : ∀ d, am_Cal l base b sn xs D cs S mi d (am_ev mi tb sn (fun j => (xs j).toInt) d f) := by
  intro d
  induction d with
  | zero => intro mid as sh g r M h1 h2; cases h2
  | succ d ih =>
    intro mid as sh g r M h1 h2
    unfold am_ev at h2
    by_cases hm : 1002 ≤ mid
    · rw [if_pos hm] at h2
      split at h2
      · rename_i h6
        exact hprim d mid as sh g r M hm h6 h1 h2
      · cases h2
    · rw [if_neg hm] at h2
      obtain ⟨M', h3, h4⟩ := Option.bind_eq_some_iff.mp h2
      cases h1.symm.trans h3
      split at h4
      case isFalse => cases h4
      rename_i hfit
      obtain ⟨k1, k2, k3⟩ := hall mid M (by omega) h1
      refine ⟨k2, ?_⟩
      refine va_MetF (cc := M.2.1) (maxL := M.2.2.1) (ret := M.2.2.2.1) k1 rfl ?_
      intro p e s m args below meth c s₁ B hml hv
      obtain ⟨rfl, hF, hP, hz⟩ := hv
      have hx := B.exec
      have hb := B.bytes
      have hr := B.returns
      have hts0 := atoms_spec (ws := am_wd M) B.pre
      have hts : ∀ w ∈ am_good, w.before (as.map (am_cv base b S)).toArray s = true := fun w hw => hts0 w (List.mem_cons_of_mem _ hw)
      have hown : s.vm.findClass M.1.cls = some m.cls := findClass_of_methodNamed B.named
      have hlocks := B.notSynchronized
      have hin : meth.name = M.1.name := (name_of_methodNamed B.named B.method).1
      have hS : va_S (am_AA base) s.heap s.heap [] := va_S.rf
      have hll := lv_entry (as.map (am_cv base b S)) (n := M.2.2.1) (by rw [am_lay_len]; exact hfit)
      rw [lg_entry_eq]
      generalize (lg_sl (as.map (am_cv base b S)) ++ List.replicate (M.2.2.1 - (lg_sl (as.map (am_cv base b S))).length) Slot.unset).toArray = ls at hll ⊢
      have hlen : (am_loc M.2.2.1 as).length = M.2.2.1 := by
        unfold am_loc
        rw [List.length_append, List.length_replicate]
        omega
      have hl : am_LR base b S ls (am_loc M.2.2.1 as) := by
        refine ⟨by rw [hlen]; exact hll.1, hll.2.1, fun q hq => hll.2.2 q ?_⟩
        exact am_al_lay as 0 hq
      refine am_body (R := am_rm (d + 1) (r.2.1.length - sh.length) (am_tot r.2.1 - am_tot sh)) (d := d) (tb := tb mid) (ret := M.2.2.2.1) (nm := M.1.name) (CE := r.2.1.length - sh.length) (SE := am_tot r.2.1 - am_tot sh) hx hb hown hts hin hF (am_ev_len f d) ih (Nat.le_refl _) (Nat.le_refl _) k3 (Nat.le_refl _) (Nat.le_refl _) ?_ f 0 (am_loc M.2.2.1 as) [] sh g s.heap [] 0 0 ls h4 (by rw [hlen]; exact hml.symm) hl hP hz hS (Nat.zero_add _) (Nat.zero_add _)
      intro pc en st H1 locs1 ls1 q1 q2 q3 q4 q5
      obtain ⟨hdg, hokI, hokR, -, -⟩ := k3 _ _ q1
      have hfin : ∀ t : State, t.heap = H1 → am_Qc base b D cs S r (as.map (am_cv base b S)).toArray s (.returned (r.1.map (am_cv base b S))) t := fun t ht => ⟨⟨rfl, by rw [ht]; exact q3, by rw [ht]; exact q4⟩, q5.F ht⟩
      obtain ⟨I, n, a, z⟩ := en
      obtain ⟨hlen2, -⟩ := hokI
      cases I <;> simp only [am_ret, reduceCtorEq] at q2
      case return_ =>
        have hn : n = 1 := hlen2 (fun w => by cases w)
        subst hn
        split at q2
        case h_2 => cases q2
        have q2 := Option.some.inj q2
        exact W.vret hx hb (hr.trans hokR) (fun t ht _ => by have := hfin t ht; rw [← q2] at this; exact this) q5.2.2 hdg hlocks
      case ireturn =>
        have hn : n = 1 := hlen2 (fun w => by cases w)
        subst hn
        split at q2
        case h_2 => cases q2
        rename_i v
        by_cases v0 : v.1 = 0
        case neg => rw [if_neg v0] at q2; cases q2
        rw [if_pos v0] at q2
        obtain ⟨v1, v2⟩ := v
        simp only at v0
        subst v0
        rcases hokR with ⟨ha, hR⟩ | ⟨ha, hR⟩
        · rw [if_pos ha] at q2
          by_cases h01 : v2 = 0 ∨ v2 = 1
          case neg => rw [if_neg h01] at q2; cases q2
          rw [if_pos h01] at q2
          have q2 := Option.some.inj q2
          exact W.zret (v := Int32.ofInt v2) (ty := .boolean) hx hb (hr.trans hR) (by rcases h01 with rfl | rfl <;> decide) (fun t ht _ => by have := hfin t ht; rw [← q2] at this; exact this) q5.2.2 hdg hlocks
        · rw [if_neg ha] at q2
          have q2 := Option.some.inj q2
          exact W.iret (v := Int32.ofInt v2) hx hb (hr.trans hR) (fun t ht _ => by have := hfin t ht; rw [← q2] at this; exact this) q5.2.2 hdg hlocks
      case lreturn =>
        have hn : n = 1 := hlen2 (fun w => by cases w)
        subst hn
        split at q2
        case h_2 => cases q2
        rename_i v
        by_cases v0 : v.1 = 1
        case neg => rw [if_neg v0] at q2; cases q2
        rw [if_pos v0] at q2
        obtain ⟨v1, v2⟩ := v
        simp only at v0
        subst v0
        have q2 := Option.some.inj q2
        exact W.lret (v := Int64.ofInt v2) hx hb (hr.trans hokR) (fun t ht _ => by have := hfin t ht; rw [← q2] at this; exact this) q5.2.2 hdg hlocks
      case areturn =>
        have hn : n = 1 := hlen2 (fun w => by cases w)
        subst hn
        split at q2
        case h_2 => cases q2
        rename_i v
        by_cases v0 : v.1 = 4
        case neg => rw [if_neg v0] at q2; cases q2
        rw [if_pos v0] at q2
        obtain ⟨v1, v2⟩ := v
        simp only at v0
        subst v0
        have q2 := Option.some.inj q2
        exact W.aret (v := .ref (S v2.toNat)) hx hb (hr.trans hokR) (Or.inl ⟨_, rfl⟩) (Or.inr ⟨_, rfl⟩) (fun t ht _ => by have := hfin t ht; rw [← q2] at this; exact this) q5.2.2 hdg hlocks
