/-! THE SIMULATION: a run of the abstract machine is a walk of the machine -/
def am_sb32 : List (List Int32) := am_sbyt.map fun l => l.map fun (c : Nat) => Int32.ofNat c
/-- what is known of a state beside its cells -/
def am_F (base b sn : Nat) (xs : Nat → Int32) (D : va_G) (cs : am_C4) (S : Nat → Nat) (U : State) : Prop := va_K D vwCl (am_tys cs) U ∧ va_X b sn xs U U.heap ∧ b < base ∧ base ≤ U.heap.size ∧ am_SR S U ∧ (∀ w ∈ am_nst, va_Nw w U) ∧ va_AO "LeaningWheel$Big" U ∧ va_Z "java/lang/String" "COMPACT_STRINGS" "Z" (.int 1) (am_AA base) U U.heap ∧ va_Zq "jdk/internal/util/Preconditions" "SIOOBE_FORMATTER" "Ljava/util/function/BiFunction;" (am_AA base) U U.heap ∧ vk_S 17 am_slen am_sb32 S (fun i => S (i + 100)) (am_AA base) U U.heap
def am_I (base b sn : Nat) (xs : Nat → Int32) (D : va_G) (cs : am_C4) (S : Nat → Nat) (sh : am_Sh) (g : am_G) (U : State) : Prop := am_F base b sn xs D cs S U ∧ va_P D vwCl (am_ws base cs sh g) U.heap ∧ U.heap.size = base + sh.length
def am_Pc (base b sn : Nat) (xs : Nat → Int32) (D : va_G) (cs : am_C4) (S : Nat → Nat) (as : List am_V) (sh : am_Sh) (g : am_G) : Array Value → State → Prop := fun v U => v = (as.map (am_cv base b S)).toArray ∧ am_I base b sn xs D cs S sh g U
def am_Qc (base b : Nat) (D : va_G) (cs : am_C4) (S : Nat → Nat) (r : am_R) : Array Value → State → Outcome → State → Prop := fun _ st oc t => (oc = .returned (r.1.map (am_cv base b S)) ∧ va_P D vwCl (am_ws base cs r.2.1 r.2.2) t.heap ∧ t.heap.size = base + r.2.1.length) ∧ va_F (am_AA base) st t
def am_wd (M : am_M) : List Cond := Cond.code M.1 M.2.1 M.2.2.1 M.2.2.2.1 :: am_good
def am_rm (d mc ms : Nat) : Room := { frames := d, cells := mc, slots := ms, locals := 64 * d }
theorem am_F_moved {base b sn : Nat} {xs : Nat → Int32} {D : va_G} {cs : am_C4} {S : Nat → Nat} {s U : State} {H : Heap} {locs : List Loc} (h : am_F base b sn xs D cs S s) (hS : va_S (am_AA base) s.heap H locs) (hU : U.heap = H) (hW : s.WarmedH U.vm) : am_F base b sn xs D cs S U := by
  obtain ⟨hK, hX, hbb, hbs, hSR, hN, hO, hZ1, hZ2, hV⟩ := h
  have hbA : ¬ am_AA base b := Nat.not_le.mpr hbb
  refine ⟨va_K.moved hW.alike hK, ?_, hbb, ?_, am_SR_warm hW hSR, am_nst_warm hW hN, va_AO.moved hW.alike hO, ?_, ?_, ?_⟩
  · rw [hU]
    exact va_X.moved hW.alike (hX.kept (hS.2.1 b (by omega) hbA))
  · rw [hU]
    exact Nat.le_trans hbs hS.1
  · rw [hU]
    exact va_Z.moved hW.alike (hZ1.kept hS.2.1)
  · rw [hU]
    exact va_Zq.moved hW.alike (hZ2.kept hS.2.1)
  · rw [hU]
    exact vk_S.moved hW.alike (hV.kept hS.2.1)
theorem am_F_calling {base b sn : Nat} {xs : Nat → Int32} {D : va_G} {cs : am_C4} {S : Nat → Nat} {U : State} {gg : JFrame} {mk : MethodId} {a : Array Value} (h : am_F base b sn xs D cs S U) : am_F base b sn xs D cs S (U.calling gg mk a) := by
  obtain ⟨hK, hX, hbb, hbs, hSR, hN, hO, hZ1, hZ2, hV⟩ := h
  refine ⟨va_K.moved (u := U) (U := U.calling gg mk a) (Vm.Alike.refl U.vm) hK, va_X.moved (u := U) (U := U.calling gg mk a) (Vm.Alike.refl U.vm) hX, hbb, hbs, fun i hi => vk_R.same (u := U) (U := U.calling gg mk a) rfl (hSR i hi), fun w hw => ?_, va_AO.moved (u := U) (U := U.calling gg mk a) (Vm.Alike.refl U.vm) hO, va_Z.moved (u := U) (U := U.calling gg mk a) (Vm.Alike.refl U.vm) hZ1, va_Zq.moved (u := U) (U := U.calling gg mk a) (Vm.Alike.refl U.vm) hZ2, vk_S.moved (u := U) (U := U.calling gg mk a) (Vm.Alike.refl U.vm) hV⟩
  obtain ⟨x1, x2, x3, x4, rfl⟩ := am_nst_form w hw
  exact va_Nw.same (u := U) (U := U.calling gg mk a) rfl rfl (hN _ hw)
theorem am_I_blind {base b sn : Nat} {xs : Nat → Int32} {D : va_G} {cs : am_C4} {S : Nat → Nat} {as : List am_V} {sh : am_Sh} {g : am_G} : FrameBlind (am_Pc base b sn xs D cs S as sh g) := fun a U gg mk h => ⟨h.1, am_F_calling h.2.1, h.2.2.1, h.2.2.2⟩
/-- the contract of an evaluation -/
def am_Met (l : Launch) (base b sn : Nat) (xs : Nat → Int32) (D : va_G) (cs : am_C4) (S : Nat → Nat) (d : Nat) (M : am_M) (as : List am_V) (sh : am_Sh) (g : am_G) (r : am_R) : Prop :=
  Met l M.1 (am_wd M) (am_rm d (r.2.1.length - sh.length) (am_tot r.2.1 - am_tot sh)) (am_Pc base b sn xs D cs S as sh g) (am_Qc base b D cs S r) (r.2.1.length - sh.length) (am_tot r.2.1 - am_tot sh) (am_AA base)
theorem am_goodIn (M : am_M) (h : Cond.code M.1 M.2.1 M.2.2.1 M.2.2.2.1 ∈ am_good) : GoodIn am_good (am_wd M) := by
  intro w hw
  rcases List.mem_cons.mp hw with rfl | hw
  · exact ⟨h, good_of_word (am_gd _ h)⟩
  · exact ⟨hw, good_of_word (am_gd _ hw)⟩
theorem am_args_i {n : Nat} {st : List am_V} {q : List am_V × List am_V} (h : am_args n st = some q) : st = q.1.reverse ++ q.2 ∧ q.1.length = n := by
  unfold am_args at h
  split at h
  · rename_i hc
    cases h
    refine ⟨by rw [List.reverse_reverse, List.take_append_drop], ?_⟩
    rw [List.length_reverse, List.length_take]
    omega
  · cases h
theorem am_cat_cv {base b : Nat} {S : Nat → Nat} (st : List am_V) : ((st.map (am_cv base b S)).map fun v => v.category).sum = am_cat st := by
  unfold am_cat
  rw [List.map_map]
  congr 1
  exact List.map_congr_left fun v _ => am_cv_cat v
section AMB
variable {p : Program} {l : Launch} {e : Env} {R : Room} {s : State} {m : MethodId} {args : Array Value} {below : List Frame} {meth : Method} {c : Code} {H : Heap} {locs : List Loc} {cells slots : Nat} {Q : State → Prop}
variable {cc : ByteArray} {D : va_G} {cs : am_C4} {base b sn : Nat} {xs : Nat → Int32} {S : Nat → Nat} {own nm : String}
variable {n a : Nat} {z : Int} {pc pc' : Nat} {L L' st st' : List am_V} {sh sh' : am_Sh} {g g' : am_G} {ls : Array Slot}
/-- behind a call -/
theorem am_after {r : am_R} {rest : List am_V} {mc ms : Nat} {aa : Array Value} (hr : va_Run p l e R s m args below meth c H locs cells slots mc ms (F0 m pc ls (st.map (am_cv base b S))) (rest.map (am_cv base b S)) (am_Qc base b D cs S r aa) (am_AA base)) (hS : va_S (am_AA base) s.heap H locs)
    (kk : ∀ (H1 : Heap) (locs1 : List Loc), va_P D vwCl (am_ws base cs r.2.1 r.2.2) H1 → H1.size = base + r.2.1.length → va_S (am_AA base) s.heap H1 locs1 → W p l e R s m args below meth c H1 locs1 (cells + mc) (slots + ms) Q (F0 m (pc + 3) ls ((am_push r.1 rest).map (am_cv base b S)))) : W p l e R s m args below meth c H locs cells slots Q (F0 m pc ls (st.map (am_cv base b S))) := by
  intro T hT X
  obtain ⟨v, st₀, t, T', LL, h0, X', hL, e1, e2, ⟨⟨hv, hP, hz⟩, hz2, hk⟩, stp⟩ := hr T hT X
  have hv := Outcome.returned.inj hv
  rw [h0] at hz2 hk
  obtain ⟨t2, a1, b1⟩ := kk T'.heap (locs ++ LL) (by rw [e1]; exact hP) (by rw [e1]; exact hz)
    ⟨Nat.le_trans hS.1 (by rw [e1]; exact hz2), fun q h1 h2 => by rw [e1, hk q (Nat.lt_of_lt_of_le h1 hS.1) h2]; exact hS.2.1 q h1 h2, fun q hq => by
      rcases List.mem_append.mp hq with h | h
      · exact hS.2.2 q h
      · exact hL q h⟩ T' rfl X'
  refine ⟨t2, stp t2 ?_, b1⟩
  have e3 : v.toList ++ rest.map (am_cv base b S) = (am_push r.1 rest).map (am_cv base b S) := by
    rw [hv]
    cases r.1 <;> rfl
  rw [e3]
  exact a1
theorem am_recv {v : Int} {ci : Nat} {o : Nat × List Nat} {q : vw_C} (hK : va_K D vwCl (am_tys cs) s) (hP : va_P D vwCl (am_ws base cs sh g) H) (ho : am_arr sh v (4 + ci) = some o) (hq : vwCl[ci]? = some q) : ∃ cell : Cell, H[base + v.toNat]? = some cell ∧ cell.vm.isStatics = false ∧ s.vm.findClass q.1 = some cell.cls := by
  have h1 := am_ws_get (base := base) (cs := cs) (g := g) (am_arr_i ho)
  rw [am_en4] at h1
  exact va_recv hK hP hq h1
end AMB
