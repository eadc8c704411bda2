/-! THE LIBRARY'S STRINGS: length and charAt, by hand -/
def pr_Pc (base b sn : Nat) (xs : Nat → Int32) (D : va_G) (cs : am_C4) (S : Nat → Nat) (sh : am_Sh) (g : am_G) (vs : List Value) : Array Value → State → Prop := fun v U => v = vs.toArray ∧ am_I base b sn xs D cs S sh g U
def pr_Qc (base : Nat) (D : va_G) (cs : am_C4) (sh : am_Sh) (g : am_G) (o : Option Value) : Array Value → State → Outcome → State → Prop := fun _ st oc t => (oc = .returned o ∧ va_P D vwCl (am_ws base cs sh g) t.heap ∧ t.heap.size = base + sh.length) ∧ va_F (am_AA base) st t
def pr_Met (l : Launch) (base b sn : Nat) (xs : Nat → Int32) (D : va_G) (cs : am_C4) (S : Nat → Nat) (sh : am_Sh) (g : am_G) (d : Nat) (M : am_M) (vs : List Value) (o : Option Value) : Prop := Met l M.1 (am_wd M) (am_rm d 0 0) (pr_Pc base b sn xs D cs S sh g vs) (pr_Qc base D cs sh g o) 0 0 (am_AA base)
section PRI
variable {l : Launch} {base b sn : Nat} {xs : Nat → Int32} {D : va_G} {cs : am_C4} {S : Nat → Nat} {sh : am_Sh} {g : am_G} {vs rest : List Value} {o : Option Value} {d : Nat} {M : am_M}
theorem pr_blind : FrameBlind (pr_Pc base b sn xs D cs S sh g vs) := fun a U gg mk h => ⟨h.1, am_F_calling h.2.1, h.2.2.1, h.2.2.2⟩
theorem pr_met (hy : plainFor M.1 = true) (hfit : (lg_sl vs).length ≤ M.2.2.1) (body : ∀ (p : Program) (e : Env) (s : State) (m : MethodId) (below : List Frame) (meth : Method) (c : Code) (ls : Array Slot), p.tables.exec = Jvm.exec → c.code = M.2.1 → meth.sig.returnType = M.2.2.2.1 → c.maxLocals = ls.size → s.vm.findClass M.1.cls = some m.cls → meth.locks = false → (∀ w ∈ am_good, w.before vs.toArray s = true) → am_F base b sn xs D cs S s → va_P D vwCl (am_ws base cs sh g) s.heap → s.heap.size = base + sh.length → lv_has ls M.2.2.1 (lv_args 0 vs) → W p l e (am_rm d 0 0) s m vs.toArray below meth c s.heap [] 0 0 (MQ below (pr_Qc base D cs sh g o) vs.toArray s 0 0 (am_AA base)) (F0 m 0 ls [])) : pr_Met l base b sn xs D cs S sh g d M vs o := by
  refine va_MetF (cc := M.2.1) (maxL := M.2.2.1) (ret := M.2.2.2.1) hy rfl ?_
  intro p e s m args below meth c s₁ B hml hv
  obtain ⟨rfl, hF, hP, hz⟩ := hv
  have hts0 := atoms_spec (ws := am_wd M) B.pre
  have hts : ∀ w ∈ am_good, w.before vs.toArray s = true := fun w hw => hts0 w (List.mem_cons_of_mem _ hw)
  have hown : s.vm.findClass M.1.cls = some m.cls := findClass_of_methodNamed B.named
  have hll := lv_entry vs (n := M.2.2.1) hfit
  rw [lg_entry_eq]
  generalize (lg_sl vs ++ List.replicate (M.2.2.1 - (lg_sl vs).length) Slot.unset).toArray = ls at hll ⊢
  exact body p e s m below meth c ls B.exec B.bytes B.returns (hml.trans hll.1.symm) hown B.notSynchronized hts hF hP hz hll
variable {p : Program} {e : Env} {R : Room} {s : State} {m : MethodId} {args : Array Value} {below : List Frame} {meth : Method} {c : Code} {H : Heap} {locs : List Loc} {cells slots : Nat} {Q : State → Prop}
variable {cc : ByteArray} {own : String} {idx pc : Nat} {ls : Array Slot} {st0 : List Value}
theorem pr_fin (hP : va_P D vwCl (am_ws base cs sh g) H) (hz : H.size = base + sh.length) (hS : va_S (am_AA base) s.heap H locs) : ∀ t : State, t.heap = H → s.WarmedH t.vm → pr_Qc base D cs sh g o args s (.returned o) t := fun t ht _ => ⟨⟨rfl, by rw [ht]; exact hP, by rw [ht]; exact hz⟩, hS.F ht⟩
theorem pr_after {aa : Array Value} (hr : va_Run p l e R s m args below meth c H locs cells slots 0 0 (F0 m pc ls st0) rest (pr_Qc base D cs sh g o aa) (am_AA base)) (hS : va_S (am_AA base) s.heap H locs)
    (kk : ∀ (H1 : Heap) (locs1 : List Loc), va_P D vwCl (am_ws base cs sh g) H1 → H1.size = base + sh.length → va_S (am_AA base) s.heap H1 locs1 → W p l e R s m args below meth c H1 locs1 cells slots Q (F0 m (pc + 3) ls (o.toList ++ rest))) : W p l e R s m args below meth c H locs cells slots Q (F0 m pc ls st0) := by
  intro T hT X
  obtain ⟨v, st₀, t, T', LL, h0, X', hL, e1, e2, ⟨⟨hv, hP, hz⟩, hz2, hk⟩, stp⟩ := hr T hT X
  have hv := Outcome.returned.inj hv
  rw [h0] at hz2 hk
  obtain ⟨t2, a1, b1⟩ := kk T'.heap (locs ++ LL) (by rw [e1]; exact hP) (by rw [e1]; exact hz)
    ⟨Nat.le_trans hS.1 (by rw [e1]; exact hz2), fun q h1 h2 => by rw [e1, hk q (Nat.lt_of_lt_of_le h1 hS.1) h2]; exact hS.2.1 q h1 h2, fun q hq => by
      rcases List.mem_append.mp hq with h | h
      · exact hS.2.2 q h
      · exact hL q h⟩ T' rfl X'
  refine ⟨t2, stp t2 ?_, b1⟩
  rw [hv]
  exact a1
theorem pr_callS (hx : p.tables.exec = Jvm.exec) (hb : c.code = cc) (hml : c.maxLocals = ls.size) (hown : s.vm.findClass own = some m.cls) (hts : ∀ w ∈ am_good, w.before args s = true) (hF : am_F base b sn xs D cs S s) (hM : pr_Met l base b sn xs D cs S sh g d M vs o) (g1 : Cond.code M.1 M.2.1 M.2.2.1 M.2.2.2.1 ∈ am_good) (m2 : M.1.cls ≠ "java/lang/invoke/MethodHandle" ∧ M.1.cls ≠ "java/lang/invoke/VarHandle" ∧ (parseMethodDescriptor M.1.desc).map (fun d => d.parameters.length) = some vs.length) (m3 : Cond.initialized M.1.cls ∈ am_good) (m4 : M.2.2.1 ≤ 40) (m5 : Cond.methodLink own idx M.1 ∈ am_good) (m6 : Cond.static M.1 ∈ am_good) (hd1 : d + 1 ≤ R.frames) (hd2 : 64 * (d + 1) ≤ R.locals) (hcat : (rest.map fun v => v.category).sum ≤ 8) (hdg : decode cc pc = .ok (.invokestatic idx, 3))
    (hP : va_P D vwCl (am_ws base cs sh g) H) (hz : H.size = base + sh.length) (hS : va_S (am_AA base) s.heap H locs) (hc1 : cells ≤ R.cells) (hc2 : slots ≤ R.slots)
    (kk : ∀ (H1 : Heap) (locs1 : List Loc), va_P D vwCl (am_ws base cs sh g) H1 → H1.size = base + sh.length → va_S (am_AA base) s.heap H1 locs1 → W p l e R s m args below meth c H1 locs1 cells slots Q (F0 m (pc + 3) ls (o.toList ++ rest))) : W p l e R s m args below meth c H locs cells slots Q (F0 m pc ls (vs.reverse ++ rest)) := by
  have hFix : CallFix p m c cc ls.size s args am_good own := ⟨hx, hb, hml, hown, hts⟩
  have hPre : ∀ U : State, U.heap = H → s.WarmedH U.vm → pr_Pc base b sn xs D cs S sh g vs vs.toArray U := fun U hU hW => ⟨rfl, am_F_moved hF hS hU hW, by rw [hU]; exact hP, by rw [hU]; exact hz⟩
  have hR : (am_rm d 0 0).frames + 1 ≤ R.frames ∧ 8 + (M.2.2.1 + 11) + (am_rm d 0 0).locals ≤ R.locals := ⟨hd1, by show 8 + (M.2.2.1 + 11) + 64 * d ≤ R.locals; omega⟩
  exact pr_after (va_runS hFix hM ⟨callB_of vs.length hts (am_goodIn M g1) rfl rfl rfl (hts _ m3) (hts _ m5) m2 hR, hts _ m6⟩ ⟨pr_blind, hPre⟩ rfl rfl rfl rfl (lv_room hcat) hdg ⟨hc1, hc2⟩) hS kk
theorem pr_callV {i : Nat} (hi : i < 17) (hx : p.tables.exec = Jvm.exec) (hb : c.code = cc) (hml : c.maxLocals = ls.size) (hown : s.vm.findClass own = some m.cls) (hts : ∀ w ∈ am_good, w.before args s = true) (hF : am_F base b sn xs D cs S s) (hM : pr_Met l base b sn xs D cs S sh g d M (.ref (S i) :: vs) o) (g1 : Cond.code M.1 M.2.1 M.2.2.1 M.2.2.2.1 ∈ am_good) (m2 : M.1.cls ≠ "java/lang/invoke/MethodHandle" ∧ M.1.cls ≠ "java/lang/invoke/VarHandle" ∧ (parseMethodDescriptor M.1.desc).map (fun d => d.parameters.length) = some vs.length) (m0 : M.1.cls = "java/lang/String") (m3 : Cond.initialized M.1.cls ∈ am_good) (m4 : M.2.2.1 ≤ 40) (m5 : Cond.methodLink own idx M.1 ∈ am_good) (m6 : Cond.instanceMethod M.1 ∈ am_good) (m7 : Cond.selects M.1.cls M.1 M.1 ∈ am_good) (hd1 : d + 1 ≤ R.frames) (hd2 : 64 * (d + 1) ≤ R.locals) (hcat : (rest.map fun v => v.category).sum ≤ 8) (hdg : decode cc pc = .ok (.invokevirtual idx, 3))
    (hP : va_P D vwCl (am_ws base cs sh g) H) (hz : H.size = base + sh.length) (hS : va_S (am_AA base) s.heap H locs) (hc1 : cells ≤ R.cells) (hc2 : slots ≤ R.slots)
    (kk : ∀ (H1 : Heap) (locs1 : List Loc), va_P D vwCl (am_ws base cs sh g) H1 → H1.size = base + sh.length → va_S (am_AA base) s.heap H1 locs1 → W p l e R s m args below meth c H1 locs1 cells slots Q (F0 m (pc + 3) ls (o.toList ++ rest))) : W p l e R s m args below meth c H locs cells slots Q (F0 m pc ls (vs.reverse ++ .ref (S i) :: rest)) := by
  have hFix : CallFix p m c cc ls.size s args am_good own := ⟨hx, hb, hml, hown, hts⟩
  have hPre : ∀ U : State, U.heap = H → s.WarmedH U.vm → pr_Pc base b sn xs D cs S sh g (.ref (S i) :: vs) (Value.ref (S i) :: vs).toArray U := fun U hU hW => ⟨rfl, am_F_moved hF hS hU hW, by rw [hU]; exact hP, by rw [hU]; exact hz⟩
  have hR : (am_rm d 0 0).frames + 1 ≤ R.frames ∧ 8 + (M.2.2.1 + 11) + (am_rm d 0 0).locals ≤ R.locals := ⟨hd1, by show 8 + (M.2.2.1 + 11) + 64 * d ≤ R.locals; omega⟩
  have hcell : ∃ cell : Cell, H[S i]? = some cell ∧ cell.vm.isStatics = false ∧ s.vm.findClass M.1.cls = some cell.cls := by
    rw [m0]
    exact vk_recv hF.2.2.2.2.2.2.2.2.2 hi hS
  exact pr_after (va_runV hFix hM ⟨callB_of vs.length hts (am_goodIn M g1) rfl rfl rfl (hts _ m3) (hts _ m5) m2 hR, hts _ m6, hts _ m7⟩ ⟨pr_blind, hcell, hPre⟩ rfl rfl rfl rfl (lv_room hcat) hdg ⟨hc1, hc2⟩) hS kk

def pM_coder : am_M := (⟨"java/lang/String", "coder", "()B"⟩, prog_16_method_152_code, 1, some .byte, 99)
theorem pw_coder : Cond.code pM_coder.1 pM_coder.2.1 pM_coder.2.2.1 pM_coder.2.2.2.1 ∈ am_good := am_wi 3 181 rfl rfl
def pM_isLatin1 : am_M := (⟨"java/lang/String", "isLatin1", "()Z"⟩, prog_16_method_154_code, 1, some .boolean, 99)
theorem pw_isLatin1 : Cond.code pM_isLatin1.1 pM_isLatin1.2.1 pM_isLatin1.2.2.1 pM_isLatin1.2.2.2.1 ∈ am_good := am_wi 3 191 rfl rfl
def pM_pchk : am_M := (⟨"jdk/internal/util/Preconditions", "checkIndex", "(IILjava/util/function/BiFunction;)I"⟩, prog_21_method_11_code, 3, some .int, 99)
theorem pw_pchk : Cond.code pM_pchk.1 pM_pchk.2.1 pM_pchk.2.2.1 pM_pchk.2.2.2.1 ∈ am_good := am_wi 3 202 rfl rfl
def pM_schk : am_M := (⟨"java/lang/String", "checkIndex", "(II)V"⟩, prog_16_method_155_code, 2, none, 99)
theorem pw_schk : Cond.code pM_schk.1 pM_schk.2.1 pM_schk.2.2.1 pM_schk.2.2.2.1 ∈ am_good := am_wi 3 197 rfl rfl
def pM_lchar : am_M := (⟨"java/lang/StringLatin1", "charAt", "([BI)C"⟩, prog_17_method_2_code, 2, some .char, 99)
theorem pw_lchar : Cond.code pM_lchar.1 pM_lchar.2.1 pM_lchar.2.2.1 pM_lchar.2.2.2.1 ∈ am_good := am_wi 3 194 rfl rfl
theorem pw_Ml : Cond.code am_Ml.1 am_Ml.2.1 am_Ml.2.2.1 am_Ml.2.2.2.1 ∈ am_good := am_wi 3 177 rfl rfl
theorem pw_Mc : Cond.code am_Mc.1 am_Mc.2.1 am_Mc.2.2.1 am_Mc.2.2.2.1 ∈ am_good := am_wi 3 187 rfl rfl
theorem pf_38 : Cond.fieldLink "java/lang/String" 38 "java/lang/String" "COMPACT_STRINGS" "Z" ∈ am_good := am_wi 3 182 rfl rfl
theorem pf_9 : Cond.fieldLink "java/lang/String" 9 "java/lang/String" "value" "[B" ∈ am_good := am_wi 8 75 rfl rfl
theorem pf_15 : Cond.fieldLink "java/lang/String" 15 "java/lang/String" "coder" "B" ∈ am_good := am_wi 8 76 rfl rfl
theorem pf_1053 : Cond.fieldLink "java/lang/String" 1053 "jdk/internal/util/Preconditions" "SIOOBE_FORMATTER" "Ljava/util/function/BiFunction;" ∈ am_good := am_wi 3 198 rfl rfl
theorem pl_335 : Cond.methodLink "java/lang/String" 335 ⟨"java/lang/String", "coder", "()B"⟩ ∈ am_good := am_wi 3 178 rfl rfl
theorem pl_492 : Cond.methodLink "java/lang/String" 492 ⟨"java/lang/String", "isLatin1", "()Z"⟩ ∈ am_good := am_wi 3 188 rfl rfl
theorem pl_495 : Cond.methodLink "java/lang/String" 495 ⟨"java/lang/StringLatin1", "charAt", "([BI)C"⟩ ∈ am_good := am_wi 3 192 rfl rfl
theorem pl_9 : Cond.methodLink "java/lang/StringLatin1" 9 ⟨"java/lang/String", "checkIndex", "(II)V"⟩ ∈ am_good := am_wi 3 195 rfl rfl
theorem pl_1059 : Cond.methodLink "java/lang/String" 1059 ⟨"jdk/internal/util/Preconditions", "checkIndex", "(IILjava/util/function/BiFunction;)I"⟩ ∈ am_good := am_wi 3 200 rfl rfl
theorem ps_pchk : Cond.static ⟨"jdk/internal/util/Preconditions", "checkIndex", "(IILjava/util/function/BiFunction;)I"⟩ ∈ am_good := am_wi 3 201 rfl rfl
theorem ps_schk : Cond.static ⟨"java/lang/String", "checkIndex", "(II)V"⟩ ∈ am_good := am_wi 3 196 rfl rfl
theorem ps_lchar : Cond.static ⟨"java/lang/StringLatin1", "charAt", "([BI)C"⟩ ∈ am_good := am_wi 3 193 rfl rfl
theorem pv_coder : Cond.instanceMethod ⟨"java/lang/String", "coder", "()B"⟩ ∈ am_good := am_wi 3 179 rfl rfl
theorem pz_coder : Cond.selects "java/lang/String" ⟨"java/lang/String", "coder", "()B"⟩ ⟨"java/lang/String", "coder", "()B"⟩ ∈ am_good := am_wi 3 180 rfl rfl
theorem pv_isLatin1 : Cond.instanceMethod ⟨"java/lang/String", "isLatin1", "()Z"⟩ ∈ am_good := am_wi 3 189 rfl rfl
theorem pz_isLatin1 : Cond.selects "java/lang/String" ⟨"java/lang/String", "isLatin1", "()Z"⟩ ⟨"java/lang/String", "isLatin1", "()Z"⟩ ∈ am_good := am_wi 3 190 rfl rfl
theorem pi_ST : Cond.initialized "java/lang/String" ∈ am_good := am_wi 1 16 rfl rfl
theorem pi_L1 : Cond.initialized "java/lang/StringLatin1" ∈ am_good := am_wi 1 17 rfl rfl
theorem pi_PR : Cond.initialized "jdk/internal/util/Preconditions" ∈ am_good := am_wi 1 18 rfl rfl
theorem pp_coder : pM_coder.1.cls ≠ "java/lang/invoke/MethodHandle" ∧ pM_coder.1.cls ≠ "java/lang/invoke/VarHandle" ∧ (parseMethodDescriptor pM_coder.1.desc).map (fun d => d.parameters.length) = some 0 := by decide +kernel
theorem pp_isLatin1 : pM_isLatin1.1.cls ≠ "java/lang/invoke/MethodHandle" ∧ pM_isLatin1.1.cls ≠ "java/lang/invoke/VarHandle" ∧ (parseMethodDescriptor pM_isLatin1.1.desc).map (fun d => d.parameters.length) = some 0 := by decide +kernel
theorem pp_pchk : pM_pchk.1.cls ≠ "java/lang/invoke/MethodHandle" ∧ pM_pchk.1.cls ≠ "java/lang/invoke/VarHandle" ∧ (parseMethodDescriptor pM_pchk.1.desc).map (fun d => d.parameters.length) = some 3 := by decide +kernel
theorem pp_schk : pM_schk.1.cls ≠ "java/lang/invoke/MethodHandle" ∧ pM_schk.1.cls ≠ "java/lang/invoke/VarHandle" ∧ (parseMethodDescriptor pM_schk.1.desc).map (fun d => d.parameters.length) = some 2 := by decide +kernel
theorem pp_lchar : pM_lchar.1.cls ≠ "java/lang/invoke/MethodHandle" ∧ pM_lchar.1.cls ≠ "java/lang/invoke/VarHandle" ∧ (parseMethodDescriptor pM_lchar.1.desc).map (fun d => d.parameters.length) = some 2 := by decide +kernel
theorem pd_coder_0 : decode prog_16_method_152_code 0 = .ok (.getstatic 38, 3) := by decide +kernel
theorem pd_coder_3 : decode prog_16_method_152_code 3 = .ok (.ifCond .eq 10, 3) := by decide +kernel
theorem pd_coder_6 : decode prog_16_method_152_code 6 = .ok (.aload_n 0, 1) := by decide +kernel
theorem pd_coder_7 : decode prog_16_method_152_code 7 = .ok (.getfield 15, 3) := by decide +kernel
theorem pd_coder_10 : decode prog_16_method_152_code 10 = .ok (.goto 4, 3) := by decide +kernel
theorem pd_coder_14 : decode prog_16_method_152_code 14 = .ok (.ireturn, 1) := by decide +kernel
theorem pd_isLatin1_0 : decode prog_16_method_154_code 0 = .ok (.getstatic 38, 3) := by decide +kernel
theorem pd_isLatin1_3 : decode prog_16_method_154_code 3 = .ok (.ifCond .eq 14, 3) := by decide +kernel
theorem pd_isLatin1_6 : decode prog_16_method_154_code 6 = .ok (.aload_n 0, 1) := by decide +kernel
theorem pd_isLatin1_7 : decode prog_16_method_154_code 7 = .ok (.getfield 15, 3) := by decide +kernel
theorem pd_isLatin1_10 : decode prog_16_method_154_code 10 = .ok (.ifCond .ne 7, 3) := by decide +kernel
theorem pd_isLatin1_13 : decode prog_16_method_154_code 13 = .ok (.iconst 1, 1) := by decide +kernel
theorem pd_isLatin1_14 : decode prog_16_method_154_code 14 = .ok (.goto 4, 3) := by decide +kernel
theorem pd_isLatin1_18 : decode prog_16_method_154_code 18 = .ok (.ireturn, 1) := by decide +kernel
theorem pd_pchk_0 : decode prog_21_method_11_code 0 = .ok (.iload_n 0, 1) := by decide +kernel
theorem pd_pchk_1 : decode prog_21_method_11_code 1 = .ok (.ifCond .lt 8, 3) := by decide +kernel
theorem pd_pchk_4 : decode prog_21_method_11_code 4 = .ok (.iload_n 0, 1) := by decide +kernel
theorem pd_pchk_5 : decode prog_21_method_11_code 5 = .ok (.iload_n 1, 1) := by decide +kernel
theorem pd_pchk_6 : decode prog_21_method_11_code 6 = .ok (.if_icmp .lt 10, 3) := by decide +kernel
theorem pd_pchk_16 : decode prog_21_method_11_code 16 = .ok (.iload_n 0, 1) := by decide +kernel
theorem pd_pchk_17 : decode prog_21_method_11_code 17 = .ok (.ireturn, 1) := by decide +kernel
theorem pd_schk_0 : decode prog_16_method_155_code 0 = .ok (.iload_n 0, 1) := by decide +kernel
theorem pd_schk_1 : decode prog_16_method_155_code 1 = .ok (.iload_n 1, 1) := by decide +kernel
theorem pd_schk_2 : decode prog_16_method_155_code 2 = .ok (.getstatic 1053, 3) := by decide +kernel
theorem pd_schk_5 : decode prog_16_method_155_code 5 = .ok (.invokestatic 1059, 3) := by decide +kernel
theorem pd_schk_8 : decode prog_16_method_155_code 8 = .ok (.pop, 1) := by decide +kernel
theorem pd_schk_9 : decode prog_16_method_155_code 9 = .ok (.return_, 1) := by decide +kernel
theorem pd_lchar_0 : decode prog_17_method_2_code 0 = .ok (.iload_n 1, 1) := by decide +kernel
theorem pd_lchar_1 : decode prog_17_method_2_code 1 = .ok (.aload_n 0, 1) := by decide +kernel
theorem pd_lchar_2 : decode prog_17_method_2_code 2 = .ok (.arraylength, 1) := by decide +kernel
theorem pd_lchar_3 : decode prog_17_method_2_code 3 = .ok (.invokestatic 9, 3) := by decide +kernel
theorem pd_lchar_6 : decode prog_17_method_2_code 6 = .ok (.aload_n 0, 1) := by decide +kernel
theorem pd_lchar_7 : decode prog_17_method_2_code 7 = .ok (.iload_n 1, 1) := by decide +kernel
theorem pd_lchar_8 : decode prog_17_method_2_code 8 = .ok (.baload, 1) := by decide +kernel
theorem pd_lchar_9 : decode prog_17_method_2_code 9 = .ok (.sipush 255, 3) := by decide +kernel
theorem pd_lchar_12 : decode prog_17_method_2_code 12 = .ok (.iand, 1) := by decide +kernel
theorem pd_lchar_13 : decode prog_17_method_2_code 13 = .ok (.i2c, 1) := by decide +kernel
theorem pd_lchar_14 : decode prog_17_method_2_code 14 = .ok (.ireturn, 1) := by decide +kernel
theorem pd_length_0 : decode prog_16_method_54_code 0 = .ok (.aload_n 0, 1) := by decide +kernel
theorem pd_length_1 : decode prog_16_method_54_code 1 = .ok (.getfield 9, 3) := by decide +kernel
theorem pd_length_4 : decode prog_16_method_54_code 4 = .ok (.arraylength, 1) := by decide +kernel
theorem pd_length_5 : decode prog_16_method_54_code 5 = .ok (.aload_n 0, 1) := by decide +kernel
theorem pd_length_6 : decode prog_16_method_54_code 6 = .ok (.invokevirtual 335, 3) := by decide +kernel
theorem pd_length_9 : decode prog_16_method_54_code 9 = .ok (.ishr, 1) := by decide +kernel
theorem pd_length_10 : decode prog_16_method_54_code 10 = .ok (.ireturn, 1) := by decide +kernel
theorem pd_charAt_0 : decode prog_16_method_56_code 0 = .ok (.aload_n 0, 1) := by decide +kernel
theorem pd_charAt_1 : decode prog_16_method_56_code 1 = .ok (.invokevirtual 492, 3) := by decide +kernel
theorem pd_charAt_4 : decode prog_16_method_56_code 4 = .ok (.ifCond .eq 12, 3) := by decide +kernel
theorem pd_charAt_7 : decode prog_16_method_56_code 7 = .ok (.aload_n 0, 1) := by decide +kernel
theorem pd_charAt_8 : decode prog_16_method_56_code 8 = .ok (.getfield 9, 3) := by decide +kernel
theorem pd_charAt_11 : decode prog_16_method_56_code 11 = .ok (.iload_n 1, 1) := by decide +kernel
theorem pd_charAt_12 : decode prog_16_method_56_code 12 = .ok (.invokestatic 495, 3) := by decide +kernel
theorem pd_charAt_15 : decode prog_16_method_56_code 15 = .ok (.ireturn, 1) := by decide +kernel
theorem pr_coder {i : Nat} (hi : i < 17) : pr_Met l base b sn xs D cs S sh g d pM_coder [.ref (S i)] (some (.int 0)) := by
  refine pr_met (by decide +kernel) (Nat.le_refl _) ?_
  intro p e s m below meth c ls hx hb hr hml hown hlocks hts hF hP hz hl
  have hS : va_S (am_AA base) s.heap s.heap [] := va_S.rf
  refine va_gets hx hb hF.2.2.2.2.2.2.2.1 hS hown (hts _ pf_38) (fun _ h => h) pd_coder_0 ?_
  refine lv_if_eq hx hb pd_coder_3 rfl (fun h => absurd h (by decide)) (fun _ => ?_)
  refine lv_aload_n hx hb pd_coder_6 rfl (lv_at hl 0 rfl) ?_
  refine vk_getf hx hb (hF.2.2.2.2.2.2.2.2.2.1 i hi).2.1 hS hown (hts _ pf_15) (fun _ h => h) pd_coder_7 ?_
  refine lv_goto hx hb pd_coder_10 rfl ?_
  exact W.zret (v := 0) (ty := .byte) hx hb hr rfl (pr_fin hP hz hS) hS.2.2 pd_coder_14 hlocks
theorem pr_isLatin1 {i : Nat} (hi : i < 17) : pr_Met l base b sn xs D cs S sh g d pM_isLatin1 [.ref (S i)] (some (.int 1)) := by
  refine pr_met (by decide +kernel) (Nat.le_refl _) ?_
  intro p e s m below meth c ls hx hb hr hml hown hlocks hts hF hP hz hl
  have hS : va_S (am_AA base) s.heap s.heap [] := va_S.rf
  refine va_gets hx hb hF.2.2.2.2.2.2.2.1 hS hown (hts _ pf_38) (fun _ h => h) pd_isLatin1_0 ?_
  refine lv_if_eq hx hb pd_isLatin1_3 rfl (fun h => absurd h (by decide)) (fun _ => ?_)
  refine lv_aload_n hx hb pd_isLatin1_6 rfl (lv_at hl 0 rfl) ?_
  refine vk_getf hx hb (hF.2.2.2.2.2.2.2.2.2.1 i hi).2.1 hS hown (hts _ pf_15) (fun _ h => h) pd_isLatin1_7 ?_
  refine lv_if_ne hx hb pd_isLatin1_10 rfl (fun h => absurd rfl h) (fun _ => ?_)
  refine lv_iconst (v := 1) hx hb pd_isLatin1_13 rfl ?_
  refine lv_goto hx hb pd_isLatin1_14 rfl ?_
  exact W.zret (v := 1) (ty := .boolean) hx hb hr rfl (pr_fin hP hz hS) hS.2.2 pd_isLatin1_18 hlocks
theorem pr_pchk {x n : Int32} {fv : Value} (hv : fv.category = 1) (h0 : ¬ x < 0) (h1 : x < n) : pr_Met l base b sn xs D cs S sh g d pM_pchk [.int x, .int n, fv] (some (.int x)) := by
  refine pr_met (by decide +kernel) (by show (lg_sl [.int x, .int n, fv]).length ≤ 3; cases fv <;> first | exact Nat.le_refl _ | exact absurd hv (show ¬ (2 : Nat) = 1 by omega)) ?_
  intro p e s m below meth c ls hx hb hr hml hown hlocks hts hF hP hz hl
  have hS : va_S (am_AA base) s.heap s.heap [] := va_S.rf
  refine lv_iload_n hx hb pd_pchk_0 rfl (lv_at hl 0 rfl) ?_
  refine lv_if_lt hx hb pd_pchk_1 rfl (fun h => absurd h h0) (fun _ => ?_)
  refine lv_iload_n hx hb pd_pchk_4 rfl (lv_at hl 0 rfl) ?_
  refine lv_iload_n hx hb pd_pchk_5 rfl (lv_at hl 1 rfl) ?_
  refine lv_icmp_lt hx hb pd_pchk_6 rfl (fun _ => ?_) (fun h => absurd h1 h)
  refine lv_iload_n hx hb pd_pchk_16 rfl (lv_at hl 0 rfl) ?_
  exact W.iret hx hb hr (pr_fin hP hz hS) hS.2.2 pd_pchk_17 hlocks
theorem pr_schk {x n : Int32} (hd : 2 ≤ d) (h0 : ¬ x < 0) (h1 : x < n) : pr_Met l base b sn xs D cs S sh g d pM_schk [.int x, .int n] none := by
  refine pr_met (by decide +kernel) (Nat.le_refl _) ?_
  intro p e s m below meth c ls hx hb hr hml hown hlocks hts hF hP hz hl
  have hS : va_S (am_AA base) s.heap s.heap [] := va_S.rf
  refine lv_iload_n hx hb pd_schk_0 rfl (lv_at hl 0 rfl) ?_
  refine lv_iload_n hx hb pd_schk_1 rfl (lv_at hl 1 rfl) ?_
  have key : ∀ fv : Value, fv.category = 1 → va_Z "jdk/internal/util/Preconditions" "SIOOBE_FORMATTER" "Ljava/util/function/BiFunction;" fv (am_AA base) s s.heap → W p l e (am_rm d 0 0) s m [Value.int x, .int n].toArray below meth c s.heap [] 0 0 (MQ below (pr_Qc base D cs sh g none) [Value.int x, .int n].toArray s 0 0 (am_AA base)) (F0 m 2 ls [.int n, .int x]) := by
    intro fv hv hZ
    refine va_gets hx hb hZ hS hown (hts _ pf_1053) (fun _ h => h) pd_schk_2 ?_
    refine pr_callS (vs := [.int x, .int n, fv]) (rest := []) (d := 1) hx hb hml hown hts hF (pr_pchk hv h0 h1) pw_pchk pp_pchk pi_PR (by decide) pl_1059 ps_pchk (by show 1 + 1 ≤ d; omega) (by show 64 * (1 + 1) ≤ 64 * d; omega) (by decide) pd_schk_5 hP hz hS (Nat.le_refl _) (Nat.le_refl _) (fun H1 locs1 hP1 hz1 hS1 => ?_)
    refine lv_pop hx hb pd_schk_8 rfl ?_
    exact W.vret hx hb hr (pr_fin hP1 hz1 hS1) hS1.2.2 pd_schk_9 hlocks
  rcases hF.2.2.2.2.2.2.2.2.1 with hZ | ⟨t, hZ⟩
  · exact key _ rfl hZ
  · exact key _ rfl hZ
theorem pr_ofNat {i : Nat} (hi : i < 17) : Int32.ofNat (am_slen.getD i 0) >>> (0 &&& 31) = Int32.ofInt ((am_slen.getD i 0 : Nat) : Int) := by
  have h : ∀ i : Fin 17, Int32.ofNat (am_slen.getD i.val 0) >>> (0 &&& 31) = Int32.ofInt ((am_slen.getD i.val 0 : Nat) : Int) := by decide +kernel
  exact h ⟨i, hi⟩
theorem pr_lt {i : Nat} {z : Int} (hi : i < 17) (h : w32 z < ((am_slen.getD i 0 : Nat) : Int)) : Int32.ofInt z < Int32.ofNat (am_slen.getD i 0) := by
  have e : ∀ i : Fin 17, (Int32.ofNat (am_slen.getD i.val 0)).toInt = ((am_slen.getD i.val 0 : Nat) : Int) := by decide +kernel
  rw [Int32.lt_iff_toInt_lt, w32_toInt, e ⟨i, hi⟩]
  exact h
theorem pr_len5 {i j : Nat} (hi : i < 17) (h : j < am_slen.getD i 0) : j < 5 := by
  have e : ∀ i : Fin 17, am_slen.getD i.val 0 ≤ 5 := by decide +kernel
  exact Nat.lt_of_lt_of_le h (e ⟨i, hi⟩)
theorem pq_chr {i j : Nat} (hi : i < 17) (hj : j < 5) : ((((am_sb32.getD i []).getD j 0 &&& 255).toUInt32 % 65536).toInt32 = Int32.ofInt (((am_sbyt.getD i []).getD j 0 : Nat) : Int)) ∧ (Int32.ofInt (((am_sbyt.getD i []).getD j 0 : Nat) : Int)).toUInt32.toUInt16.toUInt32.toInt32 = Int32.ofInt (((am_sbyt.getD i []).getD j 0 : Nat) : Int) := by
  have e : ∀ (i : Fin 17) (j : Fin 5), ((((am_sb32.getD i.val []).getD j.val 0 &&& 255).toUInt32 % 65536).toInt32 = Int32.ofInt (((am_sbyt.getD i.val []).getD j.val 0 : Nat) : Int)) ∧ (Int32.ofInt (((am_sbyt.getD i.val []).getD j.val 0 : Nat) : Int)).toUInt32.toUInt16.toUInt32.toInt32 = Int32.ofInt (((am_sbyt.getD i.val []).getD j.val 0 : Nat) : Int) := by decide +kernel
  exact e ⟨i, hi⟩ ⟨j, hj⟩
theorem pr_nar {i j : Nat} (hi : i < 17) (hj : j < 5) : narrow .char (.int (Int32.ofInt (((am_sbyt.getD i []).getD j 0 : Nat) : Int))) = .int (Int32.ofInt (((am_sbyt.getD i []).getD j 0 : Nat) : Int)) := congrArg Value.int (pq_chr hi hj).2
theorem pr_lchar {i : Nat} {z : Int} (hd : 3 ≤ d) (hi : i < 17) (h0 : 0 ≤ w32 z) (h1 : w32 z < ((am_slen.getD i 0 : Nat) : Int)) : pr_Met l base b sn xs D cs S sh g d pM_lchar [.ref (S (i + 100)), .int (Int32.ofInt z)] (some (.int (Int32.ofInt (((am_sbyt.getD i []).getD (w32 z).toNat 0 : Nat) : Int)))) := by
  have hj : (w32 z).toNat < am_slen.getD i 0 := by omega
  have hj5 := pr_len5 hi hj
  have hin : vp_in (Int32.ofInt z) (am_slen.getD i 0) := by
    intro q
    rcases q with q | q
    · exact am_nonneg h0 q
    · rw [am_clamp] at q; omega
  refine pr_met (by decide +kernel) (Nat.le_refl _) ?_
  intro p e s m below meth c ls hx hb hr hml hown hlocks hts hF hP hz hl
  have hS : va_S (am_AA base) s.heap s.heap [] := va_S.rf
  refine lv_iload_n hx hb pd_lchar_0 rfl (lv_at hl 1 rfl) ?_
  refine lv_aload_n hx hb pd_lchar_1 rfl (lv_at hl 0 rfl) ?_
  refine va_tlen hx hb (hF.2.2.2.2.2.2.2.2.2.1 i hi).2.2.2 hS rfl pd_lchar_2 ?_
  refine pr_callS (vs := [.int (Int32.ofInt z), .int (Int32.ofNat (am_slen.getD i 0))]) (rest := []) (d := 2) hx hb hml hown hts hF (pr_schk (Nat.le_refl _) (am_nonneg h0) (pr_lt hi h1)) pw_schk pp_schk pi_ST (by decide) pl_9 ps_schk (by show 2 + 1 ≤ d; omega) (by show 64 * (2 + 1) ≤ 64 * d; omega) (by decide) pd_lchar_3 hP hz hS (Nat.le_refl _) (Nat.le_refl _) (fun H1 locs1 hP1 hz1 hS1 => ?_)
  refine lv_aload_n hx hb pd_lchar_6 rfl (lv_at hl 0 rfl) ?_
  refine lv_iload_n hx hb pd_lchar_7 rfl (lv_at hl 1 rfl) ?_
  refine va_tb hx hb (hF.2.2.2.2.2.2.2.2.2.1 i hi).2.2.2 hS1 hin rfl pd_lchar_8 ?_
  rw [am_clamp]
  refine lv_sipush (v := 255) hx hb pd_lchar_9 rfl ?_
  refine lv_iand hx hb pd_lchar_12 ?_
  refine lv_i2c hx hb pd_lchar_13 (pq_chr hi hj5).1 ?_
  exact W.zret (ty := .char) hx hb hr (pr_nar hi hj5) (pr_fin hP1 hz1 hS1) hS1.2.2 pd_lchar_14 hlocks
theorem pr_charAt {i : Nat} {z : Int} (hd : 4 ≤ d) (hi : i < 17) (h0 : 0 ≤ w32 z) (h1 : w32 z < ((am_slen.getD i 0 : Nat) : Int)) : pr_Met l base b sn xs D cs S sh g d am_Mc [.ref (S i), .int (Int32.ofInt z)] (some (.int (Int32.ofInt (((am_sbyt.getD i []).getD (w32 z).toNat 0 : Nat) : Int)))) := by
  have hj : (w32 z).toNat < am_slen.getD i 0 := by omega
  have hj5 := pr_len5 hi hj
  refine pr_met (by decide +kernel) (Nat.le_refl _) ?_
  intro p e s m below meth c ls hx hb hr hml hown hlocks hts hF hP hz hl
  have hS : va_S (am_AA base) s.heap s.heap [] := va_S.rf
  refine lv_aload_n hx hb pd_charAt_0 rfl (lv_at hl 0 rfl) ?_
  refine pr_callV hi (vs := []) (rest := []) (d := 1) hx hb hml hown hts hF (pr_isLatin1 hi) pw_isLatin1 pp_isLatin1 rfl pi_ST (by decide) pl_492 pv_isLatin1 pz_isLatin1 (by show 1 + 1 ≤ d; omega) (by show 64 * (1 + 1) ≤ 64 * d; omega) (by decide) pd_charAt_1 hP hz hS (Nat.le_refl _) (Nat.le_refl _) (fun H1 locs1 hP1 hz1 hS1 => ?_)
  refine lv_if_eq hx hb pd_charAt_4 rfl (fun h => absurd h (by decide)) (fun _ => ?_)
  refine lv_aload_n hx hb pd_charAt_7 rfl (lv_at hl 0 rfl) ?_
  refine vk_getf hx hb (hF.2.2.2.2.2.2.2.2.2.1 i hi).2.2.1 hS1 hown (hts _ pf_9) (fun _ h => h) pd_charAt_8 ?_
  refine lv_iload_n hx hb pd_charAt_11 rfl (lv_at hl 1 rfl) ?_
  refine pr_callS (vs := [.ref (S (i + 100)), .int (Int32.ofInt z)]) (rest := []) (d := 3) hx hb hml hown hts hF (pr_lchar (Nat.le_refl _) hi h0 h1) pw_lchar pp_lchar pi_L1 (by decide) pl_495 ps_lchar (by show 3 + 1 ≤ d; omega) (by show 64 * (3 + 1) ≤ 64 * d; omega) (by decide) pd_charAt_12 hP1 hz1 hS1 (Nat.le_refl _) (Nat.le_refl _) (fun H2 locs2 hP2 hz2 hS2 => ?_)
  exact W.zret (ty := .char) hx hb hr (pr_nar hi hj5) (pr_fin hP2 hz2 hS2) hS2.2.2 pd_charAt_15 hlocks
theorem pr_length {i : Nat} (hd : 2 ≤ d) (hi : i < 17) : pr_Met l base b sn xs D cs S sh g d am_Ml [.ref (S i)] (some (.int (Int32.ofInt ((am_slen.getD i 0 : Nat) : Int)))) := by
  refine pr_met (by decide +kernel) (Nat.le_refl _) ?_
  intro p e s m below meth c ls hx hb hr hml hown hlocks hts hF hP hz hl
  have hS : va_S (am_AA base) s.heap s.heap [] := va_S.rf
  refine lv_aload_n hx hb pd_length_0 rfl (lv_at hl 0 rfl) ?_
  refine vk_getf hx hb (hF.2.2.2.2.2.2.2.2.2.1 i hi).2.2.1 hS hown (hts _ pf_9) (fun _ h => h) pd_length_1 ?_
  refine va_tlen hx hb (hF.2.2.2.2.2.2.2.2.2.1 i hi).2.2.2 hS rfl pd_length_4 ?_
  refine lv_aload_n hx hb pd_length_5 rfl (lv_at hl 0 rfl) ?_
  refine pr_callV hi (vs := []) (rest := [.int (Int32.ofNat (am_slen.getD i 0))]) (d := 1) hx hb hml hown hts hF (pr_coder hi) pw_coder pp_coder rfl pi_ST (by decide) pl_335 pv_coder pz_coder (by show 1 + 1 ≤ d; omega) (by show 64 * (1 + 1) ≤ 64 * d; omega) (by show 1 + 0 ≤ 8; decide) pd_length_6 hP hz hS (Nat.le_refl _) (Nat.le_refl _) (fun H1 locs1 hP1 hz1 hS1 => ?_)
  refine lv_ishr hx hb pd_length_9 ?_
  rw [pr_ofNat hi]
  exact W.iret hx hb hr (pr_fin hP1 hz1 hS1) hS1.2.2 pd_length_10 hlocks
end PRI
theorem am_prims {l : Launch} {base b sn : Nat} {xs : Nat → Int32} {D : va_G} {cs : am_C4} {S : Nat → Nat} : am_PrimOK l base b sn xs D cs S am_mi := by
  intro d mid as sh g r M h1 h6 hM hr
  unfold am_prim at hr
  by_cases e2 : mid = 1002
  · subst e2
    rw [if_pos rfl] at hr
    obtain rfl : am_Ml = M := Option.some.inj hM
    refine ⟨pw_Ml, ?_⟩
    split at hr
    case h_2 => cases hr
    rename_i v
    obtain ⟨k, z⟩ := v
    split at hr
    case isFalse => cases hr
    rename_i hc
    obtain ⟨hk, hi⟩ := hc
    simp only at hk hi
    subst hk
    cases hr
    show Met l am_Ml.1 (am_wd am_Ml) (am_rm (d + 1) (sh.length - sh.length) (am_tot sh - am_tot sh)) _ _ (sh.length - sh.length) (am_tot sh - am_tot sh) _
    rw [Nat.sub_self, Nat.sub_self]
    exact pr_length (d := d + 1) (by omega) hi
  · rw [if_neg e2] at hr
    by_cases e3 : mid = 1003
    · subst e3
      rw [if_pos rfl] at hr
      obtain rfl : am_Mc = M := Option.some.inj hM
      refine ⟨pw_Mc, ?_⟩
      split at hr
      case h_2 => cases hr
      rename_i v q
      obtain ⟨k, z⟩ := v
      obtain ⟨kq, y⟩ := q
      split at hr
      case isFalse => cases hr
      rename_i hc
      obtain ⟨hk, hi, hq⟩ := hc
      simp only at hk hi hq hr
      subst hk
      subst hq
      obtain ⟨j, hj, hr⟩ := Option.bind_eq_some_iff.mp hr
      unfold am_xs at hj
      split at hj
      case isFalse => cases hj
      rename_i hw
      cases hj
      cases hr
      show Met l am_Mc.1 (am_wd am_Mc) (am_rm (d + 1) (sh.length - sh.length) (am_tot sh - am_tot sh)) _ _ (sh.length - sh.length) (am_tot sh - am_tot sh) _
      rw [Nat.sub_self, Nat.sub_self]
      exact pr_charAt (d := d + 1) (by omega) hi hw.1 hw.2
    · rw [if_neg e3] at hr
      cases hr

