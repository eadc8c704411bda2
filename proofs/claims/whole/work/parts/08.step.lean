/-! THE ABSTRACT MACHINE, whole methods -/
section AMS
variable {p : Program} {l : Launch} {e : Env} {R : Room} {s : State} {m : MethodId} {args : Array Value} {below : List Frame} {meth : Method} {c : Code} {H : Heap} {locs : List Loc} {cells slots : Nat} {Q : State → Prop}
variable {cc : ByteArray} {D : va_G} {cs : am_C4} {base b sn : Nat} {xs : Nat → Int32} {S : Nat → Nat} {own nm : String}
variable {n a : Nat} {z : Int} {pc pc' : Nat} {L L' st st' : List am_V} {sh sh' : am_Sh} {g g' : am_G} {ls : Array Slot}
set_option maxHeartbeats 4000000 in
theorem am_step {en : am_E} (hx : p.tables.exec = Jvm.exec) (hb : c.code = cc) (hown : s.vm.findClass own = some m.cls) (hts : ∀ w ∈ am_good, w.before args s = true) (hnm : meth.name = nm) (hK : va_K D vwCl (am_tys cs) s) (hX : va_X b sn xs s s.heap) (hbb : b < base) (hbs : base ≤ s.heap.size) (hSR : am_SR S s) (h : am_stp sn (fun j => (xs j).toInt) en pc L st sh g = some (pc', L', st', sh', g')) (hdg : decode cc pc = .ok (en.1, en.2.1)) (hok : am_okI own nm pc en) (hl : am_LR base b S ls L) (hP : va_P D vwCl (am_ws base cs sh g) H) (hS : va_S (am_AA base) s.heap H locs) (kk : ∀ (H1 : Heap) (locs1 : List Loc) (ls1 : Array Slot), va_P D vwCl (am_ws base cs sh' g') H1 → H1.size = H.size → va_S (am_AA base) s.heap H1 locs1 → am_LR base b S ls1 L' → W p l e R s m args below meth c H1 locs1 cells slots Q (F0 m pc' ls1 (st'.map (am_cv base b S)))) : W p l e R s m args below meth c H locs cells slots Q (F0 m pc ls (st.map (am_cv base b S))) := by
  obtain ⟨I, n, a, z⟩ := en
  cases I
  case iconst k => exact am_t_iconst hx hb hown hts hnm hK hX hbb hbs hSR h hdg hok hl hP hS kk
  case bipush k => exact am_t_bipush hx hb hown hts hnm hK hX hbb hbs hSR h hdg hok hl hP hS kk
  case sipush k => exact am_t_sipush hx hb hown hts hnm hK hX hbb hbs hSR h hdg hok hl hP hS kk
  case lconst k => exact am_t_lconst hx hb hown hts hnm hK hX hbb hbs hSR h hdg hok hl hP hS kk
  case ldc k => exact am_t_ldc hx hb hown hts hnm hK hX hbb hbs hSR h hdg hok hl hP hS kk
  case ldc_w k => exact am_t_ldc_w hx hb hown hts hnm hK hX hbb hbs hSR h hdg hok hl hP hS kk
  case ldc2_w k => exact am_t_ldc2_w hx hb hown hts hnm hK hX hbb hbs hSR h hdg hok hl hP hS kk
  case iload_n k => exact am_t_iload_n hx hb hown hts hnm hK hX hbb hbs hSR h hdg hok hl hP hS kk
  case iload k => exact am_t_iload hx hb hown hts hnm hK hX hbb hbs hSR h hdg hok hl hP hS kk
  case lload_n k => exact am_t_lload_n hx hb hown hts hnm hK hX hbb hbs hSR h hdg hok hl hP hS kk
  case lload k => exact am_t_lload hx hb hown hts hnm hK hX hbb hbs hSR h hdg hok hl hP hS kk
  case aload_n k => exact am_t_aload_n hx hb hown hts hnm hK hX hbb hbs hSR h hdg hok hl hP hS kk
  case aload k => exact am_t_aload hx hb hown hts hnm hK hX hbb hbs hSR h hdg hok hl hP hS kk
  case istore_n k => exact am_t_istore_n hx hb hown hts hnm hK hX hbb hbs hSR h hdg hok hl hP hS kk
  case istore k => exact am_t_istore hx hb hown hts hnm hK hX hbb hbs hSR h hdg hok hl hP hS kk
  case lstore_n k => exact am_t_lstore_n hx hb hown hts hnm hK hX hbb hbs hSR h hdg hok hl hP hS kk
  case lstore k => exact am_t_lstore hx hb hown hts hnm hK hX hbb hbs hSR h hdg hok hl hP hS kk
  case astore_n k => exact am_t_astore_n hx hb hown hts hnm hK hX hbb hbs hSR h hdg hok hl hP hS kk
  case astore k => exact am_t_astore hx hb hown hts hnm hK hX hbb hbs hSR h hdg hok hl hP hS kk
  case iinc k d => exact am_t_iinc hx hb hown hts hnm hK hX hbb hbs hSR h hdg hok hl hP hS kk
  case iadd => exact am_t_iadd hx hb hown hts hnm hK hX hbb hbs hSR h hdg hok hl hP hS kk
  case isub => exact am_t_isub hx hb hown hts hnm hK hX hbb hbs hSR h hdg hok hl hP hS kk
  case imul => exact am_t_imul hx hb hown hts hnm hK hX hbb hbs hSR h hdg hok hl hP hS kk
  case ineg => exact am_t_ineg hx hb hown hts hnm hK hX hbb hbs hSR h hdg hok hl hP hS kk
  case iand => exact am_t_iand hx hb hown hts hnm hK hX hbb hbs hSR h hdg hok hl hP hS kk
  case ior => exact am_t_ior hx hb hown hts hnm hK hX hbb hbs hSR h hdg hok hl hP hS kk
  case ixor => exact am_t_ixor hx hb hown hts hnm hK hX hbb hbs hSR h hdg hok hl hP hS kk
  case ishl => exact am_t_ishl hx hb hown hts hnm hK hX hbb hbs hSR h hdg hok hl hP hS kk
  case ishr => exact am_t_ishr hx hb hown hts hnm hK hX hbb hbs hSR h hdg hok hl hP hS kk
  case iushr => exact am_t_iushr hx hb hown hts hnm hK hX hbb hbs hSR h hdg hok hl hP hS kk
  case ladd => exact am_t_ladd hx hb hown hts hnm hK hX hbb hbs hSR h hdg hok hl hP hS kk
  case lsub => exact am_t_lsub hx hb hown hts hnm hK hX hbb hbs hSR h hdg hok hl hP hS kk
  case lmul => exact am_t_lmul hx hb hown hts hnm hK hX hbb hbs hSR h hdg hok hl hP hS kk
  case lneg => exact am_t_lneg hx hb hown hts hnm hK hX hbb hbs hSR h hdg hok hl hP hS kk
  case land => exact am_t_land hx hb hown hts hnm hK hX hbb hbs hSR h hdg hok hl hP hS kk
  case lor => exact am_t_lor hx hb hown hts hnm hK hX hbb hbs hSR h hdg hok hl hP hS kk
  case lshl => exact am_t_lshl hx hb hown hts hnm hK hX hbb hbs hSR h hdg hok hl hP hS kk
  case lshr => exact am_t_lshr hx hb hown hts hnm hK hX hbb hbs hSR h hdg hok hl hP hS kk
  case lushr => exact am_t_lushr hx hb hown hts hnm hK hX hbb hbs hSR h hdg hok hl hP hS kk
  case idiv => exact am_t_idiv hx hb hown hts hnm hK hX hbb hbs hSR h hdg hok hl hP hS kk
  case irem => exact am_t_irem hx hb hown hts hnm hK hX hbb hbs hSR h hdg hok hl hP hS kk
  case ldiv => exact am_t_ldiv hx hb hown hts hnm hK hX hbb hbs hSR h hdg hok hl hP hS kk
  case lrem => exact am_t_lrem hx hb hown hts hnm hK hX hbb hbs hSR h hdg hok hl hP hS kk
  case lcmp => exact am_t_lcmp hx hb hown hts hnm hK hX hbb hbs hSR h hdg hok hl hP hS kk
  case i2l => exact am_t_i2l hx hb hown hts hnm hK hX hbb hbs hSR h hdg hok hl hP hS kk
  case l2i => exact am_t_l2i hx hb hown hts hnm hK hX hbb hbs hSR h hdg hok hl hP hS kk
  case dup => exact am_t_dup hx hb hown hts hnm hK hX hbb hbs hSR h hdg hok hl hP hS kk
  case pop => exact am_t_pop hx hb hown hts hnm hK hX hbb hbs hSR h hdg hok hl hP hS kk
  case dup2 => exact am_t_dup2 hx hb hown hts hnm hK hX hbb hbs hSR h hdg hok hl hP hS kk
  case goto k => exact am_t_goto hx hb hown hts hnm hK hX hbb hbs hSR h hdg hok hl hP hS kk
  case ifCond k d => exact am_t_ifCond hx hb hown hts hnm hK hX hbb hbs hSR h hdg hok hl hP hS kk
  case if_icmp k d => exact am_t_if_icmp hx hb hown hts hnm hK hX hbb hbs hSR h hdg hok hl hP hS kk
  case tableswitch d lo hi offs => exact am_t_tableswitch hx hb hown hts hnm hK hX hbb hbs hSR h hdg hok hl hP hS kk
  case arraylength => exact am_t_arraylength hx hb hown hts hnm hK hX hbb hbs hSR h hdg hok hl hP hS kk
  case iaload => exact am_t_iaload hx hb hown hts hnm hK hX hbb hbs hSR h hdg hok hl hP hS kk
  case laload => exact am_t_laload hx hb hown hts hnm hK hX hbb hbs hSR h hdg hok hl hP hS kk
  case baload => exact am_t_baload hx hb hown hts hnm hK hX hbb hbs hSR h hdg hok hl hP hS kk
  case aaload => exact am_t_aaload hx hb hown hts hnm hK hX hbb hbs hSR h hdg hok hl hP hS kk
  case iastore => exact am_t_iastore hx hb hown hts hnm hK hX hbb hbs hSR h hdg hok hl hP hS kk
  case lastore => exact am_t_lastore hx hb hown hts hnm hK hX hbb hbs hSR h hdg hok hl hP hS kk
  case bastore => exact am_t_bastore hx hb hown hts hnm hK hX hbb hbs hSR h hdg hok hl hP hS kk
  case aastore => exact am_t_aastore hx hb hown hts hnm hK hX hbb hbs hSR h hdg hok hl hP hS kk
  case getfield k => exact am_t_getfield hx hb hown hts hnm hK hX hbb hbs hSR h hdg hok hl hP hS kk
  case putfield k => exact am_t_putfield hx hb hown hts hnm hK hX hbb hbs hSR h hdg hok hl hP hS kk
  all_goals (simp [am_stp] at h)
theorem am_set_len {k : Nat} {o o' : Nat × Nat × List Nat} (h : sh[k]? = some o) (h2 : o'.2.1 = o.2.1) : (sh.set k o').length = sh.length ∧ ((sh.set k o').map fun o => o.2.1) = sh.map fun o => o.2.1 := by
  refine ⟨List.length_set, List.ext_getElem? fun i => ?_⟩
  rw [List.getElem?_map, List.getElem?_map, List.getElem?_set]
  by_cases hi : k = i
  · subst hi
    rw [if_pos rfl, if_pos (am_lt h), h]
    simp [h2]
  · rw [if_neg hi]
theorem am_set_len2 {k : Int} {kd : Nat} {o : Nat × List Nat} {rs : List Nat} (h : am_arr sh k kd = some o) : (sh.set k.toNat (kd, o.1, rs)).length = sh.length ∧ ((sh.set k.toNat (kd, o.1, rs)).map fun o => o.2.1) = sh.map fun o => o.2.1 := am_set_len (am_arr_i h) rfl
set_option maxHeartbeats 8000000 in
theorem am_stp_len {en : am_E} {sx : Nat → Int} (h : am_stp sn sx en pc L st sh g = some (pc', L', st', sh', g')) : sh'.length = sh.length ∧ (sh'.map fun o => o.2.1) = sh.map fun o => o.2.1 := by
  obtain ⟨I, n, a, z⟩ := en
  cases I <;> simp only [am_stp, am_nx, Option.bind_eq_some_iff, Option.some.injEq, Prod.mk.injEq, reduceCtorEq] at h
  all_goals repeat' (first | contradiction | (obtain ⟨_, _, h⟩ := h) | (obtain ⟨_, h⟩ := h) | split at h)
  all_goals (try simp only [Option.bind_eq_some_iff, Option.some.injEq, Prod.mk.injEq, reduceCtorEq] at h)
  all_goals repeat' (first | contradiction | (obtain ⟨_, _, h⟩ := h) | (obtain ⟨_, h⟩ := h) | split at h)
  all_goals (try simp only [Option.bind_eq_some_iff, Option.some.injEq, Prod.mk.injEq, reduceCtorEq] at h)
  all_goals repeat' (first | contradiction | (obtain ⟨_, _, h⟩ := h) | (obtain ⟨_, h⟩ := h) | split at h)
  all_goals subst_vars
  all_goals (first | exact ⟨rfl, rfl⟩ | exact am_set_len2 (by assumption))
end AMS
