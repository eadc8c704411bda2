/-! the tables of instructions hold: what they link stands in the words -/
def am_on (k : Nat) : String := (["LeaningWheel$Ball", "LeaningWheel$Big", "LeaningWheel$Book", "LeaningWheel$Chances", "LeaningWheel$Machine", "LeaningWheel$Planner", "LeaningWheel$Player", "LeaningWheel$Reader", "LeaningWheel$Texts", "LeaningWheel$Wheels", "LeaningWheel$Where", "LeaningWheel", "LeaningWheelModel", "LeaningWheelLaw", "java/lang/Math", "java/util/Arrays"] : List String).getD k ""
def am_seg (k : Nat) : List Cond := if k = 0 then k2_sels lw_privs else if k = 1 then tables_1_1 else if k = 2 then tables_1_2 else if k = 3 then tables_1_3 else if k = 4 then tables_1_4 else if k = 5 then tables_1_5 else if k = 6 then tables_1_6 else if k = 7 then tables_1_7 else tables_1_8
theorem am_seg_in {k : Nat} {w : Cond} (h : w ∈ am_seg k) : w ∈ lw_tbl := by
  unfold lw_tbl tables_1
  simp only [List.mem_append]
  unfold am_seg at h
  repeat' split at h
  all_goals simp only [h, true_or, or_true]
theorem am_wi (k i : Nat) {w : Cond} (h : (am_seg k)[i]? = some w) (g : goodWord w = true) : w ∈ am_good := am_gin (am_seg_in (List.mem_of_getElem? h)) g
theorem ac_0 : "LeaningWheel" ≠ "java/lang/invoke/MethodHandle" ∧ "LeaningWheel" ≠ "java/lang/invoke/VarHandle" := by decide +kernel
theorem ai_0 : Cond.initialized "LeaningWheel" ∈ am_good := am_wi 1 1 rfl rfl
theorem ac_1 : "LeaningWheel$Ball" ≠ "java/lang/invoke/MethodHandle" ∧ "LeaningWheel$Ball" ≠ "java/lang/invoke/VarHandle" := by decide +kernel
theorem ai_1 : Cond.initialized "LeaningWheel$Ball" ∈ am_good := am_wi 1 9 rfl rfl
theorem ac_2 : "LeaningWheel$Big" ≠ "java/lang/invoke/MethodHandle" ∧ "LeaningWheel$Big" ≠ "java/lang/invoke/VarHandle" := by decide +kernel
theorem ai_2 : Cond.initialized "LeaningWheel$Big" ∈ am_good := am_wi 1 12 rfl rfl
theorem ac_3 : "LeaningWheel$Book" ≠ "java/lang/invoke/MethodHandle" ∧ "LeaningWheel$Book" ≠ "java/lang/invoke/VarHandle" := by decide +kernel
theorem ai_3 : Cond.initialized "LeaningWheel$Book" ∈ am_good := am_wi 1 6 rfl rfl
theorem ac_4 : "LeaningWheel$Chances" ≠ "java/lang/invoke/MethodHandle" ∧ "LeaningWheel$Chances" ≠ "java/lang/invoke/VarHandle" := by decide +kernel
theorem ai_4 : Cond.initialized "LeaningWheel$Chances" ∈ am_good := am_wi 1 13 rfl rfl
theorem ac_5 : "LeaningWheel$Machine" ≠ "java/lang/invoke/MethodHandle" ∧ "LeaningWheel$Machine" ≠ "java/lang/invoke/VarHandle" := by decide +kernel
theorem ai_5 : Cond.initialized "LeaningWheel$Machine" ∈ am_good := am_wi 1 8 rfl rfl
theorem ac_6 : "LeaningWheel$Planner" ≠ "java/lang/invoke/MethodHandle" ∧ "LeaningWheel$Planner" ≠ "java/lang/invoke/VarHandle" := by decide +kernel
theorem ai_6 : Cond.initialized "LeaningWheel$Planner" ∈ am_good := am_wi 1 14 rfl rfl
theorem ac_7 : "LeaningWheel$Player" ≠ "java/lang/invoke/MethodHandle" ∧ "LeaningWheel$Player" ≠ "java/lang/invoke/VarHandle" := by decide +kernel
theorem ai_7 : Cond.initialized "LeaningWheel$Player" ∈ am_good := am_wi 1 10 rfl rfl
theorem ac_8 : "LeaningWheel$Reader" ≠ "java/lang/invoke/MethodHandle" ∧ "LeaningWheel$Reader" ≠ "java/lang/invoke/VarHandle" := by decide +kernel
theorem ai_8 : Cond.initialized "LeaningWheel$Reader" ∈ am_good := am_wi 1 7 rfl rfl
theorem ac_9 : "LeaningWheel$Texts" ≠ "java/lang/invoke/MethodHandle" ∧ "LeaningWheel$Texts" ≠ "java/lang/invoke/VarHandle" := by decide +kernel
theorem ai_9 : Cond.initialized "LeaningWheel$Texts" ∈ am_good := am_wi 1 5 rfl rfl
theorem ac_10 : "LeaningWheel$Wheels" ≠ "java/lang/invoke/MethodHandle" ∧ "LeaningWheel$Wheels" ≠ "java/lang/invoke/VarHandle" := by decide +kernel
theorem ai_10 : Cond.initialized "LeaningWheel$Wheels" ∈ am_good := am_wi 1 3 rfl rfl
theorem ac_11 : "LeaningWheel$Where" ≠ "java/lang/invoke/MethodHandle" ∧ "LeaningWheel$Where" ≠ "java/lang/invoke/VarHandle" := by decide +kernel
theorem ai_11 : Cond.initialized "LeaningWheel$Where" ∈ am_good := am_wi 1 11 rfl rfl
theorem ac_12 : "LeaningWheelLaw" ≠ "java/lang/invoke/MethodHandle" ∧ "LeaningWheelLaw" ≠ "java/lang/invoke/VarHandle" := by decide +kernel
theorem ai_12 : Cond.initialized "LeaningWheelLaw" ∈ am_good := am_wi 1 0 rfl rfl
theorem ac_13 : "LeaningWheelModel" ≠ "java/lang/invoke/MethodHandle" ∧ "LeaningWheelModel" ≠ "java/lang/invoke/VarHandle" := by decide +kernel
theorem ai_13 : Cond.initialized "LeaningWheelModel" ∈ am_good := am_wi 1 15 rfl rfl
theorem ac_14 : "java/lang/Math" ≠ "java/lang/invoke/MethodHandle" ∧ "java/lang/Math" ≠ "java/lang/invoke/VarHandle" := by decide +kernel
theorem ai_14 : Cond.initialized "java/lang/Math" ∈ am_good := am_wi 1 2 rfl rfl
theorem ac_15 : "java/lang/String" ≠ "java/lang/invoke/MethodHandle" ∧ "java/lang/String" ≠ "java/lang/invoke/VarHandle" := by decide +kernel
theorem ai_15 : Cond.initialized "java/lang/String" ∈ am_good := am_wi 1 16 rfl rfl
theorem ac_16 : "java/lang/System" ≠ "java/lang/invoke/MethodHandle" ∧ "java/lang/System" ≠ "java/lang/invoke/VarHandle" := by decide +kernel
theorem ai_16 : Cond.initialized "java/lang/System" ∈ am_good := am_wi 1 20 rfl rfl
theorem ac_17 : "java/util/Arrays" ≠ "java/lang/invoke/MethodHandle" ∧ "java/util/Arrays" ≠ "java/lang/invoke/VarHandle" := by decide +kernel
theorem ai_17 : Cond.initialized "java/util/Arrays" ∈ am_good := am_wi 1 4 rfl rfl
theorem ad_0 : (parseMethodDescriptor "()I").map (fun d => d.parameters.length) = some 0 := by decide +kernel
theorem ad_1 : (parseMethodDescriptor "()V").map (fun d => d.parameters.length) = some 0 := by decide +kernel
theorem ad_2 : (parseMethodDescriptor "()Z").map (fun d => d.parameters.length) = some 0 := by decide +kernel
theorem ad_3 : (parseMethodDescriptor "(I)C").map (fun d => d.parameters.length) = some 1 := by decide +kernel
theorem ad_4 : (parseMethodDescriptor "(I)I").map (fun d => d.parameters.length) = some 1 := by decide +kernel
theorem ad_5 : (parseMethodDescriptor "(I)Ljava/lang/String;").map (fun d => d.parameters.length) = some 1 := by decide +kernel
theorem ad_6 : (parseMethodDescriptor "(I)V").map (fun d => d.parameters.length) = some 1 := by decide +kernel
theorem ad_7 : (parseMethodDescriptor "(I)Z").map (fun d => d.parameters.length) = some 1 := by decide +kernel
theorem ad_8 : (parseMethodDescriptor "(II)I").map (fun d => d.parameters.length) = some 2 := by decide +kernel
theorem ad_9 : (parseMethodDescriptor "(II)V").map (fun d => d.parameters.length) = some 2 := by decide +kernel
theorem ad_10 : (parseMethodDescriptor "(II)Z").map (fun d => d.parameters.length) = some 2 := by decide +kernel
theorem ad_11 : (parseMethodDescriptor "(III)I").map (fun d => d.parameters.length) = some 3 := by decide +kernel
theorem ad_12 : (parseMethodDescriptor "(III)J").map (fun d => d.parameters.length) = some 3 := by decide +kernel
theorem ad_13 : (parseMethodDescriptor "(III)V").map (fun d => d.parameters.length) = some 3 := by decide +kernel
theorem ad_14 : (parseMethodDescriptor "(III)Z").map (fun d => d.parameters.length) = some 3 := by decide +kernel
theorem ad_15 : (parseMethodDescriptor "(IIII)I").map (fun d => d.parameters.length) = some 4 := by decide +kernel
theorem ad_16 : (parseMethodDescriptor "(IIII)J").map (fun d => d.parameters.length) = some 4 := by decide +kernel
theorem ad_17 : (parseMethodDescriptor "(IIII)V").map (fun d => d.parameters.length) = some 4 := by decide +kernel
theorem ad_18 : (parseMethodDescriptor "(IIII)Z").map (fun d => d.parameters.length) = some 4 := by decide +kernel
theorem ad_19 : (parseMethodDescriptor "(IIIII)I").map (fun d => d.parameters.length) = some 5 := by decide +kernel
theorem ad_20 : (parseMethodDescriptor "(IIIII)J").map (fun d => d.parameters.length) = some 5 := by decide +kernel
theorem ad_21 : (parseMethodDescriptor "(IIIII)V").map (fun d => d.parameters.length) = some 5 := by decide +kernel
theorem ad_22 : (parseMethodDescriptor "(IIIII)Z").map (fun d => d.parameters.length) = some 5 := by decide +kernel
theorem ad_23 : (parseMethodDescriptor "(IIIIII)I").map (fun d => d.parameters.length) = some 6 := by decide +kernel
theorem ad_24 : (parseMethodDescriptor "(IIIIII)Z").map (fun d => d.parameters.length) = some 6 := by decide +kernel
theorem ad_25 : (parseMethodDescriptor "(IIIZ)I").map (fun d => d.parameters.length) = some 4 := by decide +kernel
theorem ad_26 : (parseMethodDescriptor "(IJJ)J").map (fun d => d.parameters.length) = some 3 := by decide +kernel
theorem ad_27 : (parseMethodDescriptor "(ILLeaningWheel$Texts;LLeaningWheel$Machine;)V").map (fun d => d.parameters.length) = some 3 := by decide +kernel
theorem ad_28 : (parseMethodDescriptor "(IZ)V").map (fun d => d.parameters.length) = some 2 := by decide +kernel
theorem ad_29 : (parseMethodDescriptor "(I[I)I").map (fun d => d.parameters.length) = some 2 := by decide +kernel
theorem ad_30 : (parseMethodDescriptor "(J)I").map (fun d => d.parameters.length) = some 1 := by decide +kernel
theorem ad_31 : (parseMethodDescriptor "(J)J").map (fun d => d.parameters.length) = some 1 := by decide +kernel
theorem ad_32 : (parseMethodDescriptor "(J)Z").map (fun d => d.parameters.length) = some 1 := by decide +kernel
theorem ad_33 : (parseMethodDescriptor "(JJ)J").map (fun d => d.parameters.length) = some 2 := by decide +kernel
theorem ad_34 : (parseMethodDescriptor "(LLeaningWheel$Big;)V").map (fun d => d.parameters.length) = some 1 := by decide +kernel
theorem ad_35 : (parseMethodDescriptor "(LLeaningWheel$Big;)Z").map (fun d => d.parameters.length) = some 1 := by decide +kernel
theorem ad_36 : (parseMethodDescriptor "(LLeaningWheel$Big;II)V").map (fun d => d.parameters.length) = some 3 := by decide +kernel
theorem ad_37 : (parseMethodDescriptor "(LLeaningWheel$Big;ILLeaningWheel$Big;)I").map (fun d => d.parameters.length) = some 3 := by decide +kernel
theorem ad_38 : (parseMethodDescriptor "(LLeaningWheel$Big;LLeaningWheel$Big;)V").map (fun d => d.parameters.length) = some 2 := by decide +kernel
theorem ad_39 : (parseMethodDescriptor "(LLeaningWheel$Big;LLeaningWheel$Big;I)V").map (fun d => d.parameters.length) = some 3 := by decide +kernel
theorem ad_40 : (parseMethodDescriptor "(LLeaningWheel$Book;)V").map (fun d => d.parameters.length) = some 1 := by decide +kernel
theorem ad_41 : (parseMethodDescriptor "(LLeaningWheel$Book;III)V").map (fun d => d.parameters.length) = some 4 := by decide +kernel
theorem ad_42 : (parseMethodDescriptor "(LLeaningWheel$Book;IIII)V").map (fun d => d.parameters.length) = some 5 := by decide +kernel
theorem ad_43 : (parseMethodDescriptor "(LLeaningWheel$Texts;)V").map (fun d => d.parameters.length) = some 1 := by decide +kernel
theorem ad_44 : (parseMethodDescriptor "(LLeaningWheel$Texts;)Z").map (fun d => d.parameters.length) = some 1 := by decide +kernel
theorem ad_45 : (parseMethodDescriptor "(LLeaningWheel$Texts;III)I").map (fun d => d.parameters.length) = some 4 := by decide +kernel
theorem ad_46 : (parseMethodDescriptor "(LLeaningWheel$Wheels;)V").map (fun d => d.parameters.length) = some 1 := by decide +kernel
theorem ad_47 : (parseMethodDescriptor "(LLeaningWheel$Wheels;LLeaningWheel$Book;)V").map (fun d => d.parameters.length) = some 2 := by decide +kernel
theorem ad_48 : (parseMethodDescriptor "(LLeaningWheel$Wheels;LLeaningWheel$Texts;LLeaningWheel$Machine;)V").map (fun d => d.parameters.length) = some 3 := by decide +kernel
theorem ad_49 : (parseMethodDescriptor "([I)I").map (fun d => d.parameters.length) = some 1 := by decide +kernel
theorem ad_50 : (parseMethodDescriptor "([II)I").map (fun d => d.parameters.length) = some 2 := by decide +kernel
theorem ad_51 : (parseMethodDescriptor "([II)V").map (fun d => d.parameters.length) = some 2 := by decide +kernel
theorem ad_52 : (parseMethodDescriptor "([I[I)V").map (fun d => d.parameters.length) = some 2 := by decide +kernel
def am_mP (kd n : Nat) (M : am_M) : Prop := plainFor M.1 = true ∧ Cond.code M.1 M.2.1 M.2.2.1 M.2.2.2.1 ∈ am_good ∧ (M.1.cls ≠ "java/lang/invoke/MethodHandle" ∧ M.1.cls ≠ "java/lang/invoke/VarHandle" ∧ (parseMethodDescriptor M.1.desc).map (fun d => d.parameters.length) = some n) ∧ Cond.initialized M.1.cls ∈ am_good ∧ M.2.2.1 ≤ 40 ∧ match kd with
  | 0 => Cond.static M.1 ∈ am_good
  | 1 => Cond.instanceMethod M.1 ∈ am_good ∧ Cond.selects M.1.cls M.1 M.1 ∈ am_good ∧ ((M.2.2.2.2 = 99 ∧ M.1.cls = "java/lang/String") ∨ ∃ q, vwCl[M.2.2.2.2]? = some q ∧ q.1 = M.1.cls)
  | _ => Cond.instanceMethod M.1 ∈ am_good ∧ M.1.name = "<init>" ∧ M.2.2.2.1 = none
theorem am_m_0 : am_mP 2 3 (⟨"LeaningWheel$Ball", "<init>", "(LLeaningWheel$Wheels;LLeaningWheel$Texts;LLeaningWheel$Machine;)V"⟩, prog_2_method_1_code, 4, none, 0) := ⟨by decide +kernel, am_wi 2 18 rfl rfl, ⟨ac_1.1, ac_1.2, ad_48⟩, ai_1, by decide, am_wi 2 17 rfl rfl, rfl, rfl⟩
theorem am_m_1 : am_mP 1 5 (⟨"LeaningWheel$Ball", "roll", "(IIIII)V"⟩, prog_2_method_2_code, 11, none, 0) := ⟨by decide +kernel, am_wi 4 53 rfl rfl, ⟨ac_1.1, ac_1.2, ad_21⟩, ai_1, by decide, am_wi 4 51 rfl rfl, am_wi 4 52 rfl rfl, Or.inr ⟨_, rfl, rfl⟩⟩
theorem am_m_2 : am_mP 1 3 (⟨"LeaningWheel$Ball", "see", "(III)V"⟩, prog_2_method_3_code, 4, none, 0) := ⟨by decide +kernel, am_wi 4 57 rfl rfl, ⟨ac_1.1, ac_1.2, ad_13⟩, ai_1, by decide, am_wi 4 56 rfl rfl, am_wi 0 15 rfl rfl, Or.inr ⟨_, rfl, rfl⟩⟩
theorem am_m_3 : am_mP 1 1 (⟨"LeaningWheel$Ball", "skip", "(I)V"⟩, prog_2_method_4_code, 9, none, 0) := ⟨by decide +kernel, am_wi 4 99 rfl rfl, ⟨ac_1.1, ac_1.2, ad_6⟩, ai_1, by decide, am_wi 4 98 rfl rfl, am_wi 0 18 rfl rfl, Or.inr ⟨_, rfl, rfl⟩⟩
theorem am_m_4 : am_mP 2 0 (⟨"LeaningWheel$Big", "<init>", "()V"⟩, prog_3_method_1_code, 1, none, 1) := ⟨by decide +kernel, am_wi 2 108 rfl rfl, ⟨ac_2.1, ac_2.2, ad_1⟩, ai_2, by decide, am_wi 2 107 rfl rfl, rfl, rfl⟩
theorem am_m_5 : am_mP 1 1 (⟨"LeaningWheel$Big", "set", "(I)V"⟩, prog_3_method_2_code, 2, none, 1) := ⟨by decide +kernel, am_wi 4 185 rfl rfl, ⟨ac_2.1, ac_2.2, ad_6⟩, ai_2, by decide, am_wi 4 183 rfl rfl, am_wi 4 184 rfl rfl, Or.inr ⟨_, rfl, rfl⟩⟩
theorem am_m_6 : am_mP 1 1 (⟨"LeaningWheel$Big", "set", "(LLeaningWheel$Big;)V"⟩, prog_3_method_3_code, 2, none, 1) := ⟨by decide +kernel, am_wi 4 227 rfl rfl, ⟨ac_2.1, ac_2.2, ad_34⟩, ai_2, by decide, am_wi 4 225 rfl rfl, am_wi 4 226 rfl rfl, Or.inr ⟨_, rfl, rfl⟩⟩
theorem am_m_7 : am_mP 1 1 (⟨"LeaningWheel$Big", "times", "(I)V"⟩, prog_3_method_4_code, 7, none, 1) := ⟨by decide +kernel, am_wi 4 194 rfl rfl, ⟨ac_2.1, ac_2.2, ad_6⟩, ai_2, by decide, am_wi 4 192 rfl rfl, am_wi 4 193 rfl rfl, Or.inr ⟨_, rfl, rfl⟩⟩
theorem am_m_8 : am_mP 1 2 (⟨"LeaningWheel$Big", "times", "(LLeaningWheel$Big;LLeaningWheel$Big;)V"⟩, prog_3_method_5_code, 12, none, 1) := ⟨by decide +kernel, am_wi 5 0 rfl rfl, ⟨ac_2.1, ac_2.2, ad_38⟩, ai_2, by decide, am_wi 4 238 rfl rfl, am_wi 4 239 rfl rfl, Or.inr ⟨_, rfl, rfl⟩⟩
theorem am_m_9 : am_mP 1 1 (⟨"LeaningWheel$Big", "over", "(I)V"⟩, prog_3_method_6_code, 7, none, 1) := ⟨by decide +kernel, am_wi 5 57 rfl rfl, ⟨ac_2.1, ac_2.2, ad_6⟩, ai_2, by decide, am_wi 5 55 rfl rfl, am_wi 5 56 rfl rfl, Or.inr ⟨_, rfl, rfl⟩⟩
theorem am_m_10 : am_mP 1 1 (⟨"LeaningWheel$Big", "plus", "(LLeaningWheel$Big;)V"⟩, prog_3_method_7_code, 7, none, 1) := ⟨by decide +kernel, am_wi 4 215 rfl rfl, ⟨ac_2.1, ac_2.2, ad_34⟩, ai_2, by decide, am_wi 4 213 rfl rfl, am_wi 4 214 rfl rfl, Or.inr ⟨_, rfl, rfl⟩⟩
theorem am_m_11 : am_mP 1 1 (⟨"LeaningWheel$Big", "minus", "(LLeaningWheel$Big;)V"⟩, prog_3_method_8_code, 7, none, 1) := ⟨by decide +kernel, am_wi 5 155 rfl rfl, ⟨ac_2.1, ac_2.2, ad_34⟩, ai_2, by decide, am_wi 5 153 rfl rfl, am_wi 5 154 rfl rfl, Or.inr ⟨_, rfl, rfl⟩⟩
theorem am_m_12 : am_mP 1 1 (⟨"LeaningWheel$Big", "reaches", "(LLeaningWheel$Big;)Z"⟩, prog_3_method_9_code, 3, some .boolean, 1) := ⟨by decide +kernel, am_wi 4 223 rfl rfl, ⟨ac_2.1, ac_2.2, ad_35⟩, ai_2, by decide, am_wi 4 221 rfl rfl, am_wi 4 222 rfl rfl, Or.inr ⟨_, rfl, rfl⟩⟩
theorem am_m_13 : am_mP 1 3 (⟨"LeaningWheel$Big", "share", "(LLeaningWheel$Big;ILLeaningWheel$Big;)I"⟩, prog_3_method_10_code, 6, some .int, 1) := ⟨by decide +kernel, am_wi 5 5 rfl rfl, ⟨ac_2.1, ac_2.2, ad_37⟩, ai_2, by decide, am_wi 5 3 rfl rfl, am_wi 5 4 rfl rfl, Or.inr ⟨_, rfl, rfl⟩⟩
theorem am_m_14 : am_mP 1 1 (⟨"LeaningWheel$Big", "grow", "(I)V"⟩, prog_3_method_11_code, 2, none, 1) := ⟨by decide +kernel, am_wi 4 219 rfl rfl, ⟨ac_2.1, ac_2.2, ad_6⟩, ai_2, by decide, am_wi 4 218 rfl rfl, am_wi 0 31 rfl rfl, Or.inr ⟨_, rfl, rfl⟩⟩
theorem am_m_15 : am_mP 1 1 (⟨"LeaningWheel$Big", "push", "(I)V"⟩, prog_3_method_12_code, 2, none, 1) := ⟨by decide +kernel, am_wi 4 199 rfl rfl, ⟨ac_2.1, ac_2.2, ad_6⟩, ai_2, by decide, am_wi 4 198 rfl rfl, am_wi 0 27 rfl rfl, Or.inr ⟨_, rfl, rfl⟩⟩
theorem am_m_16 : am_mP 1 0 (⟨"LeaningWheel$Big", "trim", "()V"⟩, prog_3_method_13_code, 1, none, 1) := ⟨by decide +kernel, am_wi 4 203 rfl rfl, ⟨ac_2.1, ac_2.2, ad_1⟩, ai_2, by decide, am_wi 4 202 rfl rfl, am_wi 0 28 rfl rfl, Or.inr ⟨_, rfl, rfl⟩⟩
theorem am_m_17 : am_mP 2 0 (⟨"LeaningWheel$Book", "<init>", "()V"⟩, prog_4_method_1_code, 1, none, 2) := ⟨by decide +kernel, am_wi 1 107 rfl rfl, ⟨ac_3.1, ac_3.2, ad_1⟩, ai_3, by decide, am_wi 1 106 rfl rfl, rfl, rfl⟩
theorem am_m_18 : am_mP 1 1 (⟨"LeaningWheel$Book", "take", "(LLeaningWheel$Book;)V"⟩, prog_4_method_2_code, 2, none, 2) := ⟨by decide +kernel, am_wi 6 17 rfl rfl, ⟨ac_3.1, ac_3.2, ad_40⟩, ai_3, by decide, am_wi 6 15 rfl rfl, am_wi 6 16 rfl rfl, Or.inr ⟨_, rfl, rfl⟩⟩
theorem am_m_19 : am_mP 1 2 (⟨"LeaningWheel$Book", "startAt", "(II)I"⟩, prog_4_method_3_code, 3, some .int, 2) := ⟨by decide +kernel, am_wi 4 126 rfl rfl, ⟨ac_3.1, ac_3.2, ad_8⟩, ai_3, by decide, am_wi 4 124 rfl rfl, am_wi 4 125 rfl rfl, Or.inr ⟨_, rfl, rfl⟩⟩
theorem am_m_20 : am_mP 1 1 (⟨"LeaningWheel$Book", "writtenIn", "(I)I"⟩, prog_4_method_4_code, 4, some .int, 2) := ⟨by decide +kernel, am_wi 4 145 rfl rfl, ⟨ac_3.1, ac_3.2, ad_4⟩, ai_3, by decide, am_wi 4 143 rfl rfl, am_wi 4 144 rfl rfl, Or.inr ⟨_, rfl, rfl⟩⟩
theorem am_m_21 : am_mP 1 3 (⟨"LeaningWheel$Book", "fellAt", "(III)Z"⟩, prog_4_method_5_code, 4, some .boolean, 2) := ⟨by decide +kernel, am_wi 4 165 rfl rfl, ⟨ac_3.1, ac_3.2, ad_14⟩, ai_3, by decide, am_wi 4 163 rfl rfl, am_wi 4 164 rfl rfl, Or.inr ⟨_, rfl, rfl⟩⟩
theorem am_m_22 : am_mP 1 2 (⟨"LeaningWheel$Book", "hasBet", "(II)Z"⟩, prog_4_method_6_code, 4, some .boolean, 2) := ⟨by decide +kernel, am_wi 5 193 rfl rfl, ⟨ac_3.1, ac_3.2, ad_10⟩, ai_3, by decide, am_wi 5 191 rfl rfl, am_wi 5 192 rfl rfl, Or.inr ⟨_, rfl, rfl⟩⟩
theorem am_m_23 : am_mP 1 1 (⟨"LeaningWheel$Book", "betsOf", "(I)I"⟩, prog_4_method_7_code, 4, some .int, 2) := ⟨by decide +kernel, am_wi 5 201 rfl rfl, ⟨ac_3.1, ac_3.2, ad_4⟩, ai_3, by decide, am_wi 5 199 rfl rfl, am_wi 5 200 rfl rfl, Or.inr ⟨_, rfl, rfl⟩⟩
theorem am_m_24 : am_mP 1 1 (⟨"LeaningWheel$Book", "betsWon", "(I)I"⟩, prog_4_method_8_code, 4, some .int, 2) := ⟨by decide +kernel, am_wi 5 205 rfl rfl, ⟨ac_3.1, ac_3.2, ad_4⟩, ai_3, by decide, am_wi 5 203 rfl rfl, am_wi 5 204 rfl rfl, Or.inr ⟨_, rfl, rfl⟩⟩
theorem am_m_25 : am_mP 2 1 (⟨"LeaningWheel$Chances", "<init>", "(I)V"⟩, prog_5_method_1_code, 2, none, 3) := ⟨by decide +kernel, am_wi 2 167 rfl rfl, ⟨ac_4.1, ac_4.2, ad_6⟩, ai_4, by decide, am_wi 2 166 rfl rfl, rfl, rfl⟩
theorem am_m_26 : am_mP 1 1 (⟨"LeaningWheel$Chances", "sets", "(I)I"⟩, prog_5_method_2_code, 5, some .int, 3) := ⟨by decide +kernel, am_wi 5 42 rfl rfl, ⟨ac_4.1, ac_4.2, ad_4⟩, ai_4, by decide, am_wi 5 40 rfl rfl, am_wi 5 41 rfl rfl, Or.inr ⟨_, rfl, rfl⟩⟩
theorem am_m_27 : am_mP 1 4 (⟨"LeaningWheel$Chances", "even", "(IIII)I"⟩, prog_5_method_3_code, 5, some .int, 3) := ⟨by decide +kernel, am_wi 5 46 rfl rfl, ⟨ac_4.1, ac_4.2, ad_15⟩, ai_4, by decide, am_wi 5 44 rfl rfl, am_wi 5 45 rfl rfl, Or.inr ⟨_, rfl, rfl⟩⟩
theorem am_m_28 : am_mP 1 3 (⟨"LeaningWheel$Chances", "least", "(III)I"⟩, prog_5_method_4_code, 7, some .int, 3) := ⟨by decide +kernel, am_wi 5 82 rfl rfl, ⟨ac_4.1, ac_4.2, ad_11⟩, ai_4, by decide, am_wi 5 80 rfl rfl, am_wi 5 81 rfl rfl, Or.inr ⟨_, rfl, rfl⟩⟩
theorem am_m_29 : am_mP 1 4 (⟨"LeaningWheel$Chances", "isLikely", "(IIII)Z"⟩, prog_5_method_5_code, 5, some .boolean, 3) := ⟨by decide +kernel, am_wi 5 86 rfl rfl, ⟨ac_4.1, ac_4.2, ad_18⟩, ai_4, by decide, am_wi 5 85 rfl rfl, am_wi 0 38 rfl rfl, Or.inr ⟨_, rfl, rfl⟩⟩
theorem am_m_30 : am_mP 1 3 (⟨"LeaningWheel$Chances", "seek", "(III)V"⟩, prog_5_method_6_code, 6, none, 3) := ⟨by decide +kernel, am_wi 5 95 rfl rfl, ⟨ac_4.1, ac_4.2, ad_13⟩, ai_4, by decide, am_wi 5 93 rfl rfl, am_wi 5 94 rfl rfl, Or.inr ⟨_, rfl, rfl⟩⟩
theorem am_m_31 : am_mP 1 3 (⟨"LeaningWheel$Chances", "isRare", "(III)Z"⟩, prog_5_method_7_code, 4, some .boolean, 3) := ⟨by decide +kernel, am_wi 5 99 rfl rfl, ⟨ac_4.1, ac_4.2, ad_14⟩, ai_4, by decide, am_wi 5 98 rfl rfl, am_wi 0 39 rfl rfl, Or.inr ⟨_, rfl, rfl⟩⟩
theorem am_m_32 : am_mP 1 4 (⟨"LeaningWheel$Chances", "isSure", "(IIII)Z"⟩, prog_5_method_8_code, 5, some .boolean, 3) := ⟨by decide +kernel, am_wi 5 103 rfl rfl, ⟨ac_4.1, ac_4.2, ad_18⟩, ai_4, by decide, am_wi 5 102 rfl rfl, am_wi 0 40 rfl rfl, Or.inr ⟨_, rfl, rfl⟩⟩
theorem am_m_33 : am_mP 1 4 (⟨"LeaningWheel$Chances", "luckyDays", "(IIII)I"⟩, prog_5_method_9_code, 7, some .int, 3) := ⟨by decide +kernel, am_wi 5 151 rfl rfl, ⟨ac_4.1, ac_4.2, ad_15⟩, ai_4, by decide, am_wi 5 149 rfl rfl, am_wi 5 150 rfl rfl, Or.inr ⟨_, rfl, rfl⟩⟩
theorem am_m_34 : am_mP 1 3 (⟨"LeaningWheel$Chances", "multiply", "(LLeaningWheel$Big;LLeaningWheel$Big;I)V"⟩, prog_5_method_10_code, 5, none, 3) := ⟨by decide +kernel, am_wi 5 159 rfl rfl, ⟨ac_4.1, ac_4.2, ad_39⟩, ai_4, by decide, am_wi 5 158 rfl rfl, am_wi 0 46 rfl rfl, Or.inr ⟨_, rfl, rfl⟩⟩
theorem am_m_35 : am_mP 0 3 (⟨"LeaningWheel$Chances", "raise", "(LLeaningWheel$Big;II)V"⟩, prog_5_method_11_code, 4, none, 3) := ⟨by decide +kernel, am_wi 5 60 rfl rfl, ⟨ac_4.1, ac_4.2, ad_36⟩, ai_4, by decide, am_wi 5 59 rfl rfl⟩
theorem am_m_36 : am_mP 1 4 (⟨"LeaningWheel$Chances", "addUp", "(IIII)V"⟩, prog_5_method_12_code, 6, none, 3) := ⟨by decide +kernel, am_wi 5 50 rfl rfl, ⟨ac_4.1, ac_4.2, ad_17⟩, ai_4, by decide, am_wi 5 49 rfl rfl, am_wi 0 37 rfl rfl, Or.inr ⟨_, rfl, rfl⟩⟩
theorem am_m_37 : am_mP 2 0 (⟨"LeaningWheel$Machine", "<init>", "()V"⟩, prog_6_method_1_code, 1, none, 4) := ⟨by decide +kernel, am_wi 2 0 rfl rfl, ⟨ac_5.1, ac_5.2, ad_1⟩, ai_5, by decide, am_wi 1 239 rfl rfl, rfl, rfl⟩
theorem am_m_38 : am_mP 1 4 (⟨"LeaningWheel$Machine", "work", "(LLeaningWheel$Texts;III)I"⟩, prog_6_method_2_code, 7, some .int, 4) := ⟨by decide +kernel, am_wi 4 61 rfl rfl, ⟨ac_5.1, ac_5.2, ad_45⟩, ai_5, by decide, am_wi 4 59 rfl rfl, am_wi 4 60 rfl rfl, Or.inr ⟨_, rfl, rfl⟩⟩
theorem am_m_39 : am_mP 1 1 (⟨"LeaningWheel$Machine", "step", "(I)V"⟩, prog_6_method_3_code, 3, none, 4) := ⟨by decide +kernel, am_wi 4 71 rfl rfl, ⟨ac_5.1, ac_5.2, ad_6⟩, ai_5, by decide, am_wi 4 70 rfl rfl, am_wi 0 16 rfl rfl, Or.inr ⟨_, rfl, rfl⟩⟩
theorem am_m_40 : am_mP 1 1 (⟨"LeaningWheel$Machine", "push", "(I)V"⟩, prog_6_method_4_code, 2, none, 4) := ⟨by decide +kernel, am_wi 4 75 rfl rfl, ⟨ac_5.1, ac_5.2, ad_6⟩, ai_5, by decide, am_wi 4 74 rfl rfl, am_wi 0 17 rfl rfl, Or.inr ⟨_, rfl, rfl⟩⟩
theorem am_m_41 : am_mP 0 3 (⟨"LeaningWheel$Machine", "join", "(III)I"⟩, prog_6_method_5_code, 3, some .int, 4) := ⟨by decide +kernel, am_wi 4 79 rfl rfl, ⟨ac_5.1, ac_5.2, ad_11⟩, ai_5, by decide, am_wi 4 78 rfl rfl⟩
theorem am_m_42 : am_mP 0 1 (⟨"LeaningWheel$Machine", "limited", "(J)I"⟩, prog_6_method_6_code, 2, some .int, 4) := ⟨by decide +kernel, am_wi 4 82 rfl rfl, ⟨ac_5.1, ac_5.2, ad_30⟩, ai_5, by decide, am_wi 4 81 rfl rfl⟩
theorem am_m_43 : am_mP 2 0 (⟨"LeaningWheel$Planner", "<init>", "()V"⟩, prog_7_method_1_code, 1, none, 5) := ⟨by decide +kernel, am_wi 2 211 rfl rfl, ⟨ac_6.1, ac_6.2, ad_1⟩, ai_6, by decide, am_wi 2 210 rfl rfl, rfl, rfl⟩
theorem am_m_44 : am_mP 1 5 (⟨"LeaningWheel$Planner", "reach", "(IIIII)V"⟩, prog_7_method_2_code, 8, none, 5) := ⟨by decide +kernel, am_wi 5 128 rfl rfl, ⟨ac_6.1, ac_6.2, ad_21⟩, ai_6, by decide, am_wi 5 126 rfl rfl, am_wi 5 127 rfl rfl, Or.inr ⟨_, rfl, rfl⟩⟩
theorem am_m_45 : am_mP 1 3 (⟨"LeaningWheel$Planner", "stakeBest", "(III)V"⟩, prog_7_method_3_code, 5, none, 5) := ⟨by decide +kernel, am_wi 5 134 rfl rfl, ⟨ac_6.1, ac_6.2, ad_13⟩, ai_6, by decide, am_wi 5 133 rfl rfl, am_wi 0 44 rfl rfl, Or.inr ⟨_, rfl, rfl⟩⟩
theorem am_m_46 : am_mP 1 4 (⟨"LeaningWheel$Planner", "weighStake", "(IIII)V"⟩, prog_7_method_4_code, 13, none, 5) := ⟨by decide +kernel, am_wi 5 140 rfl rfl, ⟨ac_6.1, ac_6.2, ad_17⟩, ai_6, by decide, am_wi 5 139 rfl rfl, am_wi 0 45 rfl rfl, Or.inr ⟨_, rfl, rfl⟩⟩
theorem am_m_47 : am_mP 1 4 (⟨"LeaningWheel$Planner", "keep", "(IIII)V"⟩, prog_7_method_5_code, 9, none, 5) := ⟨by decide +kernel, am_wi 5 213 rfl rfl, ⟨ac_6.1, ac_6.2, ad_17⟩, ai_6, by decide, am_wi 5 211 rfl rfl, am_wi 5 212 rfl rfl, Or.inr ⟨_, rfl, rfl⟩⟩
theorem am_m_48 : am_mP 0 3 (⟨"LeaningWheel$Planner", "lossAfter", "(III)J"⟩, prog_7_method_6_code, 3, some .long, 5) := ⟨by decide +kernel, am_wi 5 218 rfl rfl, ⟨ac_6.1, ac_6.2, ad_12⟩, ai_6, by decide, am_wi 5 217 rfl rfl⟩
theorem am_m_49 : am_mP 1 1 (⟨"LeaningWheel$Planner", "learn", "(LLeaningWheel$Book;)V"⟩, prog_7_method_7_code, 5, none, 5) := ⟨by decide +kernel, am_wi 5 231 rfl rfl, ⟨ac_6.1, ac_6.2, ad_40⟩, ai_6, by decide, am_wi 5 229 rfl rfl, am_wi 5 230 rfl rfl, Or.inr ⟨_, rfl, rfl⟩⟩
theorem am_m_50 : am_mP 1 4 (⟨"LeaningWheel$Planner", "compare", "(LLeaningWheel$Book;III)V"⟩, prog_7_method_8_code, 7, none, 5) := ⟨by decide +kernel, am_wi 5 236 rfl rfl, ⟨ac_6.1, ac_6.2, ad_41⟩, ai_6, by decide, am_wi 5 235 rfl rfl, am_wi 0 50 rfl rfl, Or.inr ⟨_, rfl, rfl⟩⟩
theorem am_m_51 : am_mP 2 3 (⟨"LeaningWheel$Player", "<init>", "(ILLeaningWheel$Texts;LLeaningWheel$Machine;)V"⟩, prog_8_method_1_code, 4, none, 6) := ⟨by decide +kernel, am_wi 2 54 rfl rfl, ⟨ac_7.1, ac_7.2, ad_27⟩, ai_7, by decide, am_wi 2 53 rfl rfl, rfl, rfl⟩
theorem am_m_52 : am_mP 1 5 (⟨"LeaningWheel$Player", "play", "(LLeaningWheel$Book;IIII)V"⟩, prog_8_method_2_code, 7, none, 6) := ⟨by decide +kernel, am_wi 5 168 rfl rfl, ⟨ac_7.1, ac_7.2, ad_42⟩, ai_7, by decide, am_wi 5 166 rfl rfl, am_wi 5 167 rfl rfl, Or.inr ⟨_, rfl, rfl⟩⟩
theorem am_m_53 : am_mP 1 1 (⟨"LeaningWheel$Player", "stakeOn", "(I)V"⟩, prog_8_method_3_code, 5, none, 6) := ⟨by decide +kernel, am_wi 5 174 rfl rfl, ⟨ac_7.1, ac_7.2, ad_6⟩, ai_7, by decide, am_wi 5 173 rfl rfl, am_wi 0 47 rfl rfl, Or.inr ⟨_, rfl, rfl⟩⟩
theorem am_m_54 : am_mP 1 2 (⟨"LeaningWheel$Player", "settleUp", "(IZ)V"⟩, prog_8_method_4_code, 3, none, 6) := ⟨by decide +kernel, am_wi 5 184 rfl rfl, ⟨ac_7.1, ac_7.2, ad_28⟩, ai_7, by decide, am_wi 5 183 rfl rfl, am_wi 0 49 rfl rfl, Or.inr ⟨_, rfl, rfl⟩⟩
theorem am_m_55 : am_mP 1 0 (⟨"LeaningWheel$Player", "oftenest", "()I"⟩, prog_8_method_5_code, 3, some .int, 6) := ⟨by decide +kernel, am_wi 5 178 rfl rfl, ⟨ac_7.1, ac_7.2, ad_0⟩, ai_7, by decide, am_wi 5 177 rfl rfl, am_wi 0 48 rfl rfl, Or.inr ⟨_, rfl, rfl⟩⟩
theorem am_m_56 : am_mP 2 0 (⟨"LeaningWheel$Reader", "<init>", "()V"⟩, prog_9_method_1_code, 1, none, 7) := ⟨by decide +kernel, am_wi 1 194 rfl rfl, ⟨ac_8.1, ac_8.2, ad_1⟩, ai_8, by decide, am_wi 1 193 rfl rfl, rfl, rfl⟩
theorem am_m_57 : am_mP 1 0 (⟨"LeaningWheel$Reader", "hasRoom", "()Z"⟩, prog_9_method_2_code, 1, some .boolean, 7) := ⟨by decide +kernel, am_wi 3 125 rfl rfl, ⟨ac_8.1, ac_8.2, ad_2⟩, ai_8, by decide, am_wi 3 123 rfl rfl, am_wi 3 124 rfl rfl, Or.inr ⟨_, rfl, rfl⟩⟩
theorem am_m_58 : am_mP 1 1 (⟨"LeaningWheel$Reader", "append", "(I)V"⟩, prog_9_method_3_code, 3, none, 7) := ⟨by decide +kernel, am_wi 3 129 rfl rfl, ⟨ac_8.1, ac_8.2, ad_6⟩, ai_8, by decide, am_wi 3 127 rfl rfl, am_wi 3 128 rfl rfl, Or.inr ⟨_, rfl, rfl⟩⟩
theorem am_m_59 : am_mP 1 1 (⟨"LeaningWheel$Reader", "read", "(LLeaningWheel$Texts;)Z"⟩, prog_9_method_4_code, 3, some .boolean, 7) := ⟨by decide +kernel, am_wi 3 141 rfl rfl, ⟨ac_8.1, ac_8.2, ad_44⟩, ai_8, by decide, am_wi 3 139 rfl rfl, am_wi 3 140 rfl rfl, Or.inr ⟨_, rfl, rfl⟩⟩
theorem am_m_60 : am_mP 1 0 (⟨"LeaningWheel$Reader", "readClause", "()V"⟩, prog_9_method_5_code, 2, none, 7) := ⟨by decide +kernel, am_wi 3 232 rfl rfl, ⟨ac_8.1, ac_8.2, ad_1⟩, ai_8, by decide, am_wi 3 231 rfl rfl, am_wi 0 3 rfl rfl, Or.inr ⟨_, rfl, rfl⟩⟩
theorem am_m_61 : am_mP 1 1 (⟨"LeaningWheel$Reader", "readSum", "(I)V"⟩, prog_9_method_6_code, 4, none, 7) := ⟨by decide +kernel, am_wi 4 0 rfl rfl, ⟨ac_8.1, ac_8.2, ad_6⟩, ai_8, by decide, am_wi 3 239 rfl rfl, am_wi 0 5 rfl rfl, Or.inr ⟨_, rfl, rfl⟩⟩
theorem am_m_62 : am_mP 1 1 (⟨"LeaningWheel$Reader", "readProduct", "(I)V"⟩, prog_9_method_7_code, 4, none, 7) := ⟨by decide +kernel, am_wi 4 4 rfl rfl, ⟨ac_8.1, ac_8.2, ad_6⟩, ai_8, by decide, am_wi 4 3 rfl rfl, am_wi 0 6 rfl rfl, Or.inr ⟨_, rfl, rfl⟩⟩
theorem am_m_63 : am_mP 1 1 (⟨"LeaningWheel$Reader", "readOne", "(I)V"⟩, prog_9_method_8_code, 2, none, 7) := ⟨by decide +kernel, am_wi 4 8 rfl rfl, ⟨ac_8.1, ac_8.2, ad_6⟩, ai_8, by decide, am_wi 4 7 rfl rfl, am_wi 0 7 rfl rfl, Or.inr ⟨_, rfl, rfl⟩⟩
theorem am_m_64 : am_mP 1 0 (⟨"LeaningWheel$Reader", "readNumber", "()V"⟩, prog_9_method_9_code, 1, none, 7) := ⟨by decide +kernel, am_wi 4 12 rfl rfl, ⟨ac_8.1, ac_8.2, ad_1⟩, ai_8, by decide, am_wi 4 11 rfl rfl, am_wi 0 8 rfl rfl, Or.inr ⟨_, rfl, rfl⟩⟩
theorem am_m_65 : am_mP 1 1 (⟨"LeaningWheel$Reader", "readWord", "(I)V"⟩, prog_9_method_10_code, 2, none, 7) := ⟨by decide +kernel, am_wi 4 20 rfl rfl, ⟨ac_8.1, ac_8.2, ad_6⟩, ai_8, by decide, am_wi 4 19 rfl rfl, am_wi 0 10 rfl rfl, Or.inr ⟨_, rfl, rfl⟩⟩
theorem am_m_66 : am_mP 1 2 (⟨"LeaningWheel$Reader", "readPair", "(II)V"⟩, prog_9_method_11_code, 3, none, 7) := ⟨by decide +kernel, am_wi 4 24 rfl rfl, ⟨ac_8.1, ac_8.2, ad_9⟩, ai_8, by decide, am_wi 4 23 rfl rfl, am_wi 0 11 rfl rfl, Or.inr ⟨_, rfl, rfl⟩⟩
theorem am_m_67 : am_mP 1 1 (⟨"LeaningWheel$Reader", "mayOpen", "(I)Z"⟩, prog_9_method_12_code, 2, some .boolean, 7) := ⟨by decide +kernel, am_wi 4 28 rfl rfl, ⟨ac_8.1, ac_8.2, ad_7⟩, ai_8, by decide, am_wi 4 27 rfl rfl, am_wi 0 12 rfl rfl, Or.inr ⟨_, rfl, rfl⟩⟩
theorem am_m_68 : am_mP 1 1 (⟨"LeaningWheel$Reader", "expect", "(I)V"⟩, prog_9_method_13_code, 2, none, 7) := ⟨by decide +kernel, am_wi 4 32 rfl rfl, ⟨ac_8.1, ac_8.2, ad_6⟩, ai_8, by decide, am_wi 4 31 rfl rfl, am_wi 0 13 rfl rfl, Or.inr ⟨_, rfl, rfl⟩⟩
theorem am_m_69 : am_mP 1 1 (⟨"LeaningWheel$Reader", "refuse", "(I)V"⟩, prog_9_method_14_code, 2, none, 7) := ⟨by decide +kernel, am_wi 3 236 rfl rfl, ⟨ac_8.1, ac_8.2, ad_6⟩, ai_8, by decide, am_wi 3 235 rfl rfl, am_wi 0 4 rfl rfl, Or.inr ⟨_, rfl, rfl⟩⟩
theorem am_m_70 : am_mP 1 1 (⟨"LeaningWheel$Reader", "put", "(I)V"⟩, prog_9_method_15_code, 2, none, 7) := ⟨by decide +kernel, am_wi 4 16 rfl rfl, ⟨ac_8.1, ac_8.2, ad_6⟩, ai_8, by decide, am_wi 4 15 rfl rfl, am_wi 0 9 rfl rfl, Or.inr ⟨_, rfl, rfl⟩⟩
theorem am_m_71 : am_mP 1 0 (⟨"LeaningWheel$Reader", "advance", "()V"⟩, prog_9_method_16_code, 1, none, 7) := ⟨by decide +kernel, am_wi 3 145 rfl rfl, ⟨ac_8.1, ac_8.2, ad_1⟩, ai_8, by decide, am_wi 3 144 rfl rfl, am_wi 0 1 rfl rfl, Or.inr ⟨_, rfl, rfl⟩⟩
theorem am_m_72 : am_mP 0 1 (⟨"LeaningWheel$Reader", "isLetter", "(I)Z"⟩, prog_9_method_17_code, 1, some .boolean, 7) := ⟨by decide +kernel, am_wi 3 148 rfl rfl, ⟨ac_8.1, ac_8.2, ad_7⟩, ai_8, by decide, am_wi 3 147 rfl rfl⟩
theorem am_m_73 : am_mP 0 1 (⟨"LeaningWheel$Reader", "isDigit", "(I)Z"⟩, prog_9_method_18_code, 1, some .boolean, 7) := ⟨by decide +kernel, am_wi 3 224 rfl rfl, ⟨ac_8.1, ac_8.2, ad_7⟩, ai_8, by decide, am_wi 3 223 rfl rfl⟩
theorem am_m_74 : am_mP 0 1 (⟨"LeaningWheel$Reader", "isSign", "(I)Z"⟩, prog_9_method_19_code, 1, some .boolean, 7) := ⟨by decide +kernel, am_wi 3 228 rfl rfl, ⟨ac_8.1, ac_8.2, ad_7⟩, ai_8, by decide, am_wi 3 227 rfl rfl⟩
theorem am_m_75 : am_mP 1 0 (⟨"LeaningWheel$Reader", "wordAt", "()I"⟩, prog_9_method_20_code, 4, some .int, 7) := ⟨by decide +kernel, am_wi 3 153 rfl rfl, ⟨ac_8.1, ac_8.2, ad_0⟩, ai_8, by decide, am_wi 3 152 rfl rfl, am_wi 0 2 rfl rfl, Or.inr ⟨_, rfl, rfl⟩⟩
theorem am_m_76 : am_mP 0 1 (⟨"LeaningWheel$Reader", "word", "(I)Ljava/lang/String;"⟩, prog_9_method_21_code, 1, some (.object "java/lang/String"), 7) := ⟨by decide +kernel, am_wi 3 156 rfl rfl, ⟨ac_8.1, ac_8.2, ad_5⟩, ai_8, by decide, am_wi 3 155 rfl rfl⟩
theorem am_m_77 : am_mP 2 0 (⟨"LeaningWheel$Texts", "<init>", "()V"⟩, prog_10_method_1_code, 1, none, 8) := ⟨by decide +kernel, am_wi 1 74 rfl rfl, ⟨ac_9.1, ac_9.2, ad_1⟩, ai_9, by decide, am_wi 1 73 rfl rfl, rfl, rfl⟩
theorem am_m_78 : am_mP 1 1 (⟨"LeaningWheel$Texts", "take", "(LLeaningWheel$Texts;)V"⟩, prog_10_method_2_code, 2, none, 8) := ⟨by decide +kernel, am_wi 6 12 rfl rfl, ⟨ac_9.1, ac_9.2, ad_43⟩, ai_9, by decide, am_wi 6 10 rfl rfl, am_wi 6 11 rfl rfl, Or.inr ⟨_, rfl, rfl⟩⟩
theorem am_m_79 : am_mP 1 2 (⟨"LeaningWheel$Texts", "has", "(II)Z"⟩, prog_10_method_3_code, 3, some .boolean, 8) := ⟨by decide +kernel, am_wi 4 65 rfl rfl, ⟨ac_9.1, ac_9.2, ad_10⟩, ai_9, by decide, am_wi 4 63 rfl rfl, am_wi 4 64 rfl rfl, Or.inr ⟨_, rfl, rfl⟩⟩
theorem am_m_80 : am_mP 2 1 (⟨"LeaningWheel$Wheels", "<init>", "(I)V"⟩, prog_11_method_1_code, 3, none, 9) := ⟨by decide +kernel, am_wi 1 39 rfl rfl, ⟨ac_10.1, ac_10.2, ad_6⟩, ai_10, by decide, am_wi 1 38 rfl rfl, rfl, rfl⟩
theorem am_m_81 : am_mP 1 1 (⟨"LeaningWheel$Wheels", "take", "(LLeaningWheel$Wheels;)V"⟩, prog_11_method_2_code, 2, none, 9) := ⟨by decide +kernel, am_wi 6 7 rfl rfl, ⟨ac_10.1, ac_10.2, ad_46⟩, ai_10, by decide, am_wi 6 5 rfl rfl, am_wi 6 6 rfl rfl, Or.inr ⟨_, rfl, rfl⟩⟩
theorem am_m_82 : am_mP 1 1 (⟨"LeaningWheel$Wheels", "leans", "(I)I"⟩, prog_11_method_3_code, 4, some .int, 9) := ⟨by decide +kernel, am_wi 4 181 rfl rfl, ⟨ac_10.1, ac_10.2, ad_4⟩, ai_10, by decide, am_wi 4 179 rfl rfl, am_wi 4 180 rfl rfl, Or.inr ⟨_, rfl, rfl⟩⟩
theorem am_m_83 : am_mP 2 2 (⟨"LeaningWheel$Where", "<init>", "(LLeaningWheel$Wheels;LLeaningWheel$Book;)V"⟩, prog_12_method_1_code, 4, none, 10) := ⟨by decide +kernel, am_wi 2 101 rfl rfl, ⟨ac_11.1, ac_11.2, ad_47⟩, ai_11, by decide, am_wi 2 100 rfl rfl, rfl, rfl⟩
theorem am_m_84 : am_mP 1 0 (⟨"LeaningWheel$Where", "forget", "()V"⟩, prog_12_method_2_code, 1, none, 10) := ⟨by decide +kernel, am_wi 3 98 rfl rfl, ⟨ac_11.1, ac_11.2, ad_1⟩, ai_11, by decide, am_wi 3 96 rfl rfl, am_wi 3 97 rfl rfl, Or.inr ⟨_, rfl, rfl⟩⟩
theorem am_m_85 : am_mP 1 2 (⟨"LeaningWheel$Where", "countFalls", "(I[I)I"⟩, prog_12_method_3_code, 6, some .int, 10) := ⟨by decide +kernel, am_wi 5 16 rfl rfl, ⟨ac_11.1, ac_11.2, ad_29⟩, ai_11, by decide, am_wi 5 14 rfl rfl, am_wi 5 15 rfl rfl, Or.inr ⟨_, rfl, rfl⟩⟩
theorem am_m_86 : am_mP 1 1 (⟨"LeaningWheel$Where", "settle", "(I)V"⟩, prog_12_method_4_code, 3, none, 10) := ⟨by decide +kernel, am_wi 4 157 rfl rfl, ⟨ac_11.1, ac_11.2, ad_6⟩, ai_11, by decide, am_wi 4 155 rfl rfl, am_wi 4 156 rfl rfl, Or.inr ⟨_, rfl, rfl⟩⟩
theorem am_m_87 : am_mP 1 2 (⟨"LeaningWheel$Where", "spinsAt", "(II)I"⟩, prog_12_method_5_code, 5, some .int, 10) := ⟨by decide +kernel, am_wi 4 161 rfl rfl, ⟨ac_11.1, ac_11.2, ad_8⟩, ai_11, by decide, am_wi 4 160 rfl rfl, am_wi 0 22 rfl rfl, Or.inr ⟨_, rfl, rfl⟩⟩
theorem am_m_88 : am_mP 1 1 (⟨"LeaningWheel$Where", "clashes", "(I)Z"⟩, prog_12_method_6_code, 4, some .boolean, 10) := ⟨by decide +kernel, am_wi 4 169 rfl rfl, ⟨ac_11.1, ac_11.2, ad_7⟩, ai_11, by decide, am_wi 4 168 rfl rfl, am_wi 0 23 rfl rfl, Or.inr ⟨_, rfl, rfl⟩⟩
theorem am_m_89 : am_mP 1 3 (⟨"LeaningWheel$Where", "isToldElsewhere", "(III)Z"⟩, prog_12_method_7_code, 5, some .boolean, 10) := ⟨by decide +kernel, am_wi 4 173 rfl rfl, ⟨ac_11.1, ac_11.2, ad_14⟩, ai_11, by decide, am_wi 4 172 rfl rfl, am_wi 0 24 rfl rfl, Or.inr ⟨_, rfl, rfl⟩⟩
theorem am_m_90 : am_mP 1 3 (⟨"LeaningWheel$Where", "mayStand", "(III)Z"⟩, prog_12_method_8_code, 5, some .boolean, 10) := ⟨by decide +kernel, am_wi 4 236 rfl rfl, ⟨ac_11.1, ac_11.2, ad_14⟩, ai_11, by decide, am_wi 4 235 rfl rfl, am_wi 0 32 rfl rfl, Or.inr ⟨_, rfl, rfl⟩⟩
theorem am_m_91 : am_mP 1 1 (⟨"LeaningWheel$Where", "weigh", "(I)V"⟩, prog_12_method_9_code, 4, none, 10) := ⟨by decide +kernel, am_wi 4 177 rfl rfl, ⟨ac_11.1, ac_11.2, ad_6⟩, ai_11, by decide, am_wi 4 176 rfl rfl, am_wi 0 25 rfl rfl, Or.inr ⟨_, rfl, rfl⟩⟩
theorem am_m_92 : am_mP 1 3 (⟨"LeaningWheel$Where", "weighSpin", "(LLeaningWheel$Big;II)V"⟩, prog_12_method_10_code, 5, none, 10) := ⟨by decide +kernel, am_wi 4 190 rfl rfl, ⟨ac_11.1, ac_11.2, ad_36⟩, ai_11, by decide, am_wi 4 189 rfl rfl, am_wi 0 26 rfl rfl, Or.inr ⟨_, rfl, rfl⟩⟩
theorem am_m_93 : am_mP 1 3 (⟨"LeaningWheel$Where", "stand", "(III)V"⟩, prog_12_method_11_code, 5, none, 10) := ⟨by decide +kernel, am_wi 4 207 rfl rfl, ⟨ac_11.1, ac_11.2, ad_13⟩, ai_11, by decide, am_wi 4 206 rfl rfl, am_wi 0 29 rfl rfl, Or.inr ⟨_, rfl, rfl⟩⟩
theorem am_m_94 : am_mP 1 1 (⟨"LeaningWheel$Where", "judge", "(I)V"⟩, prog_12_method_12_code, 3, none, 10) := ⟨by decide +kernel, am_wi 4 211 rfl rfl, ⟨ac_11.1, ac_11.2, ad_6⟩, ai_11, by decide, am_wi 4 210 rfl rfl, am_wi 0 30 rfl rfl, Or.inr ⟨_, rfl, rfl⟩⟩
theorem am_m_95 : am_mP 2 1 (⟨"LeaningWheel", "<init>", "(I)V"⟩, prog_1_method_1_code, 3, none, 11) := ⟨by decide +kernel, am_wi 1 25 rfl rfl, ⟨ac_0.1, ac_0.2, ad_6⟩, ai_0, by decide, am_wi 1 24 rfl rfl, rfl, rfl⟩
theorem am_m_96 : am_mP 1 4 (⟨"LeaningWheel", "pocket", "(IIII)Z"⟩, prog_1_method_2_code, 5, some .boolean, 11) := ⟨by decide +kernel, am_wi 3 84 rfl rfl, ⟨ac_0.1, ac_0.2, ad_18⟩, ai_0, by decide, am_wi 3 82 rfl rfl, am_wi 3 83 rfl rfl, Or.inr ⟨_, rfl, rfl⟩⟩
theorem am_m_97 : am_mP 1 6 (⟨"LeaningWheel", "stud", "(IIIIII)Z"⟩, prog_1_method_3_code, 8, some .boolean, 11) := ⟨by decide +kernel, am_wi 3 102 rfl rfl, ⟨ac_0.1, ac_0.2, ad_24⟩, ai_0, by decide, am_wi 3 100 rfl rfl, am_wi 3 101 rfl rfl, Or.inr ⟨_, rfl, rfl⟩⟩
theorem am_m_98 : am_mP 1 2 (⟨"LeaningWheel", "tilt", "(II)Z"⟩, prog_1_method_4_code, 3, some .boolean, 11) := ⟨by decide +kernel, am_wi 3 109 rfl rfl, ⟨ac_0.1, ac_0.2, ad_10⟩, ai_0, by decide, am_wi 3 107 rfl rfl, am_wi 3 108 rfl rfl, Or.inr ⟨_, rfl, rfl⟩⟩
theorem am_m_99 : am_mP 1 5 (⟨"LeaningWheel", "late", "(IIIII)Z"⟩, prog_1_method_5_code, 6, some .boolean, 11) := ⟨by decide +kernel, am_wi 3 113 rfl rfl, ⟨ac_0.1, ac_0.2, ad_22⟩, ai_0, by decide, am_wi 3 111 rfl rfl, am_wi 3 112 rfl rfl, Or.inr ⟨_, rfl, rfl⟩⟩
theorem am_m_100 : am_mP 1 1 (⟨"LeaningWheel", "pays", "(I)Z"⟩, prog_1_method_6_code, 2, some .boolean, 11) := ⟨by decide +kernel, am_wi 3 117 rfl rfl, ⟨ac_0.1, ac_0.2, ad_7⟩, ai_0, by decide, am_wi 3 115 rfl rfl, am_wi 3 116 rfl rfl, Or.inr ⟨_, rfl, rfl⟩⟩
theorem am_m_101 : am_mP 1 5 (⟨"LeaningWheel", "feed", "(IIIII)I"⟩, prog_1_method_7_code, 6, some .int, 11) := ⟨by decide +kernel, am_wi 3 121 rfl rfl, ⟨ac_0.1, ac_0.2, ad_19⟩, ai_0, by decide, am_wi 3 119 rfl rfl, am_wi 3 120 rfl rfl, Or.inr ⟨_, rfl, rfl⟩⟩
theorem am_m_102 : am_mP 1 1 (⟨"LeaningWheel", "end", "(I)I"⟩, prog_1_method_8_code, 2, some .int, 11) := ⟨by decide +kernel, am_wi 3 133 rfl rfl, ⟨ac_0.1, ac_0.2, ad_4⟩, ai_0, by decide, am_wi 3 131 rfl rfl, am_wi 3 132 rfl rfl, Or.inr ⟨_, rfl, rfl⟩⟩
theorem am_m_103 : am_mP 1 0 (⟨"LeaningWheel", "text", "()I"⟩, prog_1_method_9_code, 2, some .int, 11) := ⟨by decide +kernel, am_wi 3 137 rfl rfl, ⟨ac_0.1, ac_0.2, ad_0⟩, ai_0, by decide, am_wi 3 135 rfl rfl, am_wi 3 136 rfl rfl, Or.inr ⟨_, rfl, rfl⟩⟩
theorem am_m_104 : am_mP 1 1 (⟨"LeaningWheel", "fault", "(I)I"⟩, prog_1_method_10_code, 2, some .int, 11) := ⟨by decide +kernel, am_wi 4 37 rfl rfl, ⟨ac_0.1, ac_0.2, ad_4⟩, ai_0, by decide, am_wi 4 35 rfl rfl, am_wi 4 36 rfl rfl, Or.inr ⟨_, rfl, rfl⟩⟩
theorem am_m_105 : am_mP 1 1 (⟨"LeaningWheel", "law", "(I)Z"⟩, prog_1_method_11_code, 2, some .boolean, 11) := ⟨by decide +kernel, am_wi 4 41 rfl rfl, ⟨ac_0.1, ac_0.2, ad_7⟩, ai_0, by decide, am_wi 4 39 rfl rfl, am_wi 4 40 rfl rfl, Or.inr ⟨_, rfl, rfl⟩⟩
theorem am_m_106 : am_mP 1 6 (⟨"LeaningWheel", "drop", "(IIIIII)I"⟩, prog_1_method_12_code, 8, some .int, 11) := ⟨by decide +kernel, am_wi 4 45 rfl rfl, ⟨ac_0.1, ac_0.2, ad_23⟩, ai_0, by decide, am_wi 4 43 rfl rfl, am_wi 4 44 rfl rfl, Or.inr ⟨_, rfl, rfl⟩⟩
theorem am_m_107 : am_mP 1 6 (⟨"LeaningWheel", "foretold", "(IIIIII)I"⟩, prog_1_method_13_code, 9, some .int, 11) := ⟨by decide +kernel, am_wi 4 104 rfl rfl, ⟨ac_0.1, ac_0.2, ad_23⟩, ai_0, by decide, am_wi 4 102 rfl rfl, am_wi 4 103 rfl rfl, Or.inr ⟨_, rfl, rfl⟩⟩
theorem am_m_108 : am_mP 1 6 (⟨"LeaningWheel", "start", "(IIIIII)I"⟩, prog_1_method_14_code, 9, some .int, 11) := ⟨by decide +kernel, am_wi 4 119 rfl rfl, ⟨ac_0.1, ac_0.2, ad_23⟩, ai_0, by decide, am_wi 4 117 rfl rfl, am_wi 4 118 rfl rfl, Or.inr ⟨_, rfl, rfl⟩⟩
theorem am_m_109 : am_mP 1 3 (⟨"LeaningWheel", "odds", "(III)I"⟩, prog_1_method_15_code, 8, some .int, 11) := ⟨by decide +kernel, am_wi 4 130 rfl rfl, ⟨ac_0.1, ac_0.2, ad_11⟩, ai_0, by decide, am_wi 4 128 rfl rfl, am_wi 4 129 rfl rfl, Or.inr ⟨_, rfl, rfl⟩⟩
theorem am_m_110 : am_mP 1 4 (⟨"LeaningWheel", "write", "(IIII)I"⟩, prog_1_method_16_code, 6, some .int, 11) := ⟨by decide +kernel, am_wi 4 138 rfl rfl, ⟨ac_0.1, ac_0.2, ad_15⟩, ai_0, by decide, am_wi 4 136 rfl rfl, am_wi 4 137 rfl rfl, Or.inr ⟨_, rfl, rfl⟩⟩
theorem am_m_111 : am_mP 1 3 (⟨"LeaningWheel", "scratch", "(III)Z"⟩, prog_1_method_17_code, 4, some .boolean, 11) := ⟨by decide +kernel, am_wi 4 149 rfl rfl, ⟨ac_0.1, ac_0.2, ad_14⟩, ai_0, by decide, am_wi 4 147 rfl rfl, am_wi 4 148 rfl rfl, Or.inr ⟨_, rfl, rfl⟩⟩
theorem am_m_112 : am_mP 1 2 (⟨"LeaningWheel", "which", "(II)I"⟩, prog_1_method_18_code, 3, some .int, 11) := ⟨by decide +kernel, am_wi 4 153 rfl rfl, ⟨ac_0.1, ac_0.2, ad_8⟩, ai_0, by decide, am_wi 4 151 rfl rfl, am_wi 4 152 rfl rfl, Or.inr ⟨_, rfl, rfl⟩⟩
theorem am_m_113 : am_mP 1 2 (⟨"LeaningWheel", "falls", "(II)I"⟩, prog_1_method_19_code, 4, some .int, 11) := ⟨by decide +kernel, am_wi 5 12 rfl rfl, ⟨ac_0.1, ac_0.2, ad_8⟩, ai_0, by decide, am_wi 5 10 rfl rfl, am_wi 5 11 rfl rfl, Or.inr ⟨_, rfl, rfl⟩⟩
theorem am_m_114 : am_mP 1 3 (⟨"LeaningWheel", "nine", "(III)I"⟩, prog_1_method_20_code, 7, some .int, 11) := ⟨by decide +kernel, am_wi 5 22 rfl rfl, ⟨ac_0.1, ac_0.2, ad_11⟩, ai_0, by decide, am_wi 5 20 rfl rfl, am_wi 5 21 rfl rfl, Or.inr ⟨_, rfl, rfl⟩⟩
theorem am_m_115 : am_mP 1 3 (⟨"LeaningWheel", "above", "(III)I"⟩, prog_1_method_21_code, 4, some .int, 11) := ⟨by decide +kernel, am_wi 5 66 rfl rfl, ⟨ac_0.1, ac_0.2, ad_11⟩, ai_0, by decide, am_wi 5 64 rfl rfl, am_wi 5 65 rfl rfl, Or.inr ⟨_, rfl, rfl⟩⟩
theorem am_m_116 : am_mP 1 3 (⟨"LeaningWheel", "among", "(III)I"⟩, prog_1_method_22_code, 4, some .int, 11) := ⟨by decide +kernel, am_wi 5 73 rfl rfl, ⟨ac_0.1, ac_0.2, ad_11⟩, ai_0, by decide, am_wi 5 71 rfl rfl, am_wi 5 72 rfl rfl, Or.inr ⟨_, rfl, rfl⟩⟩
theorem am_m_117 : am_mP 1 4 (⟨"LeaningWheel", "span", "(IIIZ)I"⟩, prog_1_method_23_code, 5, some .int, 11) := ⟨by decide +kernel, am_wi 5 77 rfl rfl, ⟨ac_0.1, ac_0.2, ad_25⟩, ai_0, by decide, am_wi 5 75 rfl rfl, am_wi 5 76 rfl rfl, Or.inr ⟨_, rfl, rfl⟩⟩
theorem am_m_118 : am_mP 1 4 (⟨"LeaningWheel", "need", "(IIII)I"⟩, prog_1_method_24_code, 5, some .int, 11) := ⟨by decide +kernel, am_wi 5 91 rfl rfl, ⟨ac_0.1, ac_0.2, ad_15⟩, ai_0, by decide, am_wi 5 89 rfl rfl, am_wi 5 90 rfl rfl, Or.inr ⟨_, rfl, rfl⟩⟩
theorem am_m_119 : am_mP 1 3 (⟨"LeaningWheel", "habit", "(III)I"⟩, prog_1_method_25_code, 7, some .int, 11) := ⟨by decide +kernel, am_wi 5 108 rfl rfl, ⟨ac_0.1, ac_0.2, ad_11⟩, ai_0, by decide, am_wi 5 106 rfl rfl, am_wi 5 107 rfl rfl, Or.inr ⟨_, rfl, rfl⟩⟩
theorem am_m_120 : am_mP 1 5 (⟨"LeaningWheel", "goal", "(IIIII)I"⟩, prog_1_method_26_code, 7, some .int, 11) := ⟨by decide +kernel, am_wi 5 124 rfl rfl, ⟨ac_0.1, ac_0.2, ad_19⟩, ai_0, by decide, am_wi 5 122 rfl rfl, am_wi 5 123 rfl rfl, Or.inr ⟨_, rfl, rfl⟩⟩
theorem am_m_121 : am_mP 1 4 (⟨"LeaningWheel", "luck", "(IIII)I"⟩, prog_1_method_27_code, 5, some .int, 11) := ⟨by decide +kernel, am_wi 5 147 rfl rfl, ⟨ac_0.1, ac_0.2, ad_15⟩, ai_0, by decide, am_wi 5 145 rfl rfl, am_wi 5 146 rfl rfl, Or.inr ⟨_, rfl, rfl⟩⟩
theorem am_m_122 : am_mP 1 5 (⟨"LeaningWheel", "run", "(IIIII)I"⟩, prog_1_method_28_code, 7, some .int, 11) := ⟨by decide +kernel, am_wi 5 164 rfl rfl, ⟨ac_0.1, ac_0.2, ad_19⟩, ai_0, by decide, am_wi 5 162 rfl rfl, am_wi 5 163 rfl rfl, Or.inr ⟨_, rfl, rfl⟩⟩
theorem am_m_123 : am_mP 1 3 (⟨"LeaningWheel", "bet", "(III)I"⟩, prog_1_method_29_code, 5, some .int, 11) := ⟨by decide +kernel, am_wi 5 189 rfl rfl, ⟨ac_0.1, ac_0.2, ad_11⟩, ai_0, by decide, am_wi 5 187 rfl rfl, am_wi 5 188 rfl rfl, Or.inr ⟨_, rfl, rfl⟩⟩
theorem am_m_124 : am_mP 1 2 (⟨"LeaningWheel", "watched", "(II)I"⟩, prog_1_method_30_code, 5, some .int, 11) := ⟨by decide +kernel, am_wi 5 197 rfl rfl, ⟨ac_0.1, ac_0.2, ad_8⟩, ai_0, by decide, am_wi 5 195 rfl rfl, am_wi 5 196 rfl rfl, Or.inr ⟨_, rfl, rfl⟩⟩
theorem am_m_125 : am_mP 1 5 (⟨"LeaningWheel", "house", "(IIIII)I"⟩, prog_1_method_31_code, 7, some .int, 11) := ⟨by decide +kernel, am_wi 5 209 rfl rfl, ⟨ac_0.1, ac_0.2, ad_19⟩, ai_0, by decide, am_wi 5 207 rfl rfl, am_wi 5 208 rfl rfl, Or.inr ⟨_, rfl, rfl⟩⟩
theorem am_m_126 : am_mP 1 2 (⟨"LeaningWheel", "seen", "(II)I"⟩, prog_1_method_32_code, 4, some .int, 11) := ⟨by decide +kernel, am_wi 5 223 rfl rfl, ⟨ac_0.1, ac_0.2, ad_8⟩, ai_0, by decide, am_wi 5 221 rfl rfl, am_wi 5 222 rfl rfl, Or.inr ⟨_, rfl, rfl⟩⟩
theorem am_m_127 : am_mP 1 1 (⟨"LeaningWheel", "shoe", "(I)I"⟩, prog_1_method_33_code, 2, some .int, 11) := ⟨by decide +kernel, am_wi 5 227 rfl rfl, ⟨ac_0.1, ac_0.2, ad_4⟩, ai_0, by decide, am_wi 5 225 rfl rfl, am_wi 5 226 rfl rfl, Or.inr ⟨_, rfl, rfl⟩⟩
theorem am_m_128 : am_mP 1 0 (⟨"LeaningWheel", "image", "()I"⟩, prog_1_method_34_code, 1, some .int, 11) := ⟨by decide +kernel, am_wi 6 3 rfl rfl, ⟨ac_0.1, ac_0.2, ad_0⟩, ai_0, by decide, am_wi 6 1 rfl rfl, am_wi 6 2 rfl rfl, Or.inr ⟨_, rfl, rfl⟩⟩
theorem am_m_129 : am_mP 1 0 (⟨"LeaningWheel", "back", "()I"⟩, prog_1_method_35_code, 1, some .int, 11) := ⟨by decide +kernel, am_wi 6 22 rfl rfl, ⟨ac_0.1, ac_0.2, ad_0⟩, ai_0, by decide, am_wi 6 20 rfl rfl, am_wi 6 21 rfl rfl, Or.inr ⟨_, rfl, rfl⟩⟩
theorem am_m_130 : am_mP 1 1 (⟨"LeaningWheel", "about", "(I)I"⟩, prog_1_method_36_code, 2, some .int, 11) := ⟨by decide +kernel, am_wi 6 26 rfl rfl, ⟨ac_0.1, ac_0.2, ad_4⟩, ai_0, by decide, am_wi 6 24 rfl rfl, am_wi 6 25 rfl rfl, Or.inr ⟨_, rfl, rfl⟩⟩
theorem am_m_131 : am_mP 0 3 (⟨"LeaningWheel", "within", "(III)Z"⟩, prog_1_method_37_code, 3, some .boolean, 11) := ⟨by decide +kernel, am_wi 3 90 rfl rfl, ⟨ac_0.1, ac_0.2, ad_14⟩, ai_0, by decide, am_wi 3 89 rfl rfl⟩
theorem am_m_132 : am_mP 0 1 (⟨"LeaningWheel", "isWheel", "(I)Z"⟩, prog_1_method_38_code, 1, some .boolean, 11) := ⟨by decide +kernel, am_wi 3 87 rfl rfl, ⟨ac_0.1, ac_0.2, ad_7⟩, ai_0, by decide, am_wi 3 86 rfl rfl⟩
theorem am_m_133 : am_mP 0 1 (⟨"LeaningWheel", "isHand", "(I)Z"⟩, prog_1_method_39_code, 1, some .boolean, 11) := ⟨by decide +kernel, am_wi 4 122 rfl rfl, ⟨ac_0.1, ac_0.2, ad_7⟩, ai_0, by decide, am_wi 4 121 rfl rfl⟩
theorem am_m_134 : am_mP 0 2 (⟨"LeaningWheel", "isTable", "(II)Z"⟩, prog_1_method_40_code, 2, some .boolean, 11) := ⟨by decide +kernel, am_wi 4 141 rfl rfl, ⟨ac_0.1, ac_0.2, ad_10⟩, ai_0, by decide, am_wi 4 140 rfl rfl⟩
theorem am_m_135 : am_mP 0 2 (⟨"LeaningWheel", "isCount", "(II)Z"⟩, prog_1_method_41_code, 2, some .boolean, 11) := ⟨by decide +kernel, am_wi 5 69 rfl rfl, ⟨ac_0.1, ac_0.2, ad_10⟩, ai_0, by decide, am_wi 5 68 rfl rfl⟩
theorem am_m_136 : am_mP 0 5 (⟨"LeaningWheel", "areTenths", "(IIIII)Z"⟩, prog_1_method_42_code, 6, some .boolean, 11) := ⟨by decide +kernel, am_wi 3 105 rfl rfl, ⟨ac_0.1, ac_0.2, ad_22⟩, ai_0, by decide, am_wi 3 104 rfl rfl⟩
theorem am_m_137 : am_mP 1 1 (⟨"LeaningWheel", "isPocket", "(I)Z"⟩, prog_1_method_43_code, 2, some .boolean, 11) := ⟨by decide +kernel, am_wi 3 94 rfl rfl, ⟨ac_0.1, ac_0.2, ad_7⟩, ai_0, by decide, am_wi 3 93 rfl rfl, am_wi 0 0 rfl rfl, Or.inr ⟨_, rfl, rfl⟩⟩
theorem am_m_138 : am_mP 1 1 (⟨"LeaningWheel", "isPocketOrNone", "(I)Z"⟩, prog_1_method_44_code, 2, some .boolean, 11) := ⟨by decide +kernel, am_wi 4 134 rfl rfl, ⟨ac_0.1, ac_0.2, ad_7⟩, ai_0, by decide, am_wi 4 133 rfl rfl, am_wi 0 21 rfl rfl, Or.inr ⟨_, rfl, rfl⟩⟩
theorem am_m_139 : am_mP 1 1 (⟨"LeaningWheel", "isNine", "(I)Z"⟩, prog_1_method_45_code, 2, some .boolean, 11) := ⟨by decide +kernel, am_wi 5 26 rfl rfl, ⟨ac_0.1, ac_0.2, ad_7⟩, ai_0, by decide, am_wi 5 25 rfl rfl, am_wi 0 33 rfl rfl, Or.inr ⟨_, rfl, rfl⟩⟩
theorem am_m_140 : am_mP 1 4 (⟨"LeaningWheel", "isRelease", "(IIII)Z"⟩, prog_1_method_46_code, 6, some .boolean, 11) := ⟨by decide +kernel, am_wi 4 49 rfl rfl, ⟨ac_0.1, ac_0.2, ad_18⟩, ai_0, by decide, am_wi 4 48 rfl rfl, am_wi 0 14 rfl rfl, Or.inr ⟨_, rfl, rfl⟩⟩
theorem am_m_141 : am_mP 1 5 (⟨"LeaningWheel", "foresee", "(IIIII)V"⟩, prog_1_method_47_code, 10, none, 11) := ⟨by decide +kernel, am_wi 4 109 rfl rfl, ⟨ac_0.1, ac_0.2, ad_21⟩, ai_0, by decide, am_wi 4 108 rfl rfl, am_wi 0 19 rfl rfl, Or.inr ⟨_, rfl, rfl⟩⟩
theorem am_m_142 : am_mP 1 1 (⟨"LeaningWheel", "greatest", "([I)I"⟩, prog_1_method_48_code, 4, some .int, 11) := ⟨by decide +kernel, am_wi 4 115 rfl rfl, ⟨ac_0.1, ac_0.2, ad_49⟩, ai_0, by decide, am_wi 4 114 rfl rfl, am_wi 0 20 rfl rfl, Or.inr ⟨_, rfl, rfl⟩⟩
theorem am_m_143 : am_mP 1 1 (⟨"LeaningWheel", "choose", "(I)I"⟩, prog_1_method_49_code, 6, some .int, 11) := ⟨by decide +kernel, am_wi 5 30 rfl rfl, ⟨ac_0.1, ac_0.2, ad_4⟩, ai_0, by decide, am_wi 5 29 rfl rfl, am_wi 0 34 rfl rfl, Or.inr ⟨_, rfl, rfl⟩⟩
theorem am_m_144 : am_mP 1 1 (⟨"LeaningWheel", "isChosen", "(I)Z"⟩, prog_1_method_50_code, 2, some .boolean, 11) := ⟨by decide +kernel, am_wi 5 34 rfl rfl, ⟨ac_0.1, ac_0.2, ad_7⟩, ai_0, by decide, am_wi 5 33 rfl rfl, am_wi 0 35 rfl rfl, Or.inr ⟨_, rfl, rfl⟩⟩
theorem am_m_145 : am_mP 1 1 (⟨"LeaningWheel", "chosenAt", "(I)I"⟩, prog_1_method_51_code, 4, some .int, 11) := ⟨by decide +kernel, am_wi 5 38 rfl rfl, ⟨ac_0.1, ac_0.2, ad_4⟩, ai_0, by decide, am_wi 5 37 rfl rfl, am_wi 0 36 rfl rfl, Or.inr ⟨_, rfl, rfl⟩⟩
theorem am_m_146 : am_mP 1 1 (⟨"LeaningWheel", "countDistances", "(I)I"⟩, prog_1_method_52_code, 6, some .int, 11) := ⟨by decide +kernel, am_wi 5 112 rfl rfl, ⟨ac_0.1, ac_0.2, ad_4⟩, ai_0, by decide, am_wi 5 111 rfl rfl, am_wi 0 41 rfl rfl, Or.inr ⟨_, rfl, rfl⟩⟩
theorem am_m_147 : am_mP 1 1 (⟨"LeaningWheel", "widest", "(I)I"⟩, prog_1_method_53_code, 4, some .int, 11) := ⟨by decide +kernel, am_wi 5 116 rfl rfl, ⟨ac_0.1, ac_0.2, ad_4⟩, ai_0, by decide, am_wi 5 115 rfl rfl, am_wi 0 42 rfl rfl, Or.inr ⟨_, rfl, rfl⟩⟩
theorem am_m_148 : am_mP 1 2 (⟨"LeaningWheel", "inWidth", "(II)I"⟩, prog_1_method_54_code, 5, some .int, 11) := ⟨by decide +kernel, am_wi 5 120 rfl rfl, ⟨ac_0.1, ac_0.2, ad_8⟩, ai_0, by decide, am_wi 5 119 rfl rfl, am_wi 0 43 rfl rfl, Or.inr ⟨_, rfl, rfl⟩⟩
theorem am_m_149 : am_mP 2 1 (⟨"LeaningWheelModel", "<init>", "(I)V"⟩, prog_14_method_1_code, 3, none, 12) := ⟨by decide +kernel, am_wi 6 35 rfl rfl, ⟨ac_13.1, ac_13.2, ad_6⟩, ai_13, by decide, am_wi 6 34 rfl rfl, rfl, rfl⟩
theorem am_m_150 : am_mP 0 2 (⟨"LeaningWheelModel", "copy", "([I[I)V"⟩, prog_14_method_2_code, 3, none, 12) := ⟨by decide +kernel, am_wi 6 39 rfl rfl, ⟨ac_13.1, ac_13.2, ad_52⟩, ai_13, by decide, am_wi 6 38 rfl rfl⟩
theorem am_m_151 : am_mP 0 3 (⟨"LeaningWheelModel", "isIn", "(III)Z"⟩, prog_14_method_3_code, 3, some .boolean, 12) := ⟨by decide +kernel, am_wi 6 164 rfl rfl, ⟨ac_13.1, ac_13.2, ad_14⟩, ai_13, by decide, am_wi 6 163 rfl rfl⟩
theorem am_m_152 : am_mP 0 1 (⟨"LeaningWheelModel", "abs", "(I)I"⟩, prog_14_method_4_code, 1, some .int, 12) := ⟨by decide +kernel, am_wi 8 62 rfl rfl, ⟨ac_13.1, ac_13.2, ad_4⟩, ai_13, by decide, am_wi 8 61 rfl rfl⟩
theorem am_m_153 : am_mP 0 1 (⟨"LeaningWheelModel", "isWheel", "(I)Z"⟩, prog_14_method_5_code, 1, some .boolean, 12) := ⟨by decide +kernel, am_wi 6 161 rfl rfl, ⟨ac_13.1, ac_13.2, ad_7⟩, ai_13, by decide, am_wi 6 160 rfl rfl⟩
theorem am_m_154 : am_mP 1 1 (⟨"LeaningWheelModel", "isPocket", "(I)Z"⟩, prog_14_method_6_code, 2, some .boolean, 12) := ⟨by decide +kernel, am_wi 6 168 rfl rfl, ⟨ac_13.1, ac_13.2, ad_7⟩, ai_13, by decide, am_wi 6 167 rfl rfl, am_wi 0 51 rfl rfl, Or.inr ⟨_, rfl, rfl⟩⟩
theorem am_m_155 : am_mP 1 4 (⟨"LeaningWheelModel", "pocket", "(IIII)Z"⟩, prog_14_method_7_code, 5, some .boolean, 12) := ⟨by decide +kernel, am_wi 6 158 rfl rfl, ⟨ac_13.1, ac_13.2, ad_18⟩, ai_13, by decide, am_wi 6 156 rfl rfl, am_wi 6 157 rfl rfl, Or.inr ⟨_, rfl, rfl⟩⟩
theorem am_m_156 : am_mP 0 1 (⟨"LeaningWheelModel", "isTenth", "(I)Z"⟩, prog_14_method_8_code, 1, some .boolean, 12) := ⟨by decide +kernel, am_wi 6 175 rfl rfl, ⟨ac_13.1, ac_13.2, ad_7⟩, ai_13, by decide, am_wi 6 174 rfl rfl⟩
theorem am_m_157 : am_mP 1 6 (⟨"LeaningWheelModel", "stud", "(IIIIII)Z"⟩, prog_14_method_9_code, 9, some .boolean, 12) := ⟨by decide +kernel, am_wi 6 172 rfl rfl, ⟨ac_13.1, ac_13.2, ad_24⟩, ai_13, by decide, am_wi 6 170 rfl rfl, am_wi 6 171 rfl rfl, Or.inr ⟨_, rfl, rfl⟩⟩
theorem am_m_158 : am_mP 1 2 (⟨"LeaningWheelModel", "tilt", "(II)Z"⟩, prog_14_method_10_code, 3, some .boolean, 12) := ⟨by decide +kernel, am_wi 6 179 rfl rfl, ⟨ac_13.1, ac_13.2, ad_10⟩, ai_13, by decide, am_wi 6 177 rfl rfl, am_wi 6 178 rfl rfl, Or.inr ⟨_, rfl, rfl⟩⟩
theorem am_m_159 : am_mP 1 5 (⟨"LeaningWheelModel", "late", "(IIIII)Z"⟩, prog_14_method_11_code, 7, some .boolean, 12) := ⟨by decide +kernel, am_wi 6 183 rfl rfl, ⟨ac_13.1, ac_13.2, ad_22⟩, ai_13, by decide, am_wi 6 181 rfl rfl, am_wi 6 182 rfl rfl, Or.inr ⟨_, rfl, rfl⟩⟩
theorem am_m_160 : am_mP 1 1 (⟨"LeaningWheelModel", "pays", "(I)Z"⟩, prog_14_method_12_code, 2, some .boolean, 12) := ⟨by decide +kernel, am_wi 6 187 rfl rfl, ⟨ac_13.1, ac_13.2, ad_7⟩, ai_13, by decide, am_wi 6 185 rfl rfl, am_wi 6 186 rfl rfl, Or.inr ⟨_, rfl, rfl⟩⟩
theorem am_m_161 : am_mP 1 1 (⟨"LeaningWheelModel", "four", "(I)V"⟩, prog_14_method_13_code, 3, none, 12) := ⟨by decide +kernel, am_wi 6 195 rfl rfl, ⟨ac_13.1, ac_13.2, ad_6⟩, ai_13, by decide, am_wi 6 194 rfl rfl, am_wi 0 52 rfl rfl, Or.inr ⟨_, rfl, rfl⟩⟩
theorem am_m_162 : am_mP 1 5 (⟨"LeaningWheelModel", "feed", "(IIIII)I"⟩, prog_14_method_14_code, 6, some .int, 12) := ⟨by decide +kernel, am_wi 6 191 rfl rfl, ⟨ac_13.1, ac_13.2, ad_19⟩, ai_13, by decide, am_wi 6 189 rfl rfl, am_wi 6 190 rfl rfl, Or.inr ⟨_, rfl, rfl⟩⟩
theorem am_m_163 : am_mP 1 1 (⟨"LeaningWheelModel", "end", "(I)I"⟩, prog_14_method_15_code, 2, some .int, 12) := ⟨by decide +kernel, am_wi 6 199 rfl rfl, ⟨ac_13.1, ac_13.2, ad_4⟩, ai_13, by decide, am_wi 6 197 rfl rfl, am_wi 6 198 rfl rfl, Or.inr ⟨_, rfl, rfl⟩⟩
theorem am_m_164 : am_mP 1 1 (⟨"LeaningWheelModel", "byteAt", "(I)I"⟩, prog_14_method_16_code, 2, some .int, 12) := ⟨by decide +kernel, am_wi 6 215 rfl rfl, ⟨ac_13.1, ac_13.2, ad_4⟩, ai_13, by decide, am_wi 6 214 rfl rfl, am_wi 0 55 rfl rfl, Or.inr ⟨_, rfl, rfl⟩⟩
theorem am_m_165 : am_mP 0 1 (⟨"LeaningWheelModel", "isLetter", "(I)Z"⟩, prog_14_method_17_code, 1, some .boolean, 12) := ⟨by decide +kernel, am_wi 6 222 rfl rfl, ⟨ac_13.1, ac_13.2, ad_7⟩, ai_13, by decide, am_wi 6 221 rfl rfl⟩
theorem am_m_166 : am_mP 0 1 (⟨"LeaningWheelModel", "isDigit", "(I)Z"⟩, prog_14_method_18_code, 1, some .boolean, 12) := ⟨by decide +kernel, am_wi 6 218 rfl rfl, ⟨ac_13.1, ac_13.2, ad_7⟩, ai_13, by decide, am_wi 6 217 rfl rfl⟩
theorem am_m_167 : am_mP 1 0 (⟨"LeaningWheelModel", "nextToken", "()V"⟩, prog_14_method_19_code, 3, none, 12) := ⟨by decide +kernel, am_wi 6 211 rfl rfl, ⟨ac_13.1, ac_13.2, ad_1⟩, ai_13, by decide, am_wi 6 210 rfl rfl, am_wi 0 54 rfl rfl, Or.inr ⟨_, rfl, rfl⟩⟩
theorem am_m_168 : am_mP 0 3 (⟨"LeaningWheelModel", "w3", "(III)J"⟩, prog_14_method_20_code, 3, some .long, 12) := ⟨by decide +kernel, am_wi 6 236 rfl rfl, ⟨ac_13.1, ac_13.2, ad_12⟩, ai_13, by decide, am_wi 6 235 rfl rfl⟩
theorem am_m_169 : am_mP 0 5 (⟨"LeaningWheelModel", "w5", "(IIIII)J"⟩, prog_14_method_21_code, 5, some .long, 12) := ⟨by decide +kernel, am_wi 7 3 rfl rfl, ⟨ac_13.1, ac_13.2, ad_20⟩, ai_13, by decide, am_wi 7 2 rfl rfl⟩
theorem am_m_170 : am_mP 0 4 (⟨"LeaningWheelModel", "w4", "(IIII)J"⟩, prog_14_method_22_code, 4, some .long, 12) := ⟨by decide +kernel, am_wi 6 233 rfl rfl, ⟨ac_13.1, ac_13.2, ad_16⟩, ai_13, by decide, am_wi 6 232 rfl rfl⟩
theorem am_m_171 : am_mP 1 1 (⟨"LeaningWheelModel", "isWord", "(J)Z"⟩, prog_14_method_24_code, 3, some .boolean, 12) := ⟨by decide +kernel, am_wi 7 0 rfl rfl, ⟨ac_13.1, ac_13.2, ad_32⟩, ai_13, by decide, am_wi 6 239 rfl rfl, am_wi 0 58 rfl rfl, Or.inr ⟨_, rfl, rfl⟩⟩
theorem am_m_172 : am_mP 1 2 (⟨"LeaningWheelModel", "emit", "(II)V"⟩, prog_14_method_25_code, 3, none, 12) := ⟨by decide +kernel, am_wi 7 28 rfl rfl, ⟨ac_13.1, ac_13.2, ad_9⟩, ai_13, by decide, am_wi 7 27 rfl rfl, am_wi 0 64 rfl rfl, Or.inr ⟨_, rfl, rfl⟩⟩
theorem am_m_173 : am_mP 1 1 (⟨"LeaningWheelModel", "push", "(I)V"⟩, prog_14_method_26_code, 2, none, 12) := ⟨by decide +kernel, am_wi 7 32 rfl rfl, ⟨ac_13.1, ac_13.2, ad_6⟩, ai_13, by decide, am_wi 7 31 rfl rfl, am_wi 0 65 rfl rfl, Or.inr ⟨_, rfl, rfl⟩⟩
theorem am_m_174 : am_mP 1 0 (⟨"LeaningWheelModel", "whole", "()V"⟩, prog_14_method_27_code, 1, none, 12) := ⟨by decide +kernel, am_wi 7 36 rfl rfl, ⟨ac_13.1, ac_13.2, ad_1⟩, ai_13, by decide, am_wi 7 35 rfl rfl, am_wi 0 66 rfl rfl, Or.inr ⟨_, rfl, rfl⟩⟩
theorem am_m_175 : am_mP 1 1 (⟨"LeaningWheelModel", "settle", "(I)V"⟩, prog_14_method_28_code, 2, none, 12) := ⟨by decide +kernel, am_wi 7 24 rfl rfl, ⟨ac_13.1, ac_13.2, ad_6⟩, ai_13, by decide, am_wi 7 23 rfl rfl, am_wi 0 63 rfl rfl, Or.inr ⟨_, rfl, rfl⟩⟩
theorem am_m_176 : am_mP 1 0 (⟨"LeaningWheelModel", "nameOf", "()I"⟩, prog_14_method_29_code, 1, some .int, 12) := ⟨by decide +kernel, am_wi 7 44 rfl rfl, ⟨ac_13.1, ac_13.2, ad_0⟩, ai_13, by decide, am_wi 7 43 rfl rfl, am_wi 0 68 rfl rfl, Or.inr ⟨_, rfl, rfl⟩⟩
theorem am_m_177 : am_mP 1 0 (⟨"LeaningWheelModel", "opener", "()I"⟩, prog_14_method_30_code, 2, some .int, 12) := ⟨by decide +kernel, am_wi 7 48 rfl rfl, ⟨ac_13.1, ac_13.2, ad_0⟩, ai_13, by decide, am_wi 7 47 rfl rfl, am_wi 0 69 rfl rfl, Or.inr ⟨_, rfl, rfl⟩⟩
theorem am_m_178 : am_mP 1 0 (⟨"LeaningWheelModel", "beginOne", "()I"⟩, prog_14_method_31_code, 3, some .int, 12) := ⟨by decide +kernel, am_wi 7 40 rfl rfl, ⟨ac_13.1, ac_13.2, ad_0⟩, ai_13, by decide, am_wi 7 39 rfl rfl, am_wi 0 67 rfl rfl, Or.inr ⟨_, rfl, rfl⟩⟩
theorem am_m_179 : am_mP 1 0 (⟨"LeaningWheelModel", "latest", "()I"⟩, prog_14_method_32_code, 2, some .int, 12) := ⟨by decide +kernel, am_wi 7 16 rfl rfl, ⟨ac_13.1, ac_13.2, ad_0⟩, ai_13, by decide, am_wi 7 15 rfl rfl, am_wi 0 61 rfl rfl, Or.inr ⟨_, rfl, rfl⟩⟩
theorem am_m_180 : am_mP 1 0 (⟨"LeaningWheelModel", "goesOn", "()Z"⟩, prog_14_method_33_code, 1, some .boolean, 12) := ⟨by decide +kernel, am_wi 7 12 rfl rfl, ⟨ac_13.1, ac_13.2, ad_2⟩, ai_13, by decide, am_wi 7 11 rfl rfl, am_wi 0 60 rfl rfl, Or.inr ⟨_, rfl, rfl⟩⟩
theorem am_m_181 : am_mP 1 0 (⟨"LeaningWheelModel", "behindOne", "()I"⟩, prog_14_method_34_code, 4, some .int, 12) := ⟨by decide +kernel, am_wi 7 20 rfl rfl, ⟨ac_13.1, ac_13.2, ad_0⟩, ai_13, by decide, am_wi 7 19 rfl rfl, am_wi 0 62 rfl rfl, Or.inr ⟨_, rfl, rfl⟩⟩
theorem am_m_182 : am_mP 1 0 (⟨"LeaningWheelModel", "summed", "()I"⟩, prog_14_method_35_code, 2, some .int, 12) := ⟨by decide +kernel, am_wi 7 8 rfl rfl, ⟨ac_13.1, ac_13.2, ad_0⟩, ai_13, by decide, am_wi 7 7 rfl rfl, am_wi 0 59 rfl rfl, Or.inr ⟨_, rfl, rfl⟩⟩
theorem am_m_183 : am_mP 1 0 (⟨"LeaningWheelModel", "sortOf", "()I"⟩, prog_14_method_36_code, 1, some .int, 12) := ⟨by decide +kernel, am_wi 6 230 rfl rfl, ⟨ac_13.1, ac_13.2, ad_0⟩, ai_13, by decide, am_wi 6 229 rfl rfl, am_wi 0 57 rfl rfl, Or.inr ⟨_, rfl, rfl⟩⟩
theorem am_m_184 : am_mP 1 0 (⟨"LeaningWheelModel", "clause", "()I"⟩, prog_14_method_37_code, 2, some .int, 12) := ⟨by decide +kernel, am_wi 6 226 rfl rfl, ⟨ac_13.1, ac_13.2, ad_0⟩, ai_13, by decide, am_wi 6 225 rfl rfl, am_wi 0 56 rfl rfl, Or.inr ⟨_, rfl, rfl⟩⟩
theorem am_m_185 : am_mP 1 0 (⟨"LeaningWheelModel", "readText", "()I"⟩, prog_14_method_38_code, 2, some .int, 12) := ⟨by decide +kernel, am_wi 6 207 rfl rfl, ⟨ac_13.1, ac_13.2, ad_0⟩, ai_13, by decide, am_wi 6 206 rfl rfl, am_wi 0 53 rfl rfl, Or.inr ⟨_, rfl, rfl⟩⟩
theorem am_m_186 : am_mP 1 0 (⟨"LeaningWheelModel", "text", "()I"⟩, prog_14_method_39_code, 1, some .int, 12) := ⟨by decide +kernel, am_wi 6 203 rfl rfl, ⟨ac_13.1, ac_13.2, ad_0⟩, ai_13, by decide, am_wi 6 201 rfl rfl, am_wi 6 202 rfl rfl, Or.inr ⟨_, rfl, rfl⟩⟩
theorem am_m_187 : am_mP 1 1 (⟨"LeaningWheelModel", "fault", "(I)I"⟩, prog_14_method_40_code, 2, some .int, 12) := ⟨by decide +kernel, am_wi 7 52 rfl rfl, ⟨ac_13.1, ac_13.2, ad_4⟩, ai_13, by decide, am_wi 7 50 rfl rfl, am_wi 7 51 rfl rfl, Or.inr ⟨_, rfl, rfl⟩⟩
theorem am_m_188 : am_mP 1 1 (⟨"LeaningWheelModel", "law", "(I)Z"⟩, prog_14_method_41_code, 2, some .boolean, 12) := ⟨by decide +kernel, am_wi 7 56 rfl rfl, ⟨ac_13.1, ac_13.2, ad_7⟩, ai_13, by decide, am_wi 7 54 rfl rfl, am_wi 7 55 rfl rfl, Or.inr ⟨_, rfl, rfl⟩⟩
theorem am_m_189 : am_mP 0 1 (⟨"LeaningWheelModel", "held", "(J)J"⟩, prog_14_method_42_code, 2, some .long, 12) := ⟨by decide +kernel, am_wi 7 86 rfl rfl, ⟨ac_13.1, ac_13.2, ad_31⟩, ai_13, by decide, am_wi 7 85 rfl rfl⟩
theorem am_m_190 : am_mP 0 3 (⟨"LeaningWheelModel", "two", "(IJJ)J"⟩, prog_14_method_43_code, 5, some .long, 12) := ⟨by decide +kernel, am_wi 7 83 rfl rfl, ⟨ac_13.1, ac_13.2, ad_26⟩, ai_13, by decide, am_wi 7 82 rfl rfl⟩
theorem am_m_191 : am_mP 1 3 (⟨"LeaningWheelModel", "valueOf", "(III)I"⟩, prog_14_method_44_code, 11, some .int, 12) := ⟨by decide +kernel, am_wi 7 80 rfl rfl, ⟨ac_13.1, ac_13.2, ad_11⟩, ai_13, by decide, am_wi 7 79 rfl rfl, am_wi 0 74 rfl rfl, Or.inr ⟨_, rfl, rfl⟩⟩
theorem am_m_192 : am_mP 1 1 (⟨"LeaningWheelModel", "ring", "(I)I"⟩, prog_14_method_45_code, 3, some .int, 12) := ⟨by decide +kernel, am_wi 7 76 rfl rfl, ⟨ac_13.1, ac_13.2, ad_4⟩, ai_13, by decide, am_wi 7 75 rfl rfl, am_wi 0 73 rfl rfl, Or.inr ⟨_, rfl, rfl⟩⟩
theorem am_m_193 : am_mP 1 5 (⟨"LeaningWheelModel", "roll", "(IIIII)V"⟩, prog_14_method_46_code, 11, none, 12) := ⟨by decide +kernel, am_wi 7 72 rfl rfl, ⟨ac_13.1, ac_13.2, ad_21⟩, ai_13, by decide, am_wi 7 71 rfl rfl, am_wi 0 72 rfl rfl, Or.inr ⟨_, rfl, rfl⟩⟩
theorem am_m_194 : am_mP 1 2 (⟨"LeaningWheelModel", "addOdds", "(II)V"⟩, prog_14_method_47_code, 10, none, 12) := ⟨by decide +kernel, am_wi 7 96 rfl rfl, ⟨ac_13.1, ac_13.2, ad_9⟩, ai_13, by decide, am_wi 7 95 rfl rfl, am_wi 0 76 rfl rfl, Or.inr ⟨_, rfl, rfl⟩⟩
theorem am_m_195 : am_mP 1 0 (⟨"LeaningWheelModel", "clearOdds", "()V"⟩, prog_14_method_48_code, 2, none, 12) := ⟨by decide +kernel, am_wi 7 92 rfl rfl, ⟨ac_13.1, ac_13.2, ad_1⟩, ai_13, by decide, am_wi 7 91 rfl rfl, am_wi 0 75 rfl rfl, Or.inr ⟨_, rfl, rfl⟩⟩
theorem am_m_196 : am_mP 1 1 (⟨"LeaningWheelModel", "isPoint", "(I)Z"⟩, prog_14_method_49_code, 2, some .boolean, 12) := ⟨by decide +kernel, am_wi 7 68 rfl rfl, ⟨ac_13.1, ac_13.2, ad_7⟩, ai_13, by decide, am_wi 7 67 rfl rfl, am_wi 0 71 rfl rfl, Or.inr ⟨_, rfl, rfl⟩⟩
theorem am_m_197 : am_mP 1 5 (⟨"LeaningWheelModel", "isDrop", "(IIIII)Z"⟩, prog_14_method_50_code, 6, some .boolean, 12) := ⟨by decide +kernel, am_wi 7 64 rfl rfl, ⟨ac_13.1, ac_13.2, ad_22⟩, ai_13, by decide, am_wi 7 63 rfl rfl, am_wi 0 70 rfl rfl, Or.inr ⟨_, rfl, rfl⟩⟩
theorem am_m_198 : am_mP 1 6 (⟨"LeaningWheelModel", "drop", "(IIIIII)I"⟩, prog_14_method_51_code, 7, some .int, 12) := ⟨by decide +kernel, am_wi 7 60 rfl rfl, ⟨ac_13.1, ac_13.2, ad_23⟩, ai_13, by decide, am_wi 7 58 rfl rfl, am_wi 7 59 rfl rfl, Or.inr ⟨_, rfl, rfl⟩⟩
theorem am_m_199 : am_mP 1 0 (⟨"LeaningWheelModel", "bestPocket", "()I"⟩, prog_14_method_52_code, 3, some .int, 12) := ⟨by decide +kernel, am_wi 7 105 rfl rfl, ⟨ac_13.1, ac_13.2, ad_0⟩, ai_13, by decide, am_wi 7 104 rfl rfl, am_wi 0 77 rfl rfl, Or.inr ⟨_, rfl, rfl⟩⟩
theorem am_m_200 : am_mP 1 6 (⟨"LeaningWheelModel", "foretold", "(IIIIII)I"⟩, prog_14_method_53_code, 9, some .int, 12) := ⟨by decide +kernel, am_wi 7 100 rfl rfl, ⟨ac_13.1, ac_13.2, ad_23⟩, ai_13, by decide, am_wi 7 98 rfl rfl, am_wi 7 99 rfl rfl, Or.inr ⟨_, rfl, rfl⟩⟩
theorem am_m_201 : am_mP 0 1 (⟨"LeaningWheelModel", "isHand", "(I)Z"⟩, prog_14_method_54_code, 1, some .boolean, 12) := ⟨by decide +kernel, am_wi 7 112 rfl rfl, ⟨ac_13.1, ac_13.2, ad_7⟩, ai_13, by decide, am_wi 7 111 rfl rfl⟩
theorem am_m_202 : am_mP 1 6 (⟨"LeaningWheelModel", "start", "(IIIIII)I"⟩, prog_14_method_55_code, 8, some .int, 12) := ⟨by decide +kernel, am_wi 7 109 rfl rfl, ⟨ac_13.1, ac_13.2, ad_23⟩, ai_13, by decide, am_wi 7 107 rfl rfl, am_wi 7 108 rfl rfl, Or.inr ⟨_, rfl, rfl⟩⟩
theorem am_m_203 : am_mP 1 3 (⟨"LeaningWheelModel", "odds", "(III)I"⟩, prog_14_method_56_code, 7, some .int, 12) := ⟨by decide +kernel, am_wi 7 116 rfl rfl, ⟨ac_13.1, ac_13.2, ad_11⟩, ai_13, by decide, am_wi 7 114 rfl rfl, am_wi 7 115 rfl rfl, Or.inr ⟨_, rfl, rfl⟩⟩
theorem am_m_204 : am_mP 1 2 (⟨"LeaningWheelModel", "put", "(II)V"⟩, prog_14_method_57_code, 5, none, 12) := ⟨by decide +kernel, am_wi 7 132 rfl rfl, ⟨ac_13.1, ac_13.2, ad_9⟩, ai_13, by decide, am_wi 7 131 rfl rfl, am_wi 0 80 rfl rfl, Or.inr ⟨_, rfl, rfl⟩⟩
theorem am_m_205 : am_mP 1 2 (⟨"LeaningWheelModel", "lay", "(II)V"⟩, prog_14_method_58_code, 4, none, 12) := ⟨by decide +kernel, am_wi 7 166 rfl rfl, ⟨ac_13.1, ac_13.2, ad_9⟩, ai_13, by decide, am_wi 7 165 rfl rfl, am_wi 0 88 rfl rfl, Or.inr ⟨_, rfl, rfl⟩⟩
theorem am_m_206 : am_mP 1 2 (⟨"LeaningWheelModel", "times", "(II)V"⟩, prog_14_method_59_code, 7, none, 12) := ⟨by decide +kernel, am_wi 7 140 rfl rfl, ⟨ac_13.1, ac_13.2, ad_9⟩, ai_13, by decide, am_wi 7 139 rfl rfl, am_wi 0 82 rfl rfl, Or.inr ⟨_, rfl, rfl⟩⟩
theorem am_m_207 : am_mP 1 3 (⟨"LeaningWheelModel", "add", "(III)V"⟩, prog_14_method_60_code, 7, none, 12) := ⟨by decide +kernel, am_wi 7 145 rfl rfl, ⟨ac_13.1, ac_13.2, ad_13⟩, ai_13, by decide, am_wi 7 144 rfl rfl, am_wi 0 83 rfl rfl, Or.inr ⟨_, rfl, rfl⟩⟩
theorem am_m_208 : am_mP 1 2 (⟨"LeaningWheelModel", "compare", "(II)I"⟩, prog_14_method_61_code, 4, some .int, 12) := ⟨by decide +kernel, am_wi 7 170 rfl rfl, ⟨ac_13.1, ac_13.2, ad_8⟩, ai_13, by decide, am_wi 7 169 rfl rfl, am_wi 0 89 rfl rfl, Or.inr ⟨_, rfl, rfl⟩⟩
theorem am_m_209 : am_mP 1 3 (⟨"LeaningWheelModel", "product", "(III)V"⟩, prog_14_method_62_code, 9, none, 12) := ⟨by decide +kernel, am_wi 8 33 rfl rfl, ⟨ac_13.1, ac_13.2, ad_13⟩, ai_13, by decide, am_wi 8 32 rfl rfl, am_wi 0 102 rfl rfl, Or.inr ⟨_, rfl, rfl⟩⟩
theorem am_m_210 : am_mP 1 2 (⟨"LeaningWheelModel", "into", "(II)I"⟩, prog_14_method_63_code, 6, some .int, 12) := ⟨by decide +kernel, am_wi 7 162 rfl rfl, ⟨ac_13.1, ac_13.2, ad_8⟩, ai_13, by decide, am_wi 7 161 rfl rfl, am_wi 0 87 rfl rfl, Or.inr ⟨_, rfl, rfl⟩⟩
theorem am_m_211 : am_mP 1 3 (⟨"LeaningWheelModel", "power", "(III)V"⟩, prog_14_method_64_code, 5, none, 12) := ⟨by decide +kernel, am_wi 7 153 rfl rfl, ⟨ac_13.1, ac_13.2, ad_13⟩, ai_13, by decide, am_wi 7 152 rfl rfl, am_wi 0 85 rfl rfl, Or.inr ⟨_, rfl, rfl⟩⟩
theorem am_m_212 : am_mP 1 4 (⟨"LeaningWheelModel", "tryMore", "(IIII)V"⟩, prog_14_method_65_code, 6, none, 12) := ⟨by decide +kernel, am_wi 7 136 rfl rfl, ⟨ac_13.1, ac_13.2, ad_17⟩, ai_13, by decide, am_wi 7 135 rfl rfl, am_wi 0 81 rfl rfl, Or.inr ⟨_, rfl, rfl⟩⟩
theorem am_m_213 : am_mP 1 3 (⟨"LeaningWheelModel", "tryAll", "(III)V"⟩, prog_14_method_66_code, 5, none, 12) := ⟨by decide +kernel, am_wi 7 128 rfl rfl, ⟨ac_13.1, ac_13.2, ad_13⟩, ai_13, by decide, am_wi 7 127 rfl rfl, am_wi 0 79 rfl rfl, Or.inr ⟨_, rfl, rfl⟩⟩
theorem am_m_214 : am_mP 1 4 (⟨"LeaningWheelModel", "sum", "(IIII)V"⟩, prog_14_method_67_code, 6, none, 12) := ⟨by decide +kernel, am_wi 7 149 rfl rfl, ⟨ac_13.1, ac_13.2, ad_17⟩, ai_13, by decide, am_wi 7 148 rfl rfl, am_wi 0 84 rfl rfl, Or.inr ⟨_, rfl, rfl⟩⟩
theorem am_m_215 : am_mP 1 3 (⟨"LeaningWheelModel", "tail", "(III)V"⟩, prog_14_method_68_code, 4, none, 12) := ⟨by decide +kernel, am_wi 7 124 rfl rfl, ⟨ac_13.1, ac_13.2, ad_13⟩, ai_13, by decide, am_wi 7 123 rfl rfl, am_wi 0 78 rfl rfl, Or.inr ⟨_, rfl, rfl⟩⟩
theorem am_m_216 : am_mP 1 0 (⟨"LeaningWheelModel", "millionths", "()I"⟩, prog_14_method_69_code, 1, some .int, 12) := ⟨by decide +kernel, am_wi 7 157 rfl rfl, ⟨ac_13.1, ac_13.2, ad_0⟩, ai_13, by decide, am_wi 7 156 rfl rfl, am_wi 0 86 rfl rfl, Or.inr ⟨_, rfl, rfl⟩⟩
theorem am_m_217 : am_mP 1 3 (⟨"LeaningWheelModel", "above", "(III)I"⟩, prog_14_method_70_code, 4, some .int, 12) := ⟨by decide +kernel, am_wi 7 120 rfl rfl, ⟨ac_13.1, ac_13.2, ad_11⟩, ai_13, by decide, am_wi 7 118 rfl rfl, am_wi 7 119 rfl rfl, Or.inr ⟨_, rfl, rfl⟩⟩
theorem am_m_218 : am_mP 1 1 (⟨"LeaningWheelModel", "setsOf", "(I)I"⟩, prog_14_method_71_code, 5, some .int, 12) := ⟨by decide +kernel, am_wi 7 178 rfl rfl, ⟨ac_13.1, ac_13.2, ad_4⟩, ai_13, by decide, am_wi 7 177 rfl rfl, am_wi 0 90 rfl rfl, Or.inr ⟨_, rfl, rfl⟩⟩
theorem am_m_219 : am_mP 1 3 (⟨"LeaningWheelModel", "among", "(III)I"⟩, prog_14_method_72_code, 4, some .int, 12) := ⟨by decide +kernel, am_wi 7 174 rfl rfl, ⟨ac_13.1, ac_13.2, ad_11⟩, ai_13, by decide, am_wi 7 172 rfl rfl, am_wi 7 173 rfl rfl, Or.inr ⟨_, rfl, rfl⟩⟩
theorem am_m_220 : am_mP 1 5 (⟨"LeaningWheelModel", "isLikely", "(IIIII)Z"⟩, prog_14_method_73_code, 6, some .boolean, 12) := ⟨by decide +kernel, am_wi 7 189 rfl rfl, ⟨ac_13.1, ac_13.2, ad_22⟩, ai_13, by decide, am_wi 7 188 rfl rfl, am_wi 0 91 rfl rfl, Or.inr ⟨_, rfl, rfl⟩⟩
theorem am_m_221 : am_mP 0 1 (⟨"LeaningWheelModel", "isTold", "(I)Z"⟩, prog_14_method_74_code, 1, some .boolean, 12) := ⟨by decide +kernel, am_wi 7 185 rfl rfl, ⟨ac_13.1, ac_13.2, ad_7⟩, ai_13, by decide, am_wi 7 184 rfl rfl⟩
theorem am_m_222 : am_mP 1 4 (⟨"LeaningWheelModel", "span", "(IIIZ)I"⟩, prog_14_method_75_code, 9, some .int, 12) := ⟨by decide +kernel, am_wi 7 182 rfl rfl, ⟨ac_13.1, ac_13.2, ad_25⟩, ai_13, by decide, am_wi 7 180 rfl rfl, am_wi 7 181 rfl rfl, Or.inr ⟨_, rfl, rfl⟩⟩
theorem am_m_223 : am_mP 0 1 (⟨"LeaningWheelModel", "isThousandth", "(I)Z"⟩, prog_14_method_76_code, 1, some .boolean, 12) := ⟨by decide +kernel, am_wi 7 196 rfl rfl, ⟨ac_13.1, ac_13.2, ad_7⟩, ai_13, by decide, am_wi 7 195 rfl rfl⟩
theorem am_m_224 : am_mP 1 4 (⟨"LeaningWheelModel", "need", "(IIII)I"⟩, prog_14_method_77_code, 8, some .int, 12) := ⟨by decide +kernel, am_wi 7 193 rfl rfl, ⟨ac_13.1, ac_13.2, ad_15⟩, ai_13, by decide, am_wi 7 191 rfl rfl, am_wi 7 192 rfl rfl, Or.inr ⟨_, rfl, rfl⟩⟩
theorem am_m_225 : am_mP 1 4 (⟨"LeaningWheelModel", "write", "(IIII)I"⟩, prog_14_method_78_code, 7, some .int, 12) := ⟨by decide +kernel, am_wi 7 200 rfl rfl, ⟨ac_13.1, ac_13.2, ad_15⟩, ai_13, by decide, am_wi 7 198 rfl rfl, am_wi 7 199 rfl rfl, Or.inr ⟨_, rfl, rfl⟩⟩
theorem am_m_226 : am_mP 1 3 (⟨"LeaningWheelModel", "scratch", "(III)Z"⟩, prog_14_method_79_code, 4, some .boolean, 12) := ⟨by decide +kernel, am_wi 7 204 rfl rfl, ⟨ac_13.1, ac_13.2, ad_14⟩, ai_13, by decide, am_wi 7 202 rfl rfl, am_wi 7 203 rfl rfl, Or.inr ⟨_, rfl, rfl⟩⟩
theorem am_m_227 : am_mP 1 3 (⟨"LeaningWheelModel", "isSpin", "(III)Z"⟩, prog_14_method_80_code, 4, some .boolean, 12) := ⟨by decide +kernel, am_wi 7 224 rfl rfl, ⟨ac_13.1, ac_13.2, ad_14⟩, ai_13, by decide, am_wi 7 223 rfl rfl, am_wi 0 95 rfl rfl, Or.inr ⟨_, rfl, rfl⟩⟩
theorem am_m_228 : am_mP 1 2 (⟨"LeaningWheelModel", "spins", "(II)I"⟩, prog_14_method_81_code, 5, some .int, 12) := ⟨by decide +kernel, am_wi 7 220 rfl rfl, ⟨ac_13.1, ac_13.2, ad_8⟩, ai_13, by decide, am_wi 7 219 rfl rfl, am_wi 0 94 rfl rfl, Or.inr ⟨_, rfl, rfl⟩⟩
theorem am_m_229 : am_mP 1 1 (⟨"LeaningWheelModel", "leans", "(I)I"⟩, prog_14_method_82_code, 4, some .int, 12) := ⟨by decide +kernel, am_wi 7 236 rfl rfl, ⟨ac_13.1, ac_13.2, ad_4⟩, ai_13, by decide, am_wi 7 235 rfl rfl, am_wi 0 98 rfl rfl, Or.inr ⟨_, rfl, rfl⟩⟩
theorem am_m_230 : am_mP 1 1 (⟨"LeaningWheelModel", "isScratched", "(I)Z"⟩, prog_14_method_83_code, 5, some .boolean, 12) := ⟨by decide +kernel, am_wi 7 228 rfl rfl, ⟨ac_13.1, ac_13.2, ad_7⟩, ai_13, by decide, am_wi 7 227 rfl rfl, am_wi 0 96 rfl rfl, Or.inr ⟨_, rfl, rfl⟩⟩
theorem am_m_231 : am_mP 1 1 (⟨"LeaningWheelModel", "isWay", "(I)Z"⟩, prog_14_method_84_code, 4, some .boolean, 12) := ⟨by decide +kernel, am_wi 7 216 rfl rfl, ⟨ac_13.1, ac_13.2, ad_7⟩, ai_13, by decide, am_wi 7 215 rfl rfl, am_wi 0 93 rfl rfl, Or.inr ⟨_, rfl, rfl⟩⟩
theorem am_m_232 : am_mP 1 1 (⟨"LeaningWheelModel", "likeliness", "(I)V"⟩, prog_14_method_85_code, 6, none, 12) := ⟨by decide +kernel, am_wi 7 232 rfl rfl, ⟨ac_13.1, ac_13.2, ad_6⟩, ai_13, by decide, am_wi 7 231 rfl rfl, am_wi 0 97 rfl rfl, Or.inr ⟨_, rfl, rfl⟩⟩
theorem am_m_233 : am_mP 1 1 (⟨"LeaningWheelModel", "findWays", "(I)V"⟩, prog_14_method_86_code, 4, none, 12) := ⟨by decide +kernel, am_wi 7 212 rfl rfl, ⟨ac_13.1, ac_13.2, ad_6⟩, ai_13, by decide, am_wi 7 211 rfl rfl, am_wi 0 92 rfl rfl, Or.inr ⟨_, rfl, rfl⟩⟩
theorem am_m_234 : am_mP 1 2 (⟨"LeaningWheelModel", "which", "(II)I"⟩, prog_14_method_87_code, 3, some .int, 12) := ⟨by decide +kernel, am_wi 7 208 rfl rfl, ⟨ac_13.1, ac_13.2, ad_8⟩, ai_13, by decide, am_wi 7 206 rfl rfl, am_wi 7 207 rfl rfl, Or.inr ⟨_, rfl, rfl⟩⟩
theorem am_m_235 : am_mP 1 1 (⟨"LeaningWheelModel", "fall", "(I)V"⟩, prog_14_method_88_code, 5, none, 12) := ⟨by decide +kernel, am_wi 8 4 rfl rfl, ⟨ac_13.1, ac_13.2, ad_6⟩, ai_13, by decide, am_wi 8 3 rfl rfl, am_wi 0 99 rfl rfl, Or.inr ⟨_, rfl, rfl⟩⟩
theorem am_m_236 : am_mP 1 2 (⟨"LeaningWheelModel", "falls", "(II)I"⟩, prog_14_method_89_code, 3, some .int, 12) := ⟨by decide +kernel, am_wi 8 0 rfl rfl, ⟨ac_13.1, ac_13.2, ad_8⟩, ai_13, by decide, am_wi 7 238 rfl rfl, am_wi 7 239 rfl rfl, Or.inr ⟨_, rfl, rfl⟩⟩
theorem am_m_237 : am_mP 1 1 (⟨"LeaningWheelModel", "pickMost", "(I)I"⟩, prog_14_method_90_code, 6, some .int, 12) := ⟨by decide +kernel, am_wi 8 12 rfl rfl, ⟨ac_13.1, ac_13.2, ad_4⟩, ai_13, by decide, am_wi 8 11 rfl rfl, am_wi 0 100 rfl rfl, Or.inr ⟨_, rfl, rfl⟩⟩
theorem am_m_238 : am_mP 1 3 (⟨"LeaningWheelModel", "nine", "(III)I"⟩, prog_14_method_91_code, 7, some .int, 12) := ⟨by decide +kernel, am_wi 8 8 rfl rfl, ⟨ac_13.1, ac_13.2, ad_11⟩, ai_13, by decide, am_wi 8 6 rfl rfl, am_wi 8 7 rfl rfl, Or.inr ⟨_, rfl, rfl⟩⟩
theorem am_m_239 : am_mP 1 3 (⟨"LeaningWheelModel", "habit", "(III)I"⟩, prog_14_method_92_code, 11, some .int, 12) := ⟨by decide +kernel, am_wi 8 17 rfl rfl, ⟨ac_13.1, ac_13.2, ad_11⟩, ai_13, by decide, am_wi 8 15 rfl rfl, am_wi 8 16 rfl rfl, Or.inr ⟨_, rfl, rfl⟩⟩
theorem am_m_240 : am_mP 1 5 (⟨"LeaningWheelModel", "bets", "(IIIII)V"⟩, prog_14_method_93_code, 9, none, 12) := ⟨by decide +kernel, am_wi 8 25 rfl rfl, ⟨ac_13.1, ac_13.2, ad_21⟩, ai_13, by decide, am_wi 8 24 rfl rfl, am_wi 0 101 rfl rfl, Or.inr ⟨_, rfl, rfl⟩⟩
theorem am_m_241 : am_mP 1 5 (⟨"LeaningWheelModel", "goal", "(IIIII)I"⟩, prog_14_method_94_code, 7, some .int, 12) := ⟨by decide +kernel, am_wi 8 21 rfl rfl, ⟨ac_13.1, ac_13.2, ad_19⟩, ai_13, by decide, am_wi 8 19 rfl rfl, am_wi 8 20 rfl rfl, Or.inr ⟨_, rfl, rfl⟩⟩
theorem am_m_242 : am_mP 1 4 (⟨"LeaningWheelModel", "luck", "(IIII)I"⟩, prog_14_method_95_code, 8, some .int, 12) := ⟨by decide +kernel, am_wi 8 29 rfl rfl, ⟨ac_13.1, ac_13.2, ad_15⟩, ai_13, by decide, am_wi 8 27 rfl rfl, am_wi 8 28 rfl rfl, Or.inr ⟨_, rfl, rfl⟩⟩
theorem am_m_243 : am_mP 1 5 (⟨"LeaningWheelModel", "run", "(IIIII)I"⟩, prog_14_method_96_code, 11, some .int, 12) := ⟨by decide +kernel, am_wi 8 37 rfl rfl, ⟨ac_13.1, ac_13.2, ad_19⟩, ai_13, by decide, am_wi 8 35 rfl rfl, am_wi 8 36 rfl rfl, Or.inr ⟨_, rfl, rfl⟩⟩
theorem am_m_244 : am_mP 1 3 (⟨"LeaningWheelModel", "bet", "(III)I"⟩, prog_14_method_97_code, 5, some .int, 12) := ⟨by decide +kernel, am_wi 8 42 rfl rfl, ⟨ac_13.1, ac_13.2, ad_11⟩, ai_13, by decide, am_wi 8 40 rfl rfl, am_wi 8 41 rfl rfl, Or.inr ⟨_, rfl, rfl⟩⟩
theorem am_m_245 : am_mP 1 2 (⟨"LeaningWheelModel", "watched", "(II)I"⟩, prog_14_method_98_code, 7, some .int, 12) := ⟨by decide +kernel, am_wi 8 46 rfl rfl, ⟨ac_13.1, ac_13.2, ad_8⟩, ai_13, by decide, am_wi 8 44 rfl rfl, am_wi 8 45 rfl rfl, Or.inr ⟨_, rfl, rfl⟩⟩
theorem am_m_246 : am_mP 1 5 (⟨"LeaningWheelModel", "house", "(IIIII)I"⟩, prog_14_method_99_code, 12, some .int, 12) := ⟨by decide +kernel, am_wi 8 51 rfl rfl, ⟨ac_13.1, ac_13.2, ad_19⟩, ai_13, by decide, am_wi 8 49 rfl rfl, am_wi 8 50 rfl rfl, Or.inr ⟨_, rfl, rfl⟩⟩
theorem am_m_247 : am_mP 1 2 (⟨"LeaningWheelModel", "seen", "(II)I"⟩, prog_14_method_100_code, 3, some .int, 12) := ⟨by decide +kernel, am_wi 8 55 rfl rfl, ⟨ac_13.1, ac_13.2, ad_8⟩, ai_13, by decide, am_wi 8 53 rfl rfl, am_wi 8 54 rfl rfl, Or.inr ⟨_, rfl, rfl⟩⟩
theorem am_m_248 : am_mP 1 1 (⟨"LeaningWheelModel", "shoe", "(I)I"⟩, prog_14_method_101_code, 9, some .int, 12) := ⟨by decide +kernel, am_wi 8 59 rfl rfl, ⟨ac_13.1, ac_13.2, ad_4⟩, ai_13, by decide, am_wi 8 57 rfl rfl, am_wi 8 58 rfl rfl, Or.inr ⟨_, rfl, rfl⟩⟩
theorem am_m_249 : am_mP 1 0 (⟨"LeaningWheelModel", "image", "()I"⟩, prog_14_method_102_code, 1, some .int, 12) := ⟨by decide +kernel, am_wi 8 66 rfl rfl, ⟨ac_13.1, ac_13.2, ad_0⟩, ai_13, by decide, am_wi 8 64 rfl rfl, am_wi 8 65 rfl rfl, Or.inr ⟨_, rfl, rfl⟩⟩
theorem am_m_250 : am_mP 1 0 (⟨"LeaningWheelModel", "back", "()I"⟩, prog_14_method_103_code, 1, some .int, 12) := ⟨by decide +kernel, am_wi 8 70 rfl rfl, ⟨ac_13.1, ac_13.2, ad_0⟩, ai_13, by decide, am_wi 8 68 rfl rfl, am_wi 8 69 rfl rfl, Or.inr ⟨_, rfl, rfl⟩⟩
theorem am_m_251 : am_mP 1 1 (⟨"LeaningWheelModel", "about", "(I)I"⟩, prog_14_method_104_code, 2, some .int, 12) := ⟨by decide +kernel, am_wi 8 74 rfl rfl, ⟨ac_13.1, ac_13.2, ad_4⟩, ai_13, by decide, am_wi 8 72 rfl rfl, am_wi 8 73 rfl rfl, Or.inr ⟨_, rfl, rfl⟩⟩
theorem am_m_252 : am_mP 0 2 (⟨"LeaningWheelLaw", "cell", "([II)I"⟩, method_2_code, 2, some .int, 98) := ⟨by decide +kernel, am_wi 6 30 rfl rfl, ⟨ac_12.1, ac_12.2, ad_50⟩, ai_12, by decide, am_wi 6 29 rfl rfl⟩
theorem am_m_253 : am_mP 0 2 (⟨"java/lang/Math", "floorMod", "(II)I"⟩, prog_15_method_50_code, 3, some .int, 98) := ⟨by decide +kernel, am_wi 4 95 rfl rfl, ⟨ac_14.1, ac_14.2, ad_8⟩, ai_14, by decide, am_wi 4 94 rfl rfl⟩
theorem am_m_254 : am_mP 0 1 (⟨"java/lang/Math", "abs", "(I)I"⟩, prog_15_method_59_code, 1, some .int, 98) := ⟨by decide +kernel, am_wi 5 239 rfl rfl, ⟨ac_14.1, ac_14.2, ad_4⟩, ai_14, by decide, am_wi 5 238 rfl rfl⟩
theorem am_m_255 : am_mP 0 2 (⟨"java/lang/Math", "max", "(II)I"⟩, prog_15_method_65_code, 2, some .int, 98) := ⟨by decide +kernel, am_wi 1 34 rfl rfl, ⟨ac_14.1, ac_14.2, ad_8⟩, ai_14, by decide, am_wi 1 33 rfl rfl⟩
theorem am_m_256 : am_mP 0 2 (⟨"java/lang/Math", "max", "(JJ)J"⟩, prog_15_method_66_code, 4, some .long, 98) := ⟨by decide +kernel, am_wi 4 90 rfl rfl, ⟨ac_14.1, ac_14.2, ad_33⟩, ai_14, by decide, am_wi 4 89 rfl rfl⟩
theorem am_m_257 : am_mP 0 2 (⟨"java/lang/Math", "min", "(II)I"⟩, prog_15_method_69_code, 2, some .int, 98) := ⟨by decide +kernel, am_wi 1 31 rfl rfl, ⟨ac_14.1, ac_14.2, ad_8⟩, ai_14, by decide, am_wi 1 30 rfl rfl⟩
theorem am_m_258 : am_mP 0 2 (⟨"java/lang/Math", "min", "(JJ)J"⟩, prog_15_method_70_code, 4, some .long, 98) := ⟨by decide +kernel, am_wi 4 87 rfl rfl, ⟨ac_14.1, ac_14.2, ad_33⟩, ai_14, by decide, am_wi 4 86 rfl rfl⟩
theorem am_m_259 : am_mP 0 2 (⟨"java/util/Arrays", "fill", "([II)V"⟩, prog_20_method_103_code, 4, none, 98) := ⟨by decide +kernel, am_wi 1 43 rfl rfl, ⟨ac_17.1, ac_17.2, ad_51⟩, ai_17, by decide, am_wi 1 42 rfl rfl⟩
theorem am_m_l : am_mP 1 0 am_Ml := ⟨by decide +kernel, am_wi 3 177 rfl rfl, ⟨ac_15.1, ac_15.2, ad_0⟩, ai_15, by decide, am_wi 3 175 rfl rfl, am_wi 3 176 rfl rfl, Or.inl ⟨rfl, rfl⟩⟩
theorem am_m_c : am_mP 1 1 am_Mc := ⟨by decide +kernel, am_wi 3 187 rfl rfl, ⟨ac_15.1, ac_15.2, ad_3⟩, ai_15, by decide, am_wi 3 185 rfl rfl, am_wi 3 186 rfl rfl, Or.inl ⟨rfl, rfl⟩⟩
def am_all2 : List am_M → List (Nat × Nat) → Prop
  | [], [] => True
  | M :: t, k :: u => am_mP k.1 k.2 M ∧ am_all2 t u
  | _, _ => False
theorem am_all2_get : ∀ {l : List am_M} {u : List (Nat × Nat)} {k : Nat} {M : am_M}, am_all2 l u → l[k]? = some M → ∃ q, u[k]? = some q ∧ am_mP q.1 q.2 M
  | [], _, _, _, _, h => by simp at h
  | M :: t, [], _, _, h0, _ => h0.elim
  | M :: t, q :: u, 0, M', h0, h => by cases h; exact ⟨q, rfl, h0.1⟩
  | M :: t, q :: u, k + 1, M', h0, h => am_all2_get (l := t) (u := u) (k := k) h0.2 (by simpa using h)
theorem am_all2_app : ∀ {a : List am_M} {b : List (Nat × Nat)} {c : List am_M} {d : List (Nat × Nat)}, am_all2 a b → am_all2 c d → am_all2 (a ++ c) (b ++ d)
  | [], [], _, _, _, h => h
  | M :: t, k :: u, _, _, h1, h2 => ⟨h1.1, am_all2_app h1.2 h2⟩
  | [], _ :: _, _, _, h, _ => h.elim
  | _ :: _, [], _, _, h, _ => h.elim
def am_mkn : List (Nat × Nat) := [(2, 3), (1, 5), (1, 3), (1, 1), (2, 0), (1, 1), (1, 1), (1, 1), (1, 2), (1, 1), (1, 1), (1, 1), (1, 1), (1, 3), (1, 1), (1, 1), (1, 0), (2, 0), (1, 1), (1, 2), (1, 1), (1, 3), (1, 2), (1, 1), (1, 1), (2, 1), (1, 1), (1, 4), (1, 3), (1, 4), (1, 3), (1, 3), (1, 4), (1, 4), (1, 3), (0, 3), (1, 4), (2, 0), (1, 4), (1, 1), (1, 1), (0, 3), (0, 1), (2, 0), (1, 5), (1, 3), (1, 4), (1, 4), (0, 3), (1, 1), (1, 4), (2, 3), (1, 5), (1, 1), (1, 2), (1, 0), (2, 0), (1, 0), (1, 1), (1, 1), (1, 0), (1, 1), (1, 1), (1, 1), (1, 0), (1, 1), (1, 2), (1, 1), (1, 1), (1, 1), (1, 1), (1, 0), (0, 1), (0, 1), (0, 1), (1, 0), (0, 1), (2, 0), (1, 1), (1, 2), (2, 1), (1, 1), (1, 1), (2, 2), (1, 0), (1, 2), (1, 1), (1, 2), (1, 1), (1, 3), (1, 3), (1, 1), (1, 3), (1, 3), (1, 1), (2, 1), (1, 4), (1, 6), (1, 2), (1, 5), (1, 1), (1, 5), (1, 1), (1, 0), (1, 1), (1, 1), (1, 6), (1, 6), (1, 6), (1, 3), (1, 4), (1, 3), (1, 2), (1, 2), (1, 3), (1, 3), (1, 3), (1, 4), (1, 4), (1, 3), (1, 5), (1, 4), (1, 5), (1, 3), (1, 2), (1, 5), (1, 2), (1, 1), (1, 0), (1, 0), (1, 1), (0, 3), (0, 1), (0, 1), (0, 2), (0, 2), (0, 5), (1, 1), (1, 1), (1, 1), (1, 4), (1, 5), (1, 1), (1, 1), (1, 1), (1, 1), (1, 1), (1, 1), (1, 2), (2, 1), (0, 2), (0, 3), (0, 1), (0, 1), (1, 1), (1, 4), (0, 1), (1, 6), (1, 2), (1, 5), (1, 1), (1, 1), (1, 5), (1, 1), (1, 1), (0, 1), (0, 1), (1, 0), (0, 3), (0, 5), (0, 4), (1, 1), (1, 2), (1, 1), (1, 0), (1, 1), (1, 0), (1, 0), (1, 0), (1, 0), (1, 0), (1, 0), (1, 0), (1, 0), (1, 0), (1, 0), (1, 0), (1, 1), (1, 1), (0, 1), (0, 3), (1, 3), (1, 1), (1, 5), (1, 2), (1, 0), (1, 1), (1, 5), (1, 6), (1, 0), (1, 6), (0, 1), (1, 6), (1, 3), (1, 2), (1, 2), (1, 2), (1, 3), (1, 2), (1, 3), (1, 2), (1, 3), (1, 4), (1, 3), (1, 4), (1, 3), (1, 0), (1, 3), (1, 1), (1, 3), (1, 5), (0, 1), (1, 4), (0, 1), (1, 4), (1, 4), (1, 3), (1, 3), (1, 2), (1, 1), (1, 1), (1, 1), (1, 1), (1, 1), (1, 2), (1, 1), (1, 2), (1, 1), (1, 3), (1, 3), (1, 5), (1, 5), (1, 4), (1, 5), (1, 3), (1, 2), (1, 5), (1, 2), (1, 1), (1, 0), (1, 0), (1, 1), (0, 2), (0, 2), (0, 1), (0, 2), (0, 2), (0, 2), (0, 2), (0, 2)]
def am_msc_0 : List am_M := [(⟨"LeaningWheel$Ball", "<init>", "(LLeaningWheel$Wheels;LLeaningWheel$Texts;LLeaningWheel$Machine;)V"⟩, prog_2_method_1_code, 4, none, 0), (⟨"LeaningWheel$Ball", "roll", "(IIIII)V"⟩, prog_2_method_2_code, 11, none, 0), (⟨"LeaningWheel$Ball", "see", "(III)V"⟩, prog_2_method_3_code, 4, none, 0), (⟨"LeaningWheel$Ball", "skip", "(I)V"⟩, prog_2_method_4_code, 9, none, 0), (⟨"LeaningWheel$Big", "<init>", "()V"⟩, prog_3_method_1_code, 1, none, 1), (⟨"LeaningWheel$Big", "set", "(I)V"⟩, prog_3_method_2_code, 2, none, 1), (⟨"LeaningWheel$Big", "set", "(LLeaningWheel$Big;)V"⟩, prog_3_method_3_code, 2, none, 1), (⟨"LeaningWheel$Big", "times", "(I)V"⟩, prog_3_method_4_code, 7, none, 1), (⟨"LeaningWheel$Big", "times", "(LLeaningWheel$Big;LLeaningWheel$Big;)V"⟩, prog_3_method_5_code, 12, none, 1), (⟨"LeaningWheel$Big", "over", "(I)V"⟩, prog_3_method_6_code, 7, none, 1), (⟨"LeaningWheel$Big", "plus", "(LLeaningWheel$Big;)V"⟩, prog_3_method_7_code, 7, none, 1), (⟨"LeaningWheel$Big", "minus", "(LLeaningWheel$Big;)V"⟩, prog_3_method_8_code, 7, none, 1), (⟨"LeaningWheel$Big", "reaches", "(LLeaningWheel$Big;)Z"⟩, prog_3_method_9_code, 3, some .boolean, 1), (⟨"LeaningWheel$Big", "share", "(LLeaningWheel$Big;ILLeaningWheel$Big;)I"⟩, prog_3_method_10_code, 6, some .int, 1), (⟨"LeaningWheel$Big", "grow", "(I)V"⟩, prog_3_method_11_code, 2, none, 1), (⟨"LeaningWheel$Big", "push", "(I)V"⟩, prog_3_method_12_code, 2, none, 1), (⟨"LeaningWheel$Big", "trim", "()V"⟩, prog_3_method_13_code, 1, none, 1), (⟨"LeaningWheel$Book", "<init>", "()V"⟩, prog_4_method_1_code, 1, none, 2), (⟨"LeaningWheel$Book", "take", "(LLeaningWheel$Book;)V"⟩, prog_4_method_2_code, 2, none, 2), (⟨"LeaningWheel$Book", "startAt", "(II)I"⟩, prog_4_method_3_code, 3, some .int, 2)]
def am_mkc_0 : List (Nat × Nat) := [(2, 3), (1, 5), (1, 3), (1, 1), (2, 0), (1, 1), (1, 1), (1, 1), (1, 2), (1, 1), (1, 1), (1, 1), (1, 1), (1, 3), (1, 1), (1, 1), (1, 0), (2, 0), (1, 1), (1, 2)]
theorem am_a2_0 : am_all2 am_msc_0 am_mkc_0 := ⟨am_m_0, am_m_1, am_m_2, am_m_3, am_m_4, am_m_5, am_m_6, am_m_7, am_m_8, am_m_9, am_m_10, am_m_11, am_m_12, am_m_13, am_m_14, am_m_15, am_m_16, am_m_17, am_m_18, am_m_19, trivial⟩
def am_msc_1 : List am_M := [(⟨"LeaningWheel$Book", "writtenIn", "(I)I"⟩, prog_4_method_4_code, 4, some .int, 2), (⟨"LeaningWheel$Book", "fellAt", "(III)Z"⟩, prog_4_method_5_code, 4, some .boolean, 2), (⟨"LeaningWheel$Book", "hasBet", "(II)Z"⟩, prog_4_method_6_code, 4, some .boolean, 2), (⟨"LeaningWheel$Book", "betsOf", "(I)I"⟩, prog_4_method_7_code, 4, some .int, 2), (⟨"LeaningWheel$Book", "betsWon", "(I)I"⟩, prog_4_method_8_code, 4, some .int, 2), (⟨"LeaningWheel$Chances", "<init>", "(I)V"⟩, prog_5_method_1_code, 2, none, 3), (⟨"LeaningWheel$Chances", "sets", "(I)I"⟩, prog_5_method_2_code, 5, some .int, 3), (⟨"LeaningWheel$Chances", "even", "(IIII)I"⟩, prog_5_method_3_code, 5, some .int, 3), (⟨"LeaningWheel$Chances", "least", "(III)I"⟩, prog_5_method_4_code, 7, some .int, 3), (⟨"LeaningWheel$Chances", "isLikely", "(IIII)Z"⟩, prog_5_method_5_code, 5, some .boolean, 3), (⟨"LeaningWheel$Chances", "seek", "(III)V"⟩, prog_5_method_6_code, 6, none, 3), (⟨"LeaningWheel$Chances", "isRare", "(III)Z"⟩, prog_5_method_7_code, 4, some .boolean, 3), (⟨"LeaningWheel$Chances", "isSure", "(IIII)Z"⟩, prog_5_method_8_code, 5, some .boolean, 3), (⟨"LeaningWheel$Chances", "luckyDays", "(IIII)I"⟩, prog_5_method_9_code, 7, some .int, 3), (⟨"LeaningWheel$Chances", "multiply", "(LLeaningWheel$Big;LLeaningWheel$Big;I)V"⟩, prog_5_method_10_code, 5, none, 3), (⟨"LeaningWheel$Chances", "raise", "(LLeaningWheel$Big;II)V"⟩, prog_5_method_11_code, 4, none, 3), (⟨"LeaningWheel$Chances", "addUp", "(IIII)V"⟩, prog_5_method_12_code, 6, none, 3), (⟨"LeaningWheel$Machine", "<init>", "()V"⟩, prog_6_method_1_code, 1, none, 4), (⟨"LeaningWheel$Machine", "work", "(LLeaningWheel$Texts;III)I"⟩, prog_6_method_2_code, 7, some .int, 4), (⟨"LeaningWheel$Machine", "step", "(I)V"⟩, prog_6_method_3_code, 3, none, 4)]
def am_mkc_1 : List (Nat × Nat) := [(1, 1), (1, 3), (1, 2), (1, 1), (1, 1), (2, 1), (1, 1), (1, 4), (1, 3), (1, 4), (1, 3), (1, 3), (1, 4), (1, 4), (1, 3), (0, 3), (1, 4), (2, 0), (1, 4), (1, 1)]
theorem am_a2_1 : am_all2 am_msc_1 am_mkc_1 := ⟨am_m_20, am_m_21, am_m_22, am_m_23, am_m_24, am_m_25, am_m_26, am_m_27, am_m_28, am_m_29, am_m_30, am_m_31, am_m_32, am_m_33, am_m_34, am_m_35, am_m_36, am_m_37, am_m_38, am_m_39, trivial⟩
def am_msc_2 : List am_M := [(⟨"LeaningWheel$Machine", "push", "(I)V"⟩, prog_6_method_4_code, 2, none, 4), (⟨"LeaningWheel$Machine", "join", "(III)I"⟩, prog_6_method_5_code, 3, some .int, 4), (⟨"LeaningWheel$Machine", "limited", "(J)I"⟩, prog_6_method_6_code, 2, some .int, 4), (⟨"LeaningWheel$Planner", "<init>", "()V"⟩, prog_7_method_1_code, 1, none, 5), (⟨"LeaningWheel$Planner", "reach", "(IIIII)V"⟩, prog_7_method_2_code, 8, none, 5), (⟨"LeaningWheel$Planner", "stakeBest", "(III)V"⟩, prog_7_method_3_code, 5, none, 5), (⟨"LeaningWheel$Planner", "weighStake", "(IIII)V"⟩, prog_7_method_4_code, 13, none, 5), (⟨"LeaningWheel$Planner", "keep", "(IIII)V"⟩, prog_7_method_5_code, 9, none, 5), (⟨"LeaningWheel$Planner", "lossAfter", "(III)J"⟩, prog_7_method_6_code, 3, some .long, 5), (⟨"LeaningWheel$Planner", "learn", "(LLeaningWheel$Book;)V"⟩, prog_7_method_7_code, 5, none, 5), (⟨"LeaningWheel$Planner", "compare", "(LLeaningWheel$Book;III)V"⟩, prog_7_method_8_code, 7, none, 5), (⟨"LeaningWheel$Player", "<init>", "(ILLeaningWheel$Texts;LLeaningWheel$Machine;)V"⟩, prog_8_method_1_code, 4, none, 6), (⟨"LeaningWheel$Player", "play", "(LLeaningWheel$Book;IIII)V"⟩, prog_8_method_2_code, 7, none, 6), (⟨"LeaningWheel$Player", "stakeOn", "(I)V"⟩, prog_8_method_3_code, 5, none, 6), (⟨"LeaningWheel$Player", "settleUp", "(IZ)V"⟩, prog_8_method_4_code, 3, none, 6), (⟨"LeaningWheel$Player", "oftenest", "()I"⟩, prog_8_method_5_code, 3, some .int, 6), (⟨"LeaningWheel$Reader", "<init>", "()V"⟩, prog_9_method_1_code, 1, none, 7), (⟨"LeaningWheel$Reader", "hasRoom", "()Z"⟩, prog_9_method_2_code, 1, some .boolean, 7), (⟨"LeaningWheel$Reader", "append", "(I)V"⟩, prog_9_method_3_code, 3, none, 7), (⟨"LeaningWheel$Reader", "read", "(LLeaningWheel$Texts;)Z"⟩, prog_9_method_4_code, 3, some .boolean, 7)]
def am_mkc_2 : List (Nat × Nat) := [(1, 1), (0, 3), (0, 1), (2, 0), (1, 5), (1, 3), (1, 4), (1, 4), (0, 3), (1, 1), (1, 4), (2, 3), (1, 5), (1, 1), (1, 2), (1, 0), (2, 0), (1, 0), (1, 1), (1, 1)]
theorem am_a2_2 : am_all2 am_msc_2 am_mkc_2 := ⟨am_m_40, am_m_41, am_m_42, am_m_43, am_m_44, am_m_45, am_m_46, am_m_47, am_m_48, am_m_49, am_m_50, am_m_51, am_m_52, am_m_53, am_m_54, am_m_55, am_m_56, am_m_57, am_m_58, am_m_59, trivial⟩
def am_msc_3 : List am_M := [(⟨"LeaningWheel$Reader", "readClause", "()V"⟩, prog_9_method_5_code, 2, none, 7), (⟨"LeaningWheel$Reader", "readSum", "(I)V"⟩, prog_9_method_6_code, 4, none, 7), (⟨"LeaningWheel$Reader", "readProduct", "(I)V"⟩, prog_9_method_7_code, 4, none, 7), (⟨"LeaningWheel$Reader", "readOne", "(I)V"⟩, prog_9_method_8_code, 2, none, 7), (⟨"LeaningWheel$Reader", "readNumber", "()V"⟩, prog_9_method_9_code, 1, none, 7), (⟨"LeaningWheel$Reader", "readWord", "(I)V"⟩, prog_9_method_10_code, 2, none, 7), (⟨"LeaningWheel$Reader", "readPair", "(II)V"⟩, prog_9_method_11_code, 3, none, 7), (⟨"LeaningWheel$Reader", "mayOpen", "(I)Z"⟩, prog_9_method_12_code, 2, some .boolean, 7), (⟨"LeaningWheel$Reader", "expect", "(I)V"⟩, prog_9_method_13_code, 2, none, 7), (⟨"LeaningWheel$Reader", "refuse", "(I)V"⟩, prog_9_method_14_code, 2, none, 7), (⟨"LeaningWheel$Reader", "put", "(I)V"⟩, prog_9_method_15_code, 2, none, 7), (⟨"LeaningWheel$Reader", "advance", "()V"⟩, prog_9_method_16_code, 1, none, 7), (⟨"LeaningWheel$Reader", "isLetter", "(I)Z"⟩, prog_9_method_17_code, 1, some .boolean, 7), (⟨"LeaningWheel$Reader", "isDigit", "(I)Z"⟩, prog_9_method_18_code, 1, some .boolean, 7), (⟨"LeaningWheel$Reader", "isSign", "(I)Z"⟩, prog_9_method_19_code, 1, some .boolean, 7), (⟨"LeaningWheel$Reader", "wordAt", "()I"⟩, prog_9_method_20_code, 4, some .int, 7), (⟨"LeaningWheel$Reader", "word", "(I)Ljava/lang/String;"⟩, prog_9_method_21_code, 1, some (.object "java/lang/String"), 7), (⟨"LeaningWheel$Texts", "<init>", "()V"⟩, prog_10_method_1_code, 1, none, 8), (⟨"LeaningWheel$Texts", "take", "(LLeaningWheel$Texts;)V"⟩, prog_10_method_2_code, 2, none, 8), (⟨"LeaningWheel$Texts", "has", "(II)Z"⟩, prog_10_method_3_code, 3, some .boolean, 8)]
def am_mkc_3 : List (Nat × Nat) := [(1, 0), (1, 1), (1, 1), (1, 1), (1, 0), (1, 1), (1, 2), (1, 1), (1, 1), (1, 1), (1, 1), (1, 0), (0, 1), (0, 1), (0, 1), (1, 0), (0, 1), (2, 0), (1, 1), (1, 2)]
theorem am_a2_3 : am_all2 am_msc_3 am_mkc_3 := ⟨am_m_60, am_m_61, am_m_62, am_m_63, am_m_64, am_m_65, am_m_66, am_m_67, am_m_68, am_m_69, am_m_70, am_m_71, am_m_72, am_m_73, am_m_74, am_m_75, am_m_76, am_m_77, am_m_78, am_m_79, trivial⟩
def am_msc_4 : List am_M := [(⟨"LeaningWheel$Wheels", "<init>", "(I)V"⟩, prog_11_method_1_code, 3, none, 9), (⟨"LeaningWheel$Wheels", "take", "(LLeaningWheel$Wheels;)V"⟩, prog_11_method_2_code, 2, none, 9), (⟨"LeaningWheel$Wheels", "leans", "(I)I"⟩, prog_11_method_3_code, 4, some .int, 9), (⟨"LeaningWheel$Where", "<init>", "(LLeaningWheel$Wheels;LLeaningWheel$Book;)V"⟩, prog_12_method_1_code, 4, none, 10), (⟨"LeaningWheel$Where", "forget", "()V"⟩, prog_12_method_2_code, 1, none, 10), (⟨"LeaningWheel$Where", "countFalls", "(I[I)I"⟩, prog_12_method_3_code, 6, some .int, 10), (⟨"LeaningWheel$Where", "settle", "(I)V"⟩, prog_12_method_4_code, 3, none, 10), (⟨"LeaningWheel$Where", "spinsAt", "(II)I"⟩, prog_12_method_5_code, 5, some .int, 10), (⟨"LeaningWheel$Where", "clashes", "(I)Z"⟩, prog_12_method_6_code, 4, some .boolean, 10), (⟨"LeaningWheel$Where", "isToldElsewhere", "(III)Z"⟩, prog_12_method_7_code, 5, some .boolean, 10), (⟨"LeaningWheel$Where", "mayStand", "(III)Z"⟩, prog_12_method_8_code, 5, some .boolean, 10), (⟨"LeaningWheel$Where", "weigh", "(I)V"⟩, prog_12_method_9_code, 4, none, 10), (⟨"LeaningWheel$Where", "weighSpin", "(LLeaningWheel$Big;II)V"⟩, prog_12_method_10_code, 5, none, 10), (⟨"LeaningWheel$Where", "stand", "(III)V"⟩, prog_12_method_11_code, 5, none, 10), (⟨"LeaningWheel$Where", "judge", "(I)V"⟩, prog_12_method_12_code, 3, none, 10), (⟨"LeaningWheel", "<init>", "(I)V"⟩, prog_1_method_1_code, 3, none, 11), (⟨"LeaningWheel", "pocket", "(IIII)Z"⟩, prog_1_method_2_code, 5, some .boolean, 11), (⟨"LeaningWheel", "stud", "(IIIIII)Z"⟩, prog_1_method_3_code, 8, some .boolean, 11), (⟨"LeaningWheel", "tilt", "(II)Z"⟩, prog_1_method_4_code, 3, some .boolean, 11), (⟨"LeaningWheel", "late", "(IIIII)Z"⟩, prog_1_method_5_code, 6, some .boolean, 11)]
def am_mkc_4 : List (Nat × Nat) := [(2, 1), (1, 1), (1, 1), (2, 2), (1, 0), (1, 2), (1, 1), (1, 2), (1, 1), (1, 3), (1, 3), (1, 1), (1, 3), (1, 3), (1, 1), (2, 1), (1, 4), (1, 6), (1, 2), (1, 5)]
theorem am_a2_4 : am_all2 am_msc_4 am_mkc_4 := ⟨am_m_80, am_m_81, am_m_82, am_m_83, am_m_84, am_m_85, am_m_86, am_m_87, am_m_88, am_m_89, am_m_90, am_m_91, am_m_92, am_m_93, am_m_94, am_m_95, am_m_96, am_m_97, am_m_98, am_m_99, trivial⟩
def am_msc_5 : List am_M := [(⟨"LeaningWheel", "pays", "(I)Z"⟩, prog_1_method_6_code, 2, some .boolean, 11), (⟨"LeaningWheel", "feed", "(IIIII)I"⟩, prog_1_method_7_code, 6, some .int, 11), (⟨"LeaningWheel", "end", "(I)I"⟩, prog_1_method_8_code, 2, some .int, 11), (⟨"LeaningWheel", "text", "()I"⟩, prog_1_method_9_code, 2, some .int, 11), (⟨"LeaningWheel", "fault", "(I)I"⟩, prog_1_method_10_code, 2, some .int, 11), (⟨"LeaningWheel", "law", "(I)Z"⟩, prog_1_method_11_code, 2, some .boolean, 11), (⟨"LeaningWheel", "drop", "(IIIIII)I"⟩, prog_1_method_12_code, 8, some .int, 11), (⟨"LeaningWheel", "foretold", "(IIIIII)I"⟩, prog_1_method_13_code, 9, some .int, 11), (⟨"LeaningWheel", "start", "(IIIIII)I"⟩, prog_1_method_14_code, 9, some .int, 11), (⟨"LeaningWheel", "odds", "(III)I"⟩, prog_1_method_15_code, 8, some .int, 11), (⟨"LeaningWheel", "write", "(IIII)I"⟩, prog_1_method_16_code, 6, some .int, 11), (⟨"LeaningWheel", "scratch", "(III)Z"⟩, prog_1_method_17_code, 4, some .boolean, 11), (⟨"LeaningWheel", "which", "(II)I"⟩, prog_1_method_18_code, 3, some .int, 11), (⟨"LeaningWheel", "falls", "(II)I"⟩, prog_1_method_19_code, 4, some .int, 11), (⟨"LeaningWheel", "nine", "(III)I"⟩, prog_1_method_20_code, 7, some .int, 11), (⟨"LeaningWheel", "above", "(III)I"⟩, prog_1_method_21_code, 4, some .int, 11), (⟨"LeaningWheel", "among", "(III)I"⟩, prog_1_method_22_code, 4, some .int, 11), (⟨"LeaningWheel", "span", "(IIIZ)I"⟩, prog_1_method_23_code, 5, some .int, 11), (⟨"LeaningWheel", "need", "(IIII)I"⟩, prog_1_method_24_code, 5, some .int, 11), (⟨"LeaningWheel", "habit", "(III)I"⟩, prog_1_method_25_code, 7, some .int, 11)]
def am_mkc_5 : List (Nat × Nat) := [(1, 1), (1, 5), (1, 1), (1, 0), (1, 1), (1, 1), (1, 6), (1, 6), (1, 6), (1, 3), (1, 4), (1, 3), (1, 2), (1, 2), (1, 3), (1, 3), (1, 3), (1, 4), (1, 4), (1, 3)]
theorem am_a2_5 : am_all2 am_msc_5 am_mkc_5 := ⟨am_m_100, am_m_101, am_m_102, am_m_103, am_m_104, am_m_105, am_m_106, am_m_107, am_m_108, am_m_109, am_m_110, am_m_111, am_m_112, am_m_113, am_m_114, am_m_115, am_m_116, am_m_117, am_m_118, am_m_119, trivial⟩
def am_msc_6 : List am_M := [(⟨"LeaningWheel", "goal", "(IIIII)I"⟩, prog_1_method_26_code, 7, some .int, 11), (⟨"LeaningWheel", "luck", "(IIII)I"⟩, prog_1_method_27_code, 5, some .int, 11), (⟨"LeaningWheel", "run", "(IIIII)I"⟩, prog_1_method_28_code, 7, some .int, 11), (⟨"LeaningWheel", "bet", "(III)I"⟩, prog_1_method_29_code, 5, some .int, 11), (⟨"LeaningWheel", "watched", "(II)I"⟩, prog_1_method_30_code, 5, some .int, 11), (⟨"LeaningWheel", "house", "(IIIII)I"⟩, prog_1_method_31_code, 7, some .int, 11), (⟨"LeaningWheel", "seen", "(II)I"⟩, prog_1_method_32_code, 4, some .int, 11), (⟨"LeaningWheel", "shoe", "(I)I"⟩, prog_1_method_33_code, 2, some .int, 11), (⟨"LeaningWheel", "image", "()I"⟩, prog_1_method_34_code, 1, some .int, 11), (⟨"LeaningWheel", "back", "()I"⟩, prog_1_method_35_code, 1, some .int, 11), (⟨"LeaningWheel", "about", "(I)I"⟩, prog_1_method_36_code, 2, some .int, 11), (⟨"LeaningWheel", "within", "(III)Z"⟩, prog_1_method_37_code, 3, some .boolean, 11), (⟨"LeaningWheel", "isWheel", "(I)Z"⟩, prog_1_method_38_code, 1, some .boolean, 11), (⟨"LeaningWheel", "isHand", "(I)Z"⟩, prog_1_method_39_code, 1, some .boolean, 11), (⟨"LeaningWheel", "isTable", "(II)Z"⟩, prog_1_method_40_code, 2, some .boolean, 11), (⟨"LeaningWheel", "isCount", "(II)Z"⟩, prog_1_method_41_code, 2, some .boolean, 11), (⟨"LeaningWheel", "areTenths", "(IIIII)Z"⟩, prog_1_method_42_code, 6, some .boolean, 11), (⟨"LeaningWheel", "isPocket", "(I)Z"⟩, prog_1_method_43_code, 2, some .boolean, 11), (⟨"LeaningWheel", "isPocketOrNone", "(I)Z"⟩, prog_1_method_44_code, 2, some .boolean, 11), (⟨"LeaningWheel", "isNine", "(I)Z"⟩, prog_1_method_45_code, 2, some .boolean, 11)]
def am_mkc_6 : List (Nat × Nat) := [(1, 5), (1, 4), (1, 5), (1, 3), (1, 2), (1, 5), (1, 2), (1, 1), (1, 0), (1, 0), (1, 1), (0, 3), (0, 1), (0, 1), (0, 2), (0, 2), (0, 5), (1, 1), (1, 1), (1, 1)]
theorem am_a2_6 : am_all2 am_msc_6 am_mkc_6 := ⟨am_m_120, am_m_121, am_m_122, am_m_123, am_m_124, am_m_125, am_m_126, am_m_127, am_m_128, am_m_129, am_m_130, am_m_131, am_m_132, am_m_133, am_m_134, am_m_135, am_m_136, am_m_137, am_m_138, am_m_139, trivial⟩
def am_msc_7 : List am_M := [(⟨"LeaningWheel", "isRelease", "(IIII)Z"⟩, prog_1_method_46_code, 6, some .boolean, 11), (⟨"LeaningWheel", "foresee", "(IIIII)V"⟩, prog_1_method_47_code, 10, none, 11), (⟨"LeaningWheel", "greatest", "([I)I"⟩, prog_1_method_48_code, 4, some .int, 11), (⟨"LeaningWheel", "choose", "(I)I"⟩, prog_1_method_49_code, 6, some .int, 11), (⟨"LeaningWheel", "isChosen", "(I)Z"⟩, prog_1_method_50_code, 2, some .boolean, 11), (⟨"LeaningWheel", "chosenAt", "(I)I"⟩, prog_1_method_51_code, 4, some .int, 11), (⟨"LeaningWheel", "countDistances", "(I)I"⟩, prog_1_method_52_code, 6, some .int, 11), (⟨"LeaningWheel", "widest", "(I)I"⟩, prog_1_method_53_code, 4, some .int, 11), (⟨"LeaningWheel", "inWidth", "(II)I"⟩, prog_1_method_54_code, 5, some .int, 11), (⟨"LeaningWheelModel", "<init>", "(I)V"⟩, prog_14_method_1_code, 3, none, 12), (⟨"LeaningWheelModel", "copy", "([I[I)V"⟩, prog_14_method_2_code, 3, none, 12), (⟨"LeaningWheelModel", "isIn", "(III)Z"⟩, prog_14_method_3_code, 3, some .boolean, 12), (⟨"LeaningWheelModel", "abs", "(I)I"⟩, prog_14_method_4_code, 1, some .int, 12), (⟨"LeaningWheelModel", "isWheel", "(I)Z"⟩, prog_14_method_5_code, 1, some .boolean, 12), (⟨"LeaningWheelModel", "isPocket", "(I)Z"⟩, prog_14_method_6_code, 2, some .boolean, 12), (⟨"LeaningWheelModel", "pocket", "(IIII)Z"⟩, prog_14_method_7_code, 5, some .boolean, 12), (⟨"LeaningWheelModel", "isTenth", "(I)Z"⟩, prog_14_method_8_code, 1, some .boolean, 12), (⟨"LeaningWheelModel", "stud", "(IIIIII)Z"⟩, prog_14_method_9_code, 9, some .boolean, 12), (⟨"LeaningWheelModel", "tilt", "(II)Z"⟩, prog_14_method_10_code, 3, some .boolean, 12), (⟨"LeaningWheelModel", "late", "(IIIII)Z"⟩, prog_14_method_11_code, 7, some .boolean, 12)]
def am_mkc_7 : List (Nat × Nat) := [(1, 4), (1, 5), (1, 1), (1, 1), (1, 1), (1, 1), (1, 1), (1, 1), (1, 2), (2, 1), (0, 2), (0, 3), (0, 1), (0, 1), (1, 1), (1, 4), (0, 1), (1, 6), (1, 2), (1, 5)]
theorem am_a2_7 : am_all2 am_msc_7 am_mkc_7 := ⟨am_m_140, am_m_141, am_m_142, am_m_143, am_m_144, am_m_145, am_m_146, am_m_147, am_m_148, am_m_149, am_m_150, am_m_151, am_m_152, am_m_153, am_m_154, am_m_155, am_m_156, am_m_157, am_m_158, am_m_159, trivial⟩
def am_msc_8 : List am_M := [(⟨"LeaningWheelModel", "pays", "(I)Z"⟩, prog_14_method_12_code, 2, some .boolean, 12), (⟨"LeaningWheelModel", "four", "(I)V"⟩, prog_14_method_13_code, 3, none, 12), (⟨"LeaningWheelModel", "feed", "(IIIII)I"⟩, prog_14_method_14_code, 6, some .int, 12), (⟨"LeaningWheelModel", "end", "(I)I"⟩, prog_14_method_15_code, 2, some .int, 12), (⟨"LeaningWheelModel", "byteAt", "(I)I"⟩, prog_14_method_16_code, 2, some .int, 12), (⟨"LeaningWheelModel", "isLetter", "(I)Z"⟩, prog_14_method_17_code, 1, some .boolean, 12), (⟨"LeaningWheelModel", "isDigit", "(I)Z"⟩, prog_14_method_18_code, 1, some .boolean, 12), (⟨"LeaningWheelModel", "nextToken", "()V"⟩, prog_14_method_19_code, 3, none, 12), (⟨"LeaningWheelModel", "w3", "(III)J"⟩, prog_14_method_20_code, 3, some .long, 12), (⟨"LeaningWheelModel", "w5", "(IIIII)J"⟩, prog_14_method_21_code, 5, some .long, 12), (⟨"LeaningWheelModel", "w4", "(IIII)J"⟩, prog_14_method_22_code, 4, some .long, 12), (⟨"LeaningWheelModel", "isWord", "(J)Z"⟩, prog_14_method_24_code, 3, some .boolean, 12), (⟨"LeaningWheelModel", "emit", "(II)V"⟩, prog_14_method_25_code, 3, none, 12), (⟨"LeaningWheelModel", "push", "(I)V"⟩, prog_14_method_26_code, 2, none, 12), (⟨"LeaningWheelModel", "whole", "()V"⟩, prog_14_method_27_code, 1, none, 12), (⟨"LeaningWheelModel", "settle", "(I)V"⟩, prog_14_method_28_code, 2, none, 12), (⟨"LeaningWheelModel", "nameOf", "()I"⟩, prog_14_method_29_code, 1, some .int, 12), (⟨"LeaningWheelModel", "opener", "()I"⟩, prog_14_method_30_code, 2, some .int, 12), (⟨"LeaningWheelModel", "beginOne", "()I"⟩, prog_14_method_31_code, 3, some .int, 12), (⟨"LeaningWheelModel", "latest", "()I"⟩, prog_14_method_32_code, 2, some .int, 12)]
def am_mkc_8 : List (Nat × Nat) := [(1, 1), (1, 1), (1, 5), (1, 1), (1, 1), (0, 1), (0, 1), (1, 0), (0, 3), (0, 5), (0, 4), (1, 1), (1, 2), (1, 1), (1, 0), (1, 1), (1, 0), (1, 0), (1, 0), (1, 0)]
theorem am_a2_8 : am_all2 am_msc_8 am_mkc_8 := ⟨am_m_160, am_m_161, am_m_162, am_m_163, am_m_164, am_m_165, am_m_166, am_m_167, am_m_168, am_m_169, am_m_170, am_m_171, am_m_172, am_m_173, am_m_174, am_m_175, am_m_176, am_m_177, am_m_178, am_m_179, trivial⟩
def am_msc_9 : List am_M := [(⟨"LeaningWheelModel", "goesOn", "()Z"⟩, prog_14_method_33_code, 1, some .boolean, 12), (⟨"LeaningWheelModel", "behindOne", "()I"⟩, prog_14_method_34_code, 4, some .int, 12), (⟨"LeaningWheelModel", "summed", "()I"⟩, prog_14_method_35_code, 2, some .int, 12), (⟨"LeaningWheelModel", "sortOf", "()I"⟩, prog_14_method_36_code, 1, some .int, 12), (⟨"LeaningWheelModel", "clause", "()I"⟩, prog_14_method_37_code, 2, some .int, 12), (⟨"LeaningWheelModel", "readText", "()I"⟩, prog_14_method_38_code, 2, some .int, 12), (⟨"LeaningWheelModel", "text", "()I"⟩, prog_14_method_39_code, 1, some .int, 12), (⟨"LeaningWheelModel", "fault", "(I)I"⟩, prog_14_method_40_code, 2, some .int, 12), (⟨"LeaningWheelModel", "law", "(I)Z"⟩, prog_14_method_41_code, 2, some .boolean, 12), (⟨"LeaningWheelModel", "held", "(J)J"⟩, prog_14_method_42_code, 2, some .long, 12), (⟨"LeaningWheelModel", "two", "(IJJ)J"⟩, prog_14_method_43_code, 5, some .long, 12), (⟨"LeaningWheelModel", "valueOf", "(III)I"⟩, prog_14_method_44_code, 11, some .int, 12), (⟨"LeaningWheelModel", "ring", "(I)I"⟩, prog_14_method_45_code, 3, some .int, 12), (⟨"LeaningWheelModel", "roll", "(IIIII)V"⟩, prog_14_method_46_code, 11, none, 12), (⟨"LeaningWheelModel", "addOdds", "(II)V"⟩, prog_14_method_47_code, 10, none, 12), (⟨"LeaningWheelModel", "clearOdds", "()V"⟩, prog_14_method_48_code, 2, none, 12), (⟨"LeaningWheelModel", "isPoint", "(I)Z"⟩, prog_14_method_49_code, 2, some .boolean, 12), (⟨"LeaningWheelModel", "isDrop", "(IIIII)Z"⟩, prog_14_method_50_code, 6, some .boolean, 12), (⟨"LeaningWheelModel", "drop", "(IIIIII)I"⟩, prog_14_method_51_code, 7, some .int, 12), (⟨"LeaningWheelModel", "bestPocket", "()I"⟩, prog_14_method_52_code, 3, some .int, 12)]
def am_mkc_9 : List (Nat × Nat) := [(1, 0), (1, 0), (1, 0), (1, 0), (1, 0), (1, 0), (1, 0), (1, 1), (1, 1), (0, 1), (0, 3), (1, 3), (1, 1), (1, 5), (1, 2), (1, 0), (1, 1), (1, 5), (1, 6), (1, 0)]
theorem am_a2_9 : am_all2 am_msc_9 am_mkc_9 := ⟨am_m_180, am_m_181, am_m_182, am_m_183, am_m_184, am_m_185, am_m_186, am_m_187, am_m_188, am_m_189, am_m_190, am_m_191, am_m_192, am_m_193, am_m_194, am_m_195, am_m_196, am_m_197, am_m_198, am_m_199, trivial⟩
def am_msc_10 : List am_M := [(⟨"LeaningWheelModel", "foretold", "(IIIIII)I"⟩, prog_14_method_53_code, 9, some .int, 12), (⟨"LeaningWheelModel", "isHand", "(I)Z"⟩, prog_14_method_54_code, 1, some .boolean, 12), (⟨"LeaningWheelModel", "start", "(IIIIII)I"⟩, prog_14_method_55_code, 8, some .int, 12), (⟨"LeaningWheelModel", "odds", "(III)I"⟩, prog_14_method_56_code, 7, some .int, 12), (⟨"LeaningWheelModel", "put", "(II)V"⟩, prog_14_method_57_code, 5, none, 12), (⟨"LeaningWheelModel", "lay", "(II)V"⟩, prog_14_method_58_code, 4, none, 12), (⟨"LeaningWheelModel", "times", "(II)V"⟩, prog_14_method_59_code, 7, none, 12), (⟨"LeaningWheelModel", "add", "(III)V"⟩, prog_14_method_60_code, 7, none, 12), (⟨"LeaningWheelModel", "compare", "(II)I"⟩, prog_14_method_61_code, 4, some .int, 12), (⟨"LeaningWheelModel", "product", "(III)V"⟩, prog_14_method_62_code, 9, none, 12), (⟨"LeaningWheelModel", "into", "(II)I"⟩, prog_14_method_63_code, 6, some .int, 12), (⟨"LeaningWheelModel", "power", "(III)V"⟩, prog_14_method_64_code, 5, none, 12), (⟨"LeaningWheelModel", "tryMore", "(IIII)V"⟩, prog_14_method_65_code, 6, none, 12), (⟨"LeaningWheelModel", "tryAll", "(III)V"⟩, prog_14_method_66_code, 5, none, 12), (⟨"LeaningWheelModel", "sum", "(IIII)V"⟩, prog_14_method_67_code, 6, none, 12), (⟨"LeaningWheelModel", "tail", "(III)V"⟩, prog_14_method_68_code, 4, none, 12), (⟨"LeaningWheelModel", "millionths", "()I"⟩, prog_14_method_69_code, 1, some .int, 12), (⟨"LeaningWheelModel", "above", "(III)I"⟩, prog_14_method_70_code, 4, some .int, 12), (⟨"LeaningWheelModel", "setsOf", "(I)I"⟩, prog_14_method_71_code, 5, some .int, 12), (⟨"LeaningWheelModel", "among", "(III)I"⟩, prog_14_method_72_code, 4, some .int, 12)]
def am_mkc_10 : List (Nat × Nat) := [(1, 6), (0, 1), (1, 6), (1, 3), (1, 2), (1, 2), (1, 2), (1, 3), (1, 2), (1, 3), (1, 2), (1, 3), (1, 4), (1, 3), (1, 4), (1, 3), (1, 0), (1, 3), (1, 1), (1, 3)]
theorem am_a2_10 : am_all2 am_msc_10 am_mkc_10 := ⟨am_m_200, am_m_201, am_m_202, am_m_203, am_m_204, am_m_205, am_m_206, am_m_207, am_m_208, am_m_209, am_m_210, am_m_211, am_m_212, am_m_213, am_m_214, am_m_215, am_m_216, am_m_217, am_m_218, am_m_219, trivial⟩
def am_msc_11 : List am_M := [(⟨"LeaningWheelModel", "isLikely", "(IIIII)Z"⟩, prog_14_method_73_code, 6, some .boolean, 12), (⟨"LeaningWheelModel", "isTold", "(I)Z"⟩, prog_14_method_74_code, 1, some .boolean, 12), (⟨"LeaningWheelModel", "span", "(IIIZ)I"⟩, prog_14_method_75_code, 9, some .int, 12), (⟨"LeaningWheelModel", "isThousandth", "(I)Z"⟩, prog_14_method_76_code, 1, some .boolean, 12), (⟨"LeaningWheelModel", "need", "(IIII)I"⟩, prog_14_method_77_code, 8, some .int, 12), (⟨"LeaningWheelModel", "write", "(IIII)I"⟩, prog_14_method_78_code, 7, some .int, 12), (⟨"LeaningWheelModel", "scratch", "(III)Z"⟩, prog_14_method_79_code, 4, some .boolean, 12), (⟨"LeaningWheelModel", "isSpin", "(III)Z"⟩, prog_14_method_80_code, 4, some .boolean, 12), (⟨"LeaningWheelModel", "spins", "(II)I"⟩, prog_14_method_81_code, 5, some .int, 12), (⟨"LeaningWheelModel", "leans", "(I)I"⟩, prog_14_method_82_code, 4, some .int, 12), (⟨"LeaningWheelModel", "isScratched", "(I)Z"⟩, prog_14_method_83_code, 5, some .boolean, 12), (⟨"LeaningWheelModel", "isWay", "(I)Z"⟩, prog_14_method_84_code, 4, some .boolean, 12), (⟨"LeaningWheelModel", "likeliness", "(I)V"⟩, prog_14_method_85_code, 6, none, 12), (⟨"LeaningWheelModel", "findWays", "(I)V"⟩, prog_14_method_86_code, 4, none, 12), (⟨"LeaningWheelModel", "which", "(II)I"⟩, prog_14_method_87_code, 3, some .int, 12), (⟨"LeaningWheelModel", "fall", "(I)V"⟩, prog_14_method_88_code, 5, none, 12), (⟨"LeaningWheelModel", "falls", "(II)I"⟩, prog_14_method_89_code, 3, some .int, 12), (⟨"LeaningWheelModel", "pickMost", "(I)I"⟩, prog_14_method_90_code, 6, some .int, 12), (⟨"LeaningWheelModel", "nine", "(III)I"⟩, prog_14_method_91_code, 7, some .int, 12), (⟨"LeaningWheelModel", "habit", "(III)I"⟩, prog_14_method_92_code, 11, some .int, 12)]
def am_mkc_11 : List (Nat × Nat) := [(1, 5), (0, 1), (1, 4), (0, 1), (1, 4), (1, 4), (1, 3), (1, 3), (1, 2), (1, 1), (1, 1), (1, 1), (1, 1), (1, 1), (1, 2), (1, 1), (1, 2), (1, 1), (1, 3), (1, 3)]
theorem am_a2_11 : am_all2 am_msc_11 am_mkc_11 := ⟨am_m_220, am_m_221, am_m_222, am_m_223, am_m_224, am_m_225, am_m_226, am_m_227, am_m_228, am_m_229, am_m_230, am_m_231, am_m_232, am_m_233, am_m_234, am_m_235, am_m_236, am_m_237, am_m_238, am_m_239, trivial⟩
def am_msc_12 : List am_M := [(⟨"LeaningWheelModel", "bets", "(IIIII)V"⟩, prog_14_method_93_code, 9, none, 12), (⟨"LeaningWheelModel", "goal", "(IIIII)I"⟩, prog_14_method_94_code, 7, some .int, 12), (⟨"LeaningWheelModel", "luck", "(IIII)I"⟩, prog_14_method_95_code, 8, some .int, 12), (⟨"LeaningWheelModel", "run", "(IIIII)I"⟩, prog_14_method_96_code, 11, some .int, 12), (⟨"LeaningWheelModel", "bet", "(III)I"⟩, prog_14_method_97_code, 5, some .int, 12), (⟨"LeaningWheelModel", "watched", "(II)I"⟩, prog_14_method_98_code, 7, some .int, 12), (⟨"LeaningWheelModel", "house", "(IIIII)I"⟩, prog_14_method_99_code, 12, some .int, 12), (⟨"LeaningWheelModel", "seen", "(II)I"⟩, prog_14_method_100_code, 3, some .int, 12), (⟨"LeaningWheelModel", "shoe", "(I)I"⟩, prog_14_method_101_code, 9, some .int, 12), (⟨"LeaningWheelModel", "image", "()I"⟩, prog_14_method_102_code, 1, some .int, 12), (⟨"LeaningWheelModel", "back", "()I"⟩, prog_14_method_103_code, 1, some .int, 12), (⟨"LeaningWheelModel", "about", "(I)I"⟩, prog_14_method_104_code, 2, some .int, 12), (⟨"LeaningWheelLaw", "cell", "([II)I"⟩, method_2_code, 2, some .int, 98), (⟨"java/lang/Math", "floorMod", "(II)I"⟩, prog_15_method_50_code, 3, some .int, 98), (⟨"java/lang/Math", "abs", "(I)I"⟩, prog_15_method_59_code, 1, some .int, 98), (⟨"java/lang/Math", "max", "(II)I"⟩, prog_15_method_65_code, 2, some .int, 98), (⟨"java/lang/Math", "max", "(JJ)J"⟩, prog_15_method_66_code, 4, some .long, 98), (⟨"java/lang/Math", "min", "(II)I"⟩, prog_15_method_69_code, 2, some .int, 98), (⟨"java/lang/Math", "min", "(JJ)J"⟩, prog_15_method_70_code, 4, some .long, 98), (⟨"java/util/Arrays", "fill", "([II)V"⟩, prog_20_method_103_code, 4, none, 98)]
def am_mkc_12 : List (Nat × Nat) := [(1, 5), (1, 5), (1, 4), (1, 5), (1, 3), (1, 2), (1, 5), (1, 2), (1, 1), (1, 0), (1, 0), (1, 1), (0, 2), (0, 2), (0, 1), (0, 2), (0, 2), (0, 2), (0, 2), (0, 2)]
theorem am_a2_12 : am_all2 am_msc_12 am_mkc_12 := ⟨am_m_240, am_m_241, am_m_242, am_m_243, am_m_244, am_m_245, am_m_246, am_m_247, am_m_248, am_m_249, am_m_250, am_m_251, am_m_252, am_m_253, am_m_254, am_m_255, am_m_256, am_m_257, am_m_258, am_m_259, trivial⟩
set_option maxRecDepth 10000 in
theorem am_a2 : am_all2 am_ms am_mkn := by
  have h : am_all2 (am_msc_0 ++ (am_msc_1 ++ (am_msc_2 ++ (am_msc_3 ++ (am_msc_4 ++ (am_msc_5 ++ (am_msc_6 ++ (am_msc_7 ++ (am_msc_8 ++ (am_msc_9 ++ (am_msc_10 ++ (am_msc_11 ++ (am_msc_12))))))))))))) (am_mkc_0 ++ (am_mkc_1 ++ (am_mkc_2 ++ (am_mkc_3 ++ (am_mkc_4 ++ (am_mkc_5 ++ (am_mkc_6 ++ (am_mkc_7 ++ (am_mkc_8 ++ (am_mkc_9 ++ (am_mkc_10 ++ (am_mkc_11 ++ (am_mkc_12))))))))))))) := am_all2_app am_a2_0 (am_all2_app am_a2_1 (am_all2_app am_a2_2 (am_all2_app am_a2_3 (am_all2_app am_a2_4 (am_all2_app am_a2_5 (am_all2_app am_a2_6 (am_all2_app am_a2_7 (am_all2_app am_a2_8 (am_all2_app am_a2_9 (am_all2_app am_a2_10 (am_all2_app am_a2_11 (am_a2_12))))))))))))
  have e1 : am_ms = am_msc_0 ++ (am_msc_1 ++ (am_msc_2 ++ (am_msc_3 ++ (am_msc_4 ++ (am_msc_5 ++ (am_msc_6 ++ (am_msc_7 ++ (am_msc_8 ++ (am_msc_9 ++ (am_msc_10 ++ (am_msc_11 ++ (am_msc_12)))))))))))) := rfl
  have e2 : am_mkn = am_mkc_0 ++ (am_mkc_1 ++ (am_mkc_2 ++ (am_mkc_3 ++ (am_mkc_4 ++ (am_mkc_5 ++ (am_mkc_6 ++ (am_mkc_7 ++ (am_mkc_8 ++ (am_mkc_9 ++ (am_mkc_10 ++ (am_mkc_11 ++ (am_mkc_12)))))))))))) := rfl
  rw [e1, e2]
  exact h
def am_kn (k : Nat) : Option (Nat × Nat) := if k = 1002 then some (1, 0) else if k = 1003 then some (1, 1) else am_mkn[k]?
theorem am_mok_of {k : Nat} {M : am_M} (h : am_mi k = some M) : ∃ w, am_kn k = some w ∧ am_mP w.1 w.2 M := by
  unfold am_mi at h
  unfold am_kn
  by_cases h2 : k = 1002
  · rw [if_pos h2] at h ⊢
    cases h
    exact ⟨_, rfl, am_m_l⟩
  · rw [if_neg h2] at h ⊢
    by_cases h3 : k = 1003
    · rw [if_pos h3] at h ⊢
      cases h
      exact ⟨_, rfl, am_m_c⟩
    · rw [if_neg h3] at h ⊢
      exact am_all2_get am_a2 h
def am_fr (k : Nat) : List (Nat × Nat × Nat) := ([[(9, 0, 4), (15, 0, 0), (19, 0, 1), (23, 0, 2), (27, 9, 0), (39, 0, 3), (40, 4, 0), (45, 9, 4), (52, 8, 4), (64, 0, 5), (67, 0, 6), (73, 0, 7), (86, 9, 3), (89, 9, 1)], [(9, 1, 0), (13, 1, 1)], [(11, 2, 0), (15, 2, 1), (18, 2, 2), (21, 2, 3), (24, 2, 5), (27, 2, 6), (30, 2, 7), (33, 2, 8), (36, 2, 9), (39, 2, 10), (42, 2, 12), (45, 2, 13), (48, 2, 15), (51, 2, 16), (67, 2, 4), (70, 2, 11), (73, 2, 14)], [(12, 3, 1), (18, 3, 2), (21, 3, 3), (24, 3, 4), (27, 3, 5), (30, 3, 6), (33, 3, 7), (36, 3, 8), (39, 3, 0), (78, 3, 9), (81, 3, 10)], [(7, 4, 0), (13, 4, 1), (22, 8, 2), (25, 8, 0), (34, 4, 2), (38, 8, 1)], [(11, 5, 0), (15, 5, 1), (18, 5, 2), (21, 5, 3), (24, 5, 7), (29, 5, 9), (43, 5, 4), (47, 5, 5), (50, 5, 6), (55, 5, 8), (83, 5, 10), (88, 5, 11), (91, 5, 12), (96, 5, 13), (103, 2, 14), (108, 2, 12), (112, 2, 13), (119, 5, 14), (122, 5, 15), (125, 5, 16)], [(9, 6, 3), (21, 6, 0), (25, 6, 1), (29, 6, 2), (33, 6, 4), (36, 2, 16), (41, 6, 5), (42, 6, 9), (45, 6, 10), (48, 6, 11), (51, 6, 8), (54, 6, 6), (57, 6, 7), (66, 2, 4), (73, 2, 3), (84, 4, 0)], [(11, 7, 0), (17, 7, 2), (21, 7, 3), (24, 7, 1), (27, 7, 4), (31, 8, 3), (34, 7, 5), (37, 7, 7), (40, 7, 8), (43, 8, 1), (49, 7, 9), (55, 7, 11), (66, 7, 6), (72, 8, 2), (101, 7, 10), (104, 8, 0)], [(11, 8, 0), (15, 8, 1), (18, 8, 2), (21, 8, 4), (37, 8, 3)], [(9, 9, 1), (15, 9, 2), (18, 9, 3), (21, 9, 4), (24, 9, 0)], [(9, 10, 3), (15, 10, 4), (18, 10, 5), (21, 10, 6), (24, 10, 7), (27, 10, 8), (32, 10, 9), (36, 10, 10), (40, 10, 11), (44, 10, 12), (47, 10, 13), (50, 10, 0), (54, 10, 1), (58, 10, 2), (72, 2, 4), (77, 2, 3), (80, 2, 0), (83, 2, 1), (112, 2, 5), (128, 9, 2)], [(18, 11, 0), (27, 11, 1), (34, 11, 2), (41, 11, 3), (45, 11, 4), (48, 11, 5), (51, 11, 6), (57, 11, 7), (69, 11, 8), (78, 11, 9), (87, 11, 10), (94, 11, 11), (101, 11, 12), (105, 11, 13), (120, 9, 1), (123, 9, 2), (133, 9, 3), (136, 9, 4), (139, 2, 15), (142, 2, 16), (152, 7, 1), (155, 8, 3), (162, 7, 2), (165, 7, 3), (168, 8, 4), (179, 0, 4), (182, 0, 5), (185, 0, 6), (188, 0, 7), (202, 2, 7), (208, 2, 6), (218, 2, 4), (225, 2, 0), (228, 2, 1), (231, 2, 2), (234, 2, 3), (237, 2, 5), (243, 10, 3), (246, 10, 4), (249, 10, 5), (284, 3, 9), (287, 3, 10), (302, 5, 8), (305, 5, 9), (315, 6, 9), (318, 6, 10), (320, 6, 11), (323, 2, 11), (329, 2, 8), (332, 2, 9), (335, 2, 10), (348, 5, 10), (351, 5, 11), (354, 2, 14), (357, 2, 12), (360, 2, 13), (363, 5, 12), (371, 5, 13), (372, 5, 14), (375, 5, 15), (378, 5, 16), (402, 11, 14)], [(7, 12, 1), (13, 12, 2), (16, 12, 3), (19, 12, 4), (22, 12, 7), (26, 12, 8), (29, 12, 18), (32, 12, 22), (35, 12, 23), (39, 12, 27), (42, 12, 28), (45, 12, 29), (48, 12, 30), (51, 12, 32), (54, 12, 34), (58, 12, 35), (61, 12, 36), (64, 12, 37), (67, 12, 0), (88, 12, 5), (95, 12, 9), (102, 12, 10), (105, 12, 11), (111, 12, 12), (118, 12, 13), (130, 12, 14), (133, 12, 16), (136, 12, 19), (139, 12, 21), (143, 12, 20), (168, 12, 6), (198, 12, 17), (229, 12, 24), (232, 12, 25), (235, 12, 26), (328, 12, 31), (340, 12, 33)], [], [], []] : List (List (Nat × Nat × Nat))).getD k []
def am_frP (c : Nat) (q : Nat × Nat × Nat) : Prop := ∃ r : vw_C, vwCl[q.2.1]? = some r ∧ q.2.2 < r.2.2 ∧ Cond.fieldLink (am_on c) q.1 (r.2.1 q.2.2).1 (r.2.1 q.2.2).2.1 (r.2.1 q.2.2).2.2.1 ∈ am_good
theorem am_fr_0_13 : am_frP 0 (89, 9, 1) := ⟨_, rfl, by decide, am_wi 1 48 rfl rfl⟩
theorem am_fr_0_12 : am_frP 0 (86, 9, 3) := ⟨_, rfl, by decide, am_wi 1 54 rfl rfl⟩
theorem am_fr_0_11 : am_frP 0 (73, 0, 7) := ⟨_, rfl, by decide, am_wi 2 31 rfl rfl⟩
theorem am_fr_0_10 : am_frP 0 (67, 0, 6) := ⟨_, rfl, by decide, am_wi 2 29 rfl rfl⟩
theorem am_fr_0_9 : am_frP 0 (64, 0, 5) := ⟨_, rfl, by decide, am_wi 2 27 rfl rfl⟩
theorem am_fr_0_8 : am_frP 0 (52, 8, 4) := ⟨_, rfl, by decide, am_wi 1 90 rfl rfl⟩
theorem am_fr_0_7 : am_frP 0 (45, 9, 4) := ⟨_, rfl, by decide, am_wi 1 56 rfl rfl⟩
theorem am_fr_0_6 : am_frP 0 (40, 4, 0) := ⟨_, rfl, by decide, am_wi 2 3 rfl rfl⟩
theorem am_fr_0_5 : am_frP 0 (39, 0, 3) := ⟨_, rfl, by decide, am_wi 2 24 rfl rfl⟩
theorem am_fr_0_4 : am_frP 0 (27, 9, 0) := ⟨_, rfl, by decide, am_wi 1 44 rfl rfl⟩
theorem am_fr_0_3 : am_frP 0 (23, 0, 2) := ⟨_, rfl, by decide, am_wi 2 23 rfl rfl⟩
theorem am_fr_0_2 : am_frP 0 (19, 0, 1) := ⟨_, rfl, by decide, am_wi 2 22 rfl rfl⟩
theorem am_fr_0_1 : am_frP 0 (15, 0, 0) := ⟨_, rfl, by decide, am_wi 2 21 rfl rfl⟩
theorem am_fr_0_0 : am_frP 0 (9, 0, 4) := ⟨_, rfl, by decide, am_wi 2 25 rfl rfl⟩
theorem am_fr_0 : ∀ q ∈ am_fr 0, am_frP 0 q := List.forall_mem_cons.mpr ⟨am_fr_0_0, List.forall_mem_cons.mpr ⟨am_fr_0_1, List.forall_mem_cons.mpr ⟨am_fr_0_2, List.forall_mem_cons.mpr ⟨am_fr_0_3, List.forall_mem_cons.mpr ⟨am_fr_0_4, List.forall_mem_cons.mpr ⟨am_fr_0_5, List.forall_mem_cons.mpr ⟨am_fr_0_6, List.forall_mem_cons.mpr ⟨am_fr_0_7, List.forall_mem_cons.mpr ⟨am_fr_0_8, List.forall_mem_cons.mpr ⟨am_fr_0_9, List.forall_mem_cons.mpr ⟨am_fr_0_10, List.forall_mem_cons.mpr ⟨am_fr_0_11, List.forall_mem_cons.mpr ⟨am_fr_0_12, List.forall_mem_cons.mpr ⟨am_fr_0_13, fun _ h => absurd h List.not_mem_nil⟩⟩⟩⟩⟩⟩⟩⟩⟩⟩⟩⟩⟩⟩
theorem am_fr_1_1 : am_frP 1 (13, 1, 1) := ⟨_, rfl, by decide, am_wi 2 111 rfl rfl⟩
theorem am_fr_1_0 : am_frP 1 (9, 1, 0) := ⟨_, rfl, by decide, am_wi 2 110 rfl rfl⟩
theorem am_fr_1 : ∀ q ∈ am_fr 1, am_frP 1 q := List.forall_mem_cons.mpr ⟨am_fr_1_0, List.forall_mem_cons.mpr ⟨am_fr_1_1, fun _ h => absurd h List.not_mem_nil⟩⟩
theorem am_fr_2_16 : am_frP 2 (73, 2, 14) := ⟨_, rfl, by decide, am_wi 1 147 rfl rfl⟩
theorem am_fr_2_15 : am_frP 2 (70, 2, 11) := ⟨_, rfl, by decide, am_wi 1 139 rfl rfl⟩
theorem am_fr_2_14 : am_frP 2 (67, 2, 4) := ⟨_, rfl, by decide, am_wi 1 123 rfl rfl⟩
theorem am_fr_2_13 : am_frP 2 (51, 2, 16) := ⟨_, rfl, by decide, am_wi 1 152 rfl rfl⟩
theorem am_fr_2_12 : am_frP 2 (48, 2, 15) := ⟨_, rfl, by decide, am_wi 1 150 rfl rfl⟩
theorem am_fr_2_11 : am_frP 2 (45, 2, 13) := ⟨_, rfl, by decide, am_wi 1 144 rfl rfl⟩
theorem am_fr_2_10 : am_frP 2 (42, 2, 12) := ⟨_, rfl, by decide, am_wi 1 141 rfl rfl⟩
theorem am_fr_2_9 : am_frP 2 (39, 2, 10) := ⟨_, rfl, by decide, am_wi 1 137 rfl rfl⟩
theorem am_fr_2_8 : am_frP 2 (36, 2, 9) := ⟨_, rfl, by decide, am_wi 1 135 rfl rfl⟩
theorem am_fr_2_7 : am_frP 2 (33, 2, 8) := ⟨_, rfl, by decide, am_wi 1 133 rfl rfl⟩
theorem am_fr_2_6 : am_frP 2 (30, 2, 7) := ⟨_, rfl, by decide, am_wi 1 131 rfl rfl⟩
theorem am_fr_2_5 : am_frP 2 (27, 2, 6) := ⟨_, rfl, by decide, am_wi 1 129 rfl rfl⟩
theorem am_fr_2_4 : am_frP 2 (24, 2, 5) := ⟨_, rfl, by decide, am_wi 1 126 rfl rfl⟩
theorem am_fr_2_3 : am_frP 2 (21, 2, 3) := ⟨_, rfl, by decide, am_wi 1 118 rfl rfl⟩
theorem am_fr_2_2 : am_frP 2 (18, 2, 2) := ⟨_, rfl, by decide, am_wi 1 116 rfl rfl⟩
theorem am_fr_2_1 : am_frP 2 (15, 2, 1) := ⟨_, rfl, by decide, am_wi 1 113 rfl rfl⟩
theorem am_fr_2_0 : am_frP 2 (11, 2, 0) := ⟨_, rfl, by decide, am_wi 1 110 rfl rfl⟩
theorem am_fr_2 : ∀ q ∈ am_fr 2, am_frP 2 q := List.forall_mem_cons.mpr ⟨am_fr_2_0, List.forall_mem_cons.mpr ⟨am_fr_2_1, List.forall_mem_cons.mpr ⟨am_fr_2_2, List.forall_mem_cons.mpr ⟨am_fr_2_3, List.forall_mem_cons.mpr ⟨am_fr_2_4, List.forall_mem_cons.mpr ⟨am_fr_2_5, List.forall_mem_cons.mpr ⟨am_fr_2_6, List.forall_mem_cons.mpr ⟨am_fr_2_7, List.forall_mem_cons.mpr ⟨am_fr_2_8, List.forall_mem_cons.mpr ⟨am_fr_2_9, List.forall_mem_cons.mpr ⟨am_fr_2_10, List.forall_mem_cons.mpr ⟨am_fr_2_11, List.forall_mem_cons.mpr ⟨am_fr_2_12, List.forall_mem_cons.mpr ⟨am_fr_2_13, List.forall_mem_cons.mpr ⟨am_fr_2_14, List.forall_mem_cons.mpr ⟨am_fr_2_15, List.forall_mem_cons.mpr ⟨am_fr_2_16, fun _ h => absurd h List.not_mem_nil⟩⟩⟩⟩⟩⟩⟩⟩⟩⟩⟩⟩⟩⟩⟩⟩⟩
theorem am_fr_3_10 : am_frP 3 (81, 3, 10) := ⟨_, rfl, by decide, am_wi 2 182 rfl rfl⟩
theorem am_fr_3_9 : am_frP 3 (78, 3, 9) := ⟨_, rfl, by decide, am_wi 2 180 rfl rfl⟩
theorem am_fr_3_8 : am_frP 3 (39, 3, 0) := ⟨_, rfl, by decide, am_wi 2 171 rfl rfl⟩
theorem am_fr_3_7 : am_frP 3 (36, 3, 8) := ⟨_, rfl, by decide, am_wi 2 179 rfl rfl⟩
theorem am_fr_3_6 : am_frP 3 (33, 3, 7) := ⟨_, rfl, by decide, am_wi 2 178 rfl rfl⟩
theorem am_fr_3_5 : am_frP 3 (30, 3, 6) := ⟨_, rfl, by decide, am_wi 2 177 rfl rfl⟩
theorem am_fr_3_4 : am_frP 3 (27, 3, 5) := ⟨_, rfl, by decide, am_wi 2 176 rfl rfl⟩
theorem am_fr_3_3 : am_frP 3 (24, 3, 4) := ⟨_, rfl, by decide, am_wi 2 175 rfl rfl⟩
theorem am_fr_3_2 : am_frP 3 (21, 3, 3) := ⟨_, rfl, by decide, am_wi 2 174 rfl rfl⟩
theorem am_fr_3_1 : am_frP 3 (18, 3, 2) := ⟨_, rfl, by decide, am_wi 2 173 rfl rfl⟩
theorem am_fr_3_0 : am_frP 3 (12, 3, 1) := ⟨_, rfl, by decide, am_wi 2 172 rfl rfl⟩
theorem am_fr_3 : ∀ q ∈ am_fr 3, am_frP 3 q := List.forall_mem_cons.mpr ⟨am_fr_3_0, List.forall_mem_cons.mpr ⟨am_fr_3_1, List.forall_mem_cons.mpr ⟨am_fr_3_2, List.forall_mem_cons.mpr ⟨am_fr_3_3, List.forall_mem_cons.mpr ⟨am_fr_3_4, List.forall_mem_cons.mpr ⟨am_fr_3_5, List.forall_mem_cons.mpr ⟨am_fr_3_6, List.forall_mem_cons.mpr ⟨am_fr_3_7, List.forall_mem_cons.mpr ⟨am_fr_3_8, List.forall_mem_cons.mpr ⟨am_fr_3_9, List.forall_mem_cons.mpr ⟨am_fr_3_10, fun _ h => absurd h List.not_mem_nil⟩⟩⟩⟩⟩⟩⟩⟩⟩⟩⟩
theorem am_fr_4_5 : am_frP 4 (38, 8, 1) := ⟨_, rfl, by decide, am_wi 1 81 rfl rfl⟩
theorem am_fr_4_4 : am_frP 4 (34, 4, 2) := ⟨_, rfl, by decide, am_wi 2 6 rfl rfl⟩
theorem am_fr_4_3 : am_frP 4 (25, 8, 0) := ⟨_, rfl, by decide, am_wi 1 78 rfl rfl⟩
theorem am_fr_4_2 : am_frP 4 (22, 8, 2) := ⟨_, rfl, by decide, am_wi 1 84 rfl rfl⟩
theorem am_fr_4_1 : am_frP 4 (13, 4, 1) := ⟨_, rfl, by decide, am_wi 2 5 rfl rfl⟩
theorem am_fr_4_0 : am_frP 4 (7, 4, 0) := ⟨_, rfl, by decide, am_wi 2 2 rfl rfl⟩
theorem am_fr_4 : ∀ q ∈ am_fr 4, am_frP 4 q := List.forall_mem_cons.mpr ⟨am_fr_4_0, List.forall_mem_cons.mpr ⟨am_fr_4_1, List.forall_mem_cons.mpr ⟨am_fr_4_2, List.forall_mem_cons.mpr ⟨am_fr_4_3, List.forall_mem_cons.mpr ⟨am_fr_4_4, List.forall_mem_cons.mpr ⟨am_fr_4_5, fun _ h => absurd h List.not_mem_nil⟩⟩⟩⟩⟩⟩
theorem am_fr_5_19 : am_frP 5 (125, 5, 16) := ⟨_, rfl, by decide, am_wi 2 237 rfl rfl⟩
theorem am_fr_5_18 : am_frP 5 (122, 5, 15) := ⟨_, rfl, by decide, am_wi 2 235 rfl rfl⟩
theorem am_fr_5_17 : am_frP 5 (119, 5, 14) := ⟨_, rfl, by decide, am_wi 2 233 rfl rfl⟩
theorem am_fr_5_16 : am_frP 5 (112, 2, 13) := ⟨_, rfl, by decide, am_wi 1 145 rfl rfl⟩
theorem am_fr_5_15 : am_frP 5 (108, 2, 12) := ⟨_, rfl, by decide, am_wi 1 142 rfl rfl⟩
theorem am_fr_5_14 : am_frP 5 (103, 2, 14) := ⟨_, rfl, by decide, am_wi 1 148 rfl rfl⟩
theorem am_fr_5_13 : am_frP 5 (96, 5, 13) := ⟨_, rfl, by decide, am_wi 2 231 rfl rfl⟩
theorem am_fr_5_12 : am_frP 5 (91, 5, 12) := ⟨_, rfl, by decide, am_wi 2 229 rfl rfl⟩
theorem am_fr_5_11 : am_frP 5 (88, 5, 11) := ⟨_, rfl, by decide, am_wi 2 227 rfl rfl⟩
theorem am_fr_5_10 : am_frP 5 (83, 5, 10) := ⟨_, rfl, by decide, am_wi 2 225 rfl rfl⟩
theorem am_fr_5_9 : am_frP 5 (55, 5, 8) := ⟨_, rfl, by decide, am_wi 2 221 rfl rfl⟩
theorem am_fr_5_8 : am_frP 5 (50, 5, 6) := ⟨_, rfl, by decide, am_wi 2 219 rfl rfl⟩
theorem am_fr_5_7 : am_frP 5 (47, 5, 5) := ⟨_, rfl, by decide, am_wi 2 218 rfl rfl⟩
theorem am_fr_5_6 : am_frP 5 (43, 5, 4) := ⟨_, rfl, by decide, am_wi 2 217 rfl rfl⟩
theorem am_fr_5_5 : am_frP 5 (29, 5, 9) := ⟨_, rfl, by decide, am_wi 2 223 rfl rfl⟩
theorem am_fr_5_4 : am_frP 5 (24, 5, 7) := ⟨_, rfl, by decide, am_wi 2 220 rfl rfl⟩
theorem am_fr_5_3 : am_frP 5 (21, 5, 3) := ⟨_, rfl, by decide, am_wi 2 216 rfl rfl⟩
theorem am_fr_5_2 : am_frP 5 (18, 5, 2) := ⟨_, rfl, by decide, am_wi 2 215 rfl rfl⟩
theorem am_fr_5_1 : am_frP 5 (15, 5, 1) := ⟨_, rfl, by decide, am_wi 2 214 rfl rfl⟩
theorem am_fr_5_0 : am_frP 5 (11, 5, 0) := ⟨_, rfl, by decide, am_wi 2 213 rfl rfl⟩
theorem am_fr_5 : ∀ q ∈ am_fr 5, am_frP 5 q := List.forall_mem_cons.mpr ⟨am_fr_5_0, List.forall_mem_cons.mpr ⟨am_fr_5_1, List.forall_mem_cons.mpr ⟨am_fr_5_2, List.forall_mem_cons.mpr ⟨am_fr_5_3, List.forall_mem_cons.mpr ⟨am_fr_5_4, List.forall_mem_cons.mpr ⟨am_fr_5_5, List.forall_mem_cons.mpr ⟨am_fr_5_6, List.forall_mem_cons.mpr ⟨am_fr_5_7, List.forall_mem_cons.mpr ⟨am_fr_5_8, List.forall_mem_cons.mpr ⟨am_fr_5_9, List.forall_mem_cons.mpr ⟨am_fr_5_10, List.forall_mem_cons.mpr ⟨am_fr_5_11, List.forall_mem_cons.mpr ⟨am_fr_5_12, List.forall_mem_cons.mpr ⟨am_fr_5_13, List.forall_mem_cons.mpr ⟨am_fr_5_14, List.forall_mem_cons.mpr ⟨am_fr_5_15, List.forall_mem_cons.mpr ⟨am_fr_5_16, List.forall_mem_cons.mpr ⟨am_fr_5_17, List.forall_mem_cons.mpr ⟨am_fr_5_18, List.forall_mem_cons.mpr ⟨am_fr_5_19, fun _ h => absurd h List.not_mem_nil⟩⟩⟩⟩⟩⟩⟩⟩⟩⟩⟩⟩⟩⟩⟩⟩⟩⟩⟩⟩
theorem am_fr_6_15 : am_frP 6 (84, 4, 0) := ⟨_, rfl, by decide, am_wi 2 4 rfl rfl⟩
theorem am_fr_6_14 : am_frP 6 (73, 2, 3) := ⟨_, rfl, by decide, am_wi 1 119 rfl rfl⟩
theorem am_fr_6_13 : am_frP 6 (66, 2, 4) := ⟨_, rfl, by decide, am_wi 1 122 rfl rfl⟩
theorem am_fr_6_12 : am_frP 6 (57, 6, 7) := ⟨_, rfl, by decide, am_wi 2 64 rfl rfl⟩
theorem am_fr_6_11 : am_frP 6 (54, 6, 6) := ⟨_, rfl, by decide, am_wi 2 63 rfl rfl⟩
theorem am_fr_6_10 : am_frP 6 (51, 6, 8) := ⟨_, rfl, by decide, am_wi 2 65 rfl rfl⟩
theorem am_fr_6_9 : am_frP 6 (48, 6, 11) := ⟨_, rfl, by decide, am_wi 2 70 rfl rfl⟩
theorem am_fr_6_8 : am_frP 6 (45, 6, 10) := ⟨_, rfl, by decide, am_wi 2 68 rfl rfl⟩
theorem am_fr_6_7 : am_frP 6 (42, 6, 9) := ⟨_, rfl, by decide, am_wi 2 66 rfl rfl⟩
theorem am_fr_6_6 : am_frP 6 (41, 6, 5) := ⟨_, rfl, by decide, am_wi 2 62 rfl rfl⟩
theorem am_fr_6_5 : am_frP 6 (36, 2, 16) := ⟨_, rfl, by decide, am_wi 1 153 rfl rfl⟩
theorem am_fr_6_4 : am_frP 6 (33, 6, 4) := ⟨_, rfl, by decide, am_wi 2 61 rfl rfl⟩
theorem am_fr_6_3 : am_frP 6 (29, 6, 2) := ⟨_, rfl, by decide, am_wi 2 59 rfl rfl⟩
theorem am_fr_6_2 : am_frP 6 (25, 6, 1) := ⟨_, rfl, by decide, am_wi 2 58 rfl rfl⟩
theorem am_fr_6_1 : am_frP 6 (21, 6, 0) := ⟨_, rfl, by decide, am_wi 2 57 rfl rfl⟩
theorem am_fr_6_0 : am_frP 6 (9, 6, 3) := ⟨_, rfl, by decide, am_wi 2 60 rfl rfl⟩
theorem am_fr_6 : ∀ q ∈ am_fr 6, am_frP 6 q := List.forall_mem_cons.mpr ⟨am_fr_6_0, List.forall_mem_cons.mpr ⟨am_fr_6_1, List.forall_mem_cons.mpr ⟨am_fr_6_2, List.forall_mem_cons.mpr ⟨am_fr_6_3, List.forall_mem_cons.mpr ⟨am_fr_6_4, List.forall_mem_cons.mpr ⟨am_fr_6_5, List.forall_mem_cons.mpr ⟨am_fr_6_6, List.forall_mem_cons.mpr ⟨am_fr_6_7, List.forall_mem_cons.mpr ⟨am_fr_6_8, List.forall_mem_cons.mpr ⟨am_fr_6_9, List.forall_mem_cons.mpr ⟨am_fr_6_10, List.forall_mem_cons.mpr ⟨am_fr_6_11, List.forall_mem_cons.mpr ⟨am_fr_6_12, List.forall_mem_cons.mpr ⟨am_fr_6_13, List.forall_mem_cons.mpr ⟨am_fr_6_14, List.forall_mem_cons.mpr ⟨am_fr_6_15, fun _ h => absurd h List.not_mem_nil⟩⟩⟩⟩⟩⟩⟩⟩⟩⟩⟩⟩⟩⟩⟩⟩
theorem am_fr_7_15 : am_frP 7 (104, 8, 0) := ⟨_, rfl, by decide, am_wi 1 79 rfl rfl⟩
theorem am_fr_7_14 : am_frP 7 (101, 7, 10) := ⟨_, rfl, by decide, am_wi 1 209 rfl rfl⟩
theorem am_fr_7_13 : am_frP 7 (72, 8, 2) := ⟨_, rfl, by decide, am_wi 1 85 rfl rfl⟩
theorem am_fr_7_12 : am_frP 7 (66, 7, 6) := ⟨_, rfl, by decide, am_wi 1 205 rfl rfl⟩
theorem am_fr_7_11 : am_frP 7 (55, 7, 11) := ⟨_, rfl, by decide, am_wi 1 210 rfl rfl⟩
theorem am_fr_7_10 : am_frP 7 (49, 7, 9) := ⟨_, rfl, by decide, am_wi 1 208 rfl rfl⟩
theorem am_fr_7_9 : am_frP 7 (43, 8, 1) := ⟨_, rfl, by decide, am_wi 1 82 rfl rfl⟩
theorem am_fr_7_8 : am_frP 7 (40, 7, 8) := ⟨_, rfl, by decide, am_wi 1 207 rfl rfl⟩
theorem am_fr_7_7 : am_frP 7 (37, 7, 7) := ⟨_, rfl, by decide, am_wi 1 206 rfl rfl⟩
theorem am_fr_7_6 : am_frP 7 (34, 7, 5) := ⟨_, rfl, by decide, am_wi 1 204 rfl rfl⟩
theorem am_fr_7_5 : am_frP 7 (31, 8, 3) := ⟨_, rfl, by decide, am_wi 1 87 rfl rfl⟩
theorem am_fr_7_4 : am_frP 7 (27, 7, 4) := ⟨_, rfl, by decide, am_wi 1 203 rfl rfl⟩
theorem am_fr_7_3 : am_frP 7 (24, 7, 1) := ⟨_, rfl, by decide, am_wi 1 197 rfl rfl⟩
theorem am_fr_7_2 : am_frP 7 (21, 7, 3) := ⟨_, rfl, by decide, am_wi 1 201 rfl rfl⟩
theorem am_fr_7_1 : am_frP 7 (17, 7, 2) := ⟨_, rfl, by decide, am_wi 1 199 rfl rfl⟩
theorem am_fr_7_0 : am_frP 7 (11, 7, 0) := ⟨_, rfl, by decide, am_wi 1 196 rfl rfl⟩
theorem am_fr_7 : ∀ q ∈ am_fr 7, am_frP 7 q := List.forall_mem_cons.mpr ⟨am_fr_7_0, List.forall_mem_cons.mpr ⟨am_fr_7_1, List.forall_mem_cons.mpr ⟨am_fr_7_2, List.forall_mem_cons.mpr ⟨am_fr_7_3, List.forall_mem_cons.mpr ⟨am_fr_7_4, List.forall_mem_cons.mpr ⟨am_fr_7_5, List.forall_mem_cons.mpr ⟨am_fr_7_6, List.forall_mem_cons.mpr ⟨am_fr_7_7, List.forall_mem_cons.mpr ⟨am_fr_7_8, List.forall_mem_cons.mpr ⟨am_fr_7_9, List.forall_mem_cons.mpr ⟨am_fr_7_10, List.forall_mem_cons.mpr ⟨am_fr_7_11, List.forall_mem_cons.mpr ⟨am_fr_7_12, List.forall_mem_cons.mpr ⟨am_fr_7_13, List.forall_mem_cons.mpr ⟨am_fr_7_14, List.forall_mem_cons.mpr ⟨am_fr_7_15, fun _ h => absurd h List.not_mem_nil⟩⟩⟩⟩⟩⟩⟩⟩⟩⟩⟩⟩⟩⟩⟩⟩
theorem am_fr_8_4 : am_frP 8 (37, 8, 3) := ⟨_, rfl, by decide, am_wi 1 86 rfl rfl⟩
theorem am_fr_8_3 : am_frP 8 (21, 8, 4) := ⟨_, rfl, by decide, am_wi 1 89 rfl rfl⟩
theorem am_fr_8_2 : am_frP 8 (18, 8, 2) := ⟨_, rfl, by decide, am_wi 1 83 rfl rfl⟩
theorem am_fr_8_1 : am_frP 8 (15, 8, 1) := ⟨_, rfl, by decide, am_wi 1 80 rfl rfl⟩
theorem am_fr_8_0 : am_frP 8 (11, 8, 0) := ⟨_, rfl, by decide, am_wi 1 77 rfl rfl⟩
theorem am_fr_8 : ∀ q ∈ am_fr 8, am_frP 8 q := List.forall_mem_cons.mpr ⟨am_fr_8_0, List.forall_mem_cons.mpr ⟨am_fr_8_1, List.forall_mem_cons.mpr ⟨am_fr_8_2, List.forall_mem_cons.mpr ⟨am_fr_8_3, List.forall_mem_cons.mpr ⟨am_fr_8_4, fun _ h => absurd h List.not_mem_nil⟩⟩⟩⟩⟩
theorem am_fr_9_4 : am_frP 9 (24, 9, 0) := ⟨_, rfl, by decide, am_wi 1 45 rfl rfl⟩
theorem am_fr_9_3 : am_frP 9 (21, 9, 4) := ⟨_, rfl, by decide, am_wi 1 55 rfl rfl⟩
theorem am_fr_9_2 : am_frP 9 (18, 9, 3) := ⟨_, rfl, by decide, am_wi 1 52 rfl rfl⟩
theorem am_fr_9_1 : am_frP 9 (15, 9, 2) := ⟨_, rfl, by decide, am_wi 1 49 rfl rfl⟩
theorem am_fr_9_0 : am_frP 9 (9, 9, 1) := ⟨_, rfl, by decide, am_wi 1 46 rfl rfl⟩
theorem am_fr_9 : ∀ q ∈ am_fr 9, am_frP 9 q := List.forall_mem_cons.mpr ⟨am_fr_9_0, List.forall_mem_cons.mpr ⟨am_fr_9_1, List.forall_mem_cons.mpr ⟨am_fr_9_2, List.forall_mem_cons.mpr ⟨am_fr_9_3, List.forall_mem_cons.mpr ⟨am_fr_9_4, fun _ h => absurd h List.not_mem_nil⟩⟩⟩⟩⟩
theorem am_fr_10_19 : am_frP 10 (128, 9, 2) := ⟨_, rfl, by decide, am_wi 1 51 rfl rfl⟩
theorem am_fr_10_18 : am_frP 10 (112, 2, 5) := ⟨_, rfl, by decide, am_wi 1 127 rfl rfl⟩
theorem am_fr_10_17 : am_frP 10 (83, 2, 1) := ⟨_, rfl, by decide, am_wi 1 114 rfl rfl⟩
theorem am_fr_10_16 : am_frP 10 (80, 2, 0) := ⟨_, rfl, by decide, am_wi 1 111 rfl rfl⟩
theorem am_fr_10_15 : am_frP 10 (77, 2, 3) := ⟨_, rfl, by decide, am_wi 1 120 rfl rfl⟩
theorem am_fr_10_14 : am_frP 10 (72, 2, 4) := ⟨_, rfl, by decide, am_wi 1 124 rfl rfl⟩
theorem am_fr_10_13 : am_frP 10 (58, 10, 2) := ⟨_, rfl, by decide, am_wi 2 119 rfl rfl⟩
theorem am_fr_10_12 : am_frP 10 (54, 10, 1) := ⟨_, rfl, by decide, am_wi 2 118 rfl rfl⟩
theorem am_fr_10_11 : am_frP 10 (50, 10, 0) := ⟨_, rfl, by decide, am_wi 2 117 rfl rfl⟩
theorem am_fr_10_10 : am_frP 10 (47, 10, 13) := ⟨_, rfl, by decide, am_wi 2 133 rfl rfl⟩
theorem am_fr_10_9 : am_frP 10 (44, 10, 12) := ⟨_, rfl, by decide, am_wi 2 132 rfl rfl⟩
theorem am_fr_10_8 : am_frP 10 (40, 10, 11) := ⟨_, rfl, by decide, am_wi 2 131 rfl rfl⟩
theorem am_fr_10_7 : am_frP 10 (36, 10, 10) := ⟨_, rfl, by decide, am_wi 2 130 rfl rfl⟩
theorem am_fr_10_6 : am_frP 10 (32, 10, 9) := ⟨_, rfl, by decide, am_wi 2 129 rfl rfl⟩
theorem am_fr_10_5 : am_frP 10 (27, 10, 8) := ⟨_, rfl, by decide, am_wi 2 128 rfl rfl⟩
theorem am_fr_10_4 : am_frP 10 (24, 10, 7) := ⟨_, rfl, by decide, am_wi 2 127 rfl rfl⟩
theorem am_fr_10_3 : am_frP 10 (21, 10, 6) := ⟨_, rfl, by decide, am_wi 2 126 rfl rfl⟩
theorem am_fr_10_2 : am_frP 10 (18, 10, 5) := ⟨_, rfl, by decide, am_wi 2 124 rfl rfl⟩
theorem am_fr_10_1 : am_frP 10 (15, 10, 4) := ⟨_, rfl, by decide, am_wi 2 122 rfl rfl⟩
theorem am_fr_10_0 : am_frP 10 (9, 10, 3) := ⟨_, rfl, by decide, am_wi 2 120 rfl rfl⟩
theorem am_fr_10 : ∀ q ∈ am_fr 10, am_frP 10 q := List.forall_mem_cons.mpr ⟨am_fr_10_0, List.forall_mem_cons.mpr ⟨am_fr_10_1, List.forall_mem_cons.mpr ⟨am_fr_10_2, List.forall_mem_cons.mpr ⟨am_fr_10_3, List.forall_mem_cons.mpr ⟨am_fr_10_4, List.forall_mem_cons.mpr ⟨am_fr_10_5, List.forall_mem_cons.mpr ⟨am_fr_10_6, List.forall_mem_cons.mpr ⟨am_fr_10_7, List.forall_mem_cons.mpr ⟨am_fr_10_8, List.forall_mem_cons.mpr ⟨am_fr_10_9, List.forall_mem_cons.mpr ⟨am_fr_10_10, List.forall_mem_cons.mpr ⟨am_fr_10_11, List.forall_mem_cons.mpr ⟨am_fr_10_12, List.forall_mem_cons.mpr ⟨am_fr_10_13, List.forall_mem_cons.mpr ⟨am_fr_10_14, List.forall_mem_cons.mpr ⟨am_fr_10_15, List.forall_mem_cons.mpr ⟨am_fr_10_16, List.forall_mem_cons.mpr ⟨am_fr_10_17, List.forall_mem_cons.mpr ⟨am_fr_10_18, List.forall_mem_cons.mpr ⟨am_fr_10_19, fun _ h => absurd h List.not_mem_nil⟩⟩⟩⟩⟩⟩⟩⟩⟩⟩⟩⟩⟩⟩⟩⟩⟩⟩⟩⟩
theorem am_fr_11_61 : am_frP 11 (402, 11, 14) := ⟨_, rfl, by decide, am_wi 3 49 rfl rfl⟩
theorem am_fr_11_60 : am_frP 11 (378, 5, 16) := ⟨_, rfl, by decide, am_wi 2 238 rfl rfl⟩
theorem am_fr_11_59 : am_frP 11 (375, 5, 15) := ⟨_, rfl, by decide, am_wi 2 236 rfl rfl⟩
theorem am_fr_11_58 : am_frP 11 (372, 5, 14) := ⟨_, rfl, by decide, am_wi 2 234 rfl rfl⟩
theorem am_fr_11_57 : am_frP 11 (371, 5, 13) := ⟨_, rfl, by decide, am_wi 2 232 rfl rfl⟩
theorem am_fr_11_56 : am_frP 11 (363, 5, 12) := ⟨_, rfl, by decide, am_wi 2 230 rfl rfl⟩
theorem am_fr_11_55 : am_frP 11 (360, 2, 13) := ⟨_, rfl, by decide, am_wi 1 146 rfl rfl⟩
theorem am_fr_11_54 : am_frP 11 (357, 2, 12) := ⟨_, rfl, by decide, am_wi 1 143 rfl rfl⟩
theorem am_fr_11_53 : am_frP 11 (354, 2, 14) := ⟨_, rfl, by decide, am_wi 1 149 rfl rfl⟩
theorem am_fr_11_52 : am_frP 11 (351, 5, 11) := ⟨_, rfl, by decide, am_wi 2 228 rfl rfl⟩
theorem am_fr_11_51 : am_frP 11 (348, 5, 10) := ⟨_, rfl, by decide, am_wi 2 226 rfl rfl⟩
theorem am_fr_11_50 : am_frP 11 (335, 2, 10) := ⟨_, rfl, by decide, am_wi 1 138 rfl rfl⟩
theorem am_fr_11_49 : am_frP 11 (332, 2, 9) := ⟨_, rfl, by decide, am_wi 1 136 rfl rfl⟩
theorem am_fr_11_48 : am_frP 11 (329, 2, 8) := ⟨_, rfl, by decide, am_wi 1 134 rfl rfl⟩
theorem am_fr_11_47 : am_frP 11 (323, 2, 11) := ⟨_, rfl, by decide, am_wi 1 140 rfl rfl⟩
theorem am_fr_11_46 : am_frP 11 (320, 6, 11) := ⟨_, rfl, by decide, am_wi 2 71 rfl rfl⟩
theorem am_fr_11_45 : am_frP 11 (318, 6, 10) := ⟨_, rfl, by decide, am_wi 2 69 rfl rfl⟩
theorem am_fr_11_44 : am_frP 11 (315, 6, 9) := ⟨_, rfl, by decide, am_wi 2 67 rfl rfl⟩
theorem am_fr_11_43 : am_frP 11 (305, 5, 9) := ⟨_, rfl, by decide, am_wi 2 224 rfl rfl⟩
theorem am_fr_11_42 : am_frP 11 (302, 5, 8) := ⟨_, rfl, by decide, am_wi 2 222 rfl rfl⟩
theorem am_fr_11_41 : am_frP 11 (287, 3, 10) := ⟨_, rfl, by decide, am_wi 2 183 rfl rfl⟩
theorem am_fr_11_40 : am_frP 11 (284, 3, 9) := ⟨_, rfl, by decide, am_wi 2 181 rfl rfl⟩
theorem am_fr_11_39 : am_frP 11 (249, 10, 5) := ⟨_, rfl, by decide, am_wi 2 125 rfl rfl⟩
theorem am_fr_11_38 : am_frP 11 (246, 10, 4) := ⟨_, rfl, by decide, am_wi 2 123 rfl rfl⟩
theorem am_fr_11_37 : am_frP 11 (243, 10, 3) := ⟨_, rfl, by decide, am_wi 2 121 rfl rfl⟩
theorem am_fr_11_36 : am_frP 11 (237, 2, 5) := ⟨_, rfl, by decide, am_wi 1 128 rfl rfl⟩
theorem am_fr_11_35 : am_frP 11 (234, 2, 3) := ⟨_, rfl, by decide, am_wi 1 121 rfl rfl⟩
theorem am_fr_11_34 : am_frP 11 (231, 2, 2) := ⟨_, rfl, by decide, am_wi 1 117 rfl rfl⟩
theorem am_fr_11_33 : am_frP 11 (228, 2, 1) := ⟨_, rfl, by decide, am_wi 1 115 rfl rfl⟩
theorem am_fr_11_32 : am_frP 11 (225, 2, 0) := ⟨_, rfl, by decide, am_wi 1 112 rfl rfl⟩
theorem am_fr_11_31 : am_frP 11 (218, 2, 4) := ⟨_, rfl, by decide, am_wi 1 125 rfl rfl⟩
theorem am_fr_11_30 : am_frP 11 (208, 2, 6) := ⟨_, rfl, by decide, am_wi 1 130 rfl rfl⟩
theorem am_fr_11_29 : am_frP 11 (202, 2, 7) := ⟨_, rfl, by decide, am_wi 1 132 rfl rfl⟩
theorem am_fr_11_28 : am_frP 11 (188, 0, 7) := ⟨_, rfl, by decide, am_wi 2 32 rfl rfl⟩
theorem am_fr_11_27 : am_frP 11 (185, 0, 6) := ⟨_, rfl, by decide, am_wi 2 30 rfl rfl⟩
theorem am_fr_11_26 : am_frP 11 (182, 0, 5) := ⟨_, rfl, by decide, am_wi 2 28 rfl rfl⟩
theorem am_fr_11_25 : am_frP 11 (179, 0, 4) := ⟨_, rfl, by decide, am_wi 2 26 rfl rfl⟩
theorem am_fr_11_24 : am_frP 11 (168, 8, 4) := ⟨_, rfl, by decide, am_wi 1 91 rfl rfl⟩
theorem am_fr_11_23 : am_frP 11 (165, 7, 3) := ⟨_, rfl, by decide, am_wi 1 202 rfl rfl⟩
theorem am_fr_11_22 : am_frP 11 (162, 7, 2) := ⟨_, rfl, by decide, am_wi 1 200 rfl rfl⟩
theorem am_fr_11_21 : am_frP 11 (155, 8, 3) := ⟨_, rfl, by decide, am_wi 1 88 rfl rfl⟩
theorem am_fr_11_20 : am_frP 11 (152, 7, 1) := ⟨_, rfl, by decide, am_wi 1 198 rfl rfl⟩
theorem am_fr_11_19 : am_frP 11 (142, 2, 16) := ⟨_, rfl, by decide, am_wi 1 154 rfl rfl⟩
theorem am_fr_11_18 : am_frP 11 (139, 2, 15) := ⟨_, rfl, by decide, am_wi 1 151 rfl rfl⟩
theorem am_fr_11_17 : am_frP 11 (136, 9, 4) := ⟨_, rfl, by decide, am_wi 1 57 rfl rfl⟩
theorem am_fr_11_16 : am_frP 11 (133, 9, 3) := ⟨_, rfl, by decide, am_wi 1 53 rfl rfl⟩
theorem am_fr_11_15 : am_frP 11 (123, 9, 2) := ⟨_, rfl, by decide, am_wi 1 50 rfl rfl⟩
theorem am_fr_11_14 : am_frP 11 (120, 9, 1) := ⟨_, rfl, by decide, am_wi 1 47 rfl rfl⟩
theorem am_fr_11_13 : am_frP 11 (105, 11, 13) := ⟨_, rfl, by decide, am_wi 3 48 rfl rfl⟩
theorem am_fr_11_12 : am_frP 11 (101, 11, 12) := ⟨_, rfl, by decide, am_wi 3 47 rfl rfl⟩
theorem am_fr_11_11 : am_frP 11 (94, 11, 11) := ⟨_, rfl, by decide, am_wi 3 46 rfl rfl⟩
theorem am_fr_11_10 : am_frP 11 (87, 11, 10) := ⟨_, rfl, by decide, am_wi 3 45 rfl rfl⟩
theorem am_fr_11_9 : am_frP 11 (78, 11, 9) := ⟨_, rfl, by decide, am_wi 3 44 rfl rfl⟩
theorem am_fr_11_8 : am_frP 11 (69, 11, 8) := ⟨_, rfl, by decide, am_wi 3 43 rfl rfl⟩
theorem am_fr_11_7 : am_frP 11 (57, 11, 7) := ⟨_, rfl, by decide, am_wi 3 42 rfl rfl⟩
theorem am_fr_11_6 : am_frP 11 (51, 11, 6) := ⟨_, rfl, by decide, am_wi 3 41 rfl rfl⟩
theorem am_fr_11_5 : am_frP 11 (48, 11, 5) := ⟨_, rfl, by decide, am_wi 3 40 rfl rfl⟩
theorem am_fr_11_4 : am_frP 11 (45, 11, 4) := ⟨_, rfl, by decide, am_wi 3 39 rfl rfl⟩
theorem am_fr_11_3 : am_frP 11 (41, 11, 3) := ⟨_, rfl, by decide, am_wi 3 38 rfl rfl⟩
theorem am_fr_11_2 : am_frP 11 (34, 11, 2) := ⟨_, rfl, by decide, am_wi 3 37 rfl rfl⟩
theorem am_fr_11_1 : am_frP 11 (27, 11, 1) := ⟨_, rfl, by decide, am_wi 3 36 rfl rfl⟩
theorem am_fr_11_0 : am_frP 11 (18, 11, 0) := ⟨_, rfl, by decide, am_wi 3 35 rfl rfl⟩
theorem am_fr_11 : ∀ q ∈ am_fr 11, am_frP 11 q := List.forall_mem_cons.mpr ⟨am_fr_11_0, List.forall_mem_cons.mpr ⟨am_fr_11_1, List.forall_mem_cons.mpr ⟨am_fr_11_2, List.forall_mem_cons.mpr ⟨am_fr_11_3, List.forall_mem_cons.mpr ⟨am_fr_11_4, List.forall_mem_cons.mpr ⟨am_fr_11_5, List.forall_mem_cons.mpr ⟨am_fr_11_6, List.forall_mem_cons.mpr ⟨am_fr_11_7, List.forall_mem_cons.mpr ⟨am_fr_11_8, List.forall_mem_cons.mpr ⟨am_fr_11_9, List.forall_mem_cons.mpr ⟨am_fr_11_10, List.forall_mem_cons.mpr ⟨am_fr_11_11, List.forall_mem_cons.mpr ⟨am_fr_11_12, List.forall_mem_cons.mpr ⟨am_fr_11_13, List.forall_mem_cons.mpr ⟨am_fr_11_14, List.forall_mem_cons.mpr ⟨am_fr_11_15, List.forall_mem_cons.mpr ⟨am_fr_11_16, List.forall_mem_cons.mpr ⟨am_fr_11_17, List.forall_mem_cons.mpr ⟨am_fr_11_18, List.forall_mem_cons.mpr ⟨am_fr_11_19, List.forall_mem_cons.mpr ⟨am_fr_11_20, List.forall_mem_cons.mpr ⟨am_fr_11_21, List.forall_mem_cons.mpr ⟨am_fr_11_22, List.forall_mem_cons.mpr ⟨am_fr_11_23, List.forall_mem_cons.mpr ⟨am_fr_11_24, List.forall_mem_cons.mpr ⟨am_fr_11_25, List.forall_mem_cons.mpr ⟨am_fr_11_26, List.forall_mem_cons.mpr ⟨am_fr_11_27, List.forall_mem_cons.mpr ⟨am_fr_11_28, List.forall_mem_cons.mpr ⟨am_fr_11_29, List.forall_mem_cons.mpr ⟨am_fr_11_30, List.forall_mem_cons.mpr ⟨am_fr_11_31, List.forall_mem_cons.mpr ⟨am_fr_11_32, List.forall_mem_cons.mpr ⟨am_fr_11_33, List.forall_mem_cons.mpr ⟨am_fr_11_34, List.forall_mem_cons.mpr ⟨am_fr_11_35, List.forall_mem_cons.mpr ⟨am_fr_11_36, List.forall_mem_cons.mpr ⟨am_fr_11_37, List.forall_mem_cons.mpr ⟨am_fr_11_38, List.forall_mem_cons.mpr ⟨am_fr_11_39, List.forall_mem_cons.mpr ⟨am_fr_11_40, List.forall_mem_cons.mpr ⟨am_fr_11_41, List.forall_mem_cons.mpr ⟨am_fr_11_42, List.forall_mem_cons.mpr ⟨am_fr_11_43, List.forall_mem_cons.mpr ⟨am_fr_11_44, List.forall_mem_cons.mpr ⟨am_fr_11_45, List.forall_mem_cons.mpr ⟨am_fr_11_46, List.forall_mem_cons.mpr ⟨am_fr_11_47, List.forall_mem_cons.mpr ⟨am_fr_11_48, List.forall_mem_cons.mpr ⟨am_fr_11_49, List.forall_mem_cons.mpr ⟨am_fr_11_50, List.forall_mem_cons.mpr ⟨am_fr_11_51, List.forall_mem_cons.mpr ⟨am_fr_11_52, List.forall_mem_cons.mpr ⟨am_fr_11_53, List.forall_mem_cons.mpr ⟨am_fr_11_54, List.forall_mem_cons.mpr ⟨am_fr_11_55, List.forall_mem_cons.mpr ⟨am_fr_11_56, List.forall_mem_cons.mpr ⟨am_fr_11_57, List.forall_mem_cons.mpr ⟨am_fr_11_58, List.forall_mem_cons.mpr ⟨am_fr_11_59, List.forall_mem_cons.mpr ⟨am_fr_11_60, List.forall_mem_cons.mpr ⟨am_fr_11_61, fun _ h => absurd h List.not_mem_nil⟩⟩⟩⟩⟩⟩⟩⟩⟩⟩⟩⟩⟩⟩⟩⟩⟩⟩⟩⟩⟩⟩⟩⟩⟩⟩⟩⟩⟩⟩⟩⟩⟩⟩⟩⟩⟩⟩⟩⟩⟩⟩⟩⟩⟩⟩⟩⟩⟩⟩⟩⟩⟩⟩⟩⟩⟩⟩⟩⟩⟩⟩
theorem am_fr_12_36 : am_frP 12 (340, 12, 33) := ⟨_, rfl, by decide, am_wi 6 72 rfl rfl⟩
theorem am_fr_12_35 : am_frP 12 (328, 12, 31) := ⟨_, rfl, by decide, am_wi 6 70 rfl rfl⟩
theorem am_fr_12_34 : am_frP 12 (235, 12, 26) := ⟨_, rfl, by decide, am_wi 6 65 rfl rfl⟩
theorem am_fr_12_33 : am_frP 12 (232, 12, 25) := ⟨_, rfl, by decide, am_wi 6 64 rfl rfl⟩
theorem am_fr_12_32 : am_frP 12 (229, 12, 24) := ⟨_, rfl, by decide, am_wi 6 63 rfl rfl⟩
theorem am_fr_12_31 : am_frP 12 (198, 12, 17) := ⟨_, rfl, by decide, am_wi 6 56 rfl rfl⟩
theorem am_fr_12_30 : am_frP 12 (168, 12, 6) := ⟨_, rfl, by decide, am_wi 6 46 rfl rfl⟩
theorem am_fr_12_29 : am_frP 12 (143, 12, 20) := ⟨_, rfl, by decide, am_wi 6 59 rfl rfl⟩
theorem am_fr_12_28 : am_frP 12 (139, 12, 21) := ⟨_, rfl, by decide, am_wi 6 60 rfl rfl⟩
theorem am_fr_12_27 : am_frP 12 (136, 12, 19) := ⟨_, rfl, by decide, am_wi 6 58 rfl rfl⟩
theorem am_fr_12_26 : am_frP 12 (133, 12, 16) := ⟨_, rfl, by decide, am_wi 6 55 rfl rfl⟩
theorem am_fr_12_25 : am_frP 12 (130, 12, 14) := ⟨_, rfl, by decide, am_wi 6 54 rfl rfl⟩
theorem am_fr_12_24 : am_frP 12 (118, 12, 13) := ⟨_, rfl, by decide, am_wi 6 53 rfl rfl⟩
theorem am_fr_12_23 : am_frP 12 (111, 12, 12) := ⟨_, rfl, by decide, am_wi 6 52 rfl rfl⟩
theorem am_fr_12_22 : am_frP 12 (105, 12, 11) := ⟨_, rfl, by decide, am_wi 6 51 rfl rfl⟩
theorem am_fr_12_21 : am_frP 12 (102, 12, 10) := ⟨_, rfl, by decide, am_wi 6 50 rfl rfl⟩
theorem am_fr_12_20 : am_frP 12 (95, 12, 9) := ⟨_, rfl, by decide, am_wi 6 49 rfl rfl⟩
theorem am_fr_12_19 : am_frP 12 (88, 12, 5) := ⟨_, rfl, by decide, am_wi 6 45 rfl rfl⟩
theorem am_fr_12_18 : am_frP 12 (67, 12, 0) := ⟨_, rfl, by decide, am_wi 6 40 rfl rfl⟩
theorem am_fr_12_17 : am_frP 12 (64, 12, 37) := ⟨_, rfl, by decide, am_wi 6 76 rfl rfl⟩
theorem am_fr_12_16 : am_frP 12 (61, 12, 36) := ⟨_, rfl, by decide, am_wi 6 75 rfl rfl⟩
theorem am_fr_12_15 : am_frP 12 (58, 12, 35) := ⟨_, rfl, by decide, am_wi 6 74 rfl rfl⟩
theorem am_fr_12_14 : am_frP 12 (54, 12, 34) := ⟨_, rfl, by decide, am_wi 6 73 rfl rfl⟩
theorem am_fr_12_13 : am_frP 12 (51, 12, 32) := ⟨_, rfl, by decide, am_wi 6 71 rfl rfl⟩
theorem am_fr_12_12 : am_frP 12 (48, 12, 30) := ⟨_, rfl, by decide, am_wi 6 69 rfl rfl⟩
theorem am_fr_12_11 : am_frP 12 (45, 12, 29) := ⟨_, rfl, by decide, am_wi 6 68 rfl rfl⟩
theorem am_fr_12_10 : am_frP 12 (42, 12, 28) := ⟨_, rfl, by decide, am_wi 6 67 rfl rfl⟩
theorem am_fr_12_9 : am_frP 12 (39, 12, 27) := ⟨_, rfl, by decide, am_wi 6 66 rfl rfl⟩
theorem am_fr_12_8 : am_frP 12 (35, 12, 23) := ⟨_, rfl, by decide, am_wi 6 62 rfl rfl⟩
theorem am_fr_12_7 : am_frP 12 (32, 12, 22) := ⟨_, rfl, by decide, am_wi 6 61 rfl rfl⟩
theorem am_fr_12_6 : am_frP 12 (29, 12, 18) := ⟨_, rfl, by decide, am_wi 6 57 rfl rfl⟩
theorem am_fr_12_5 : am_frP 12 (26, 12, 8) := ⟨_, rfl, by decide, am_wi 6 48 rfl rfl⟩
theorem am_fr_12_4 : am_frP 12 (22, 12, 7) := ⟨_, rfl, by decide, am_wi 6 47 rfl rfl⟩
theorem am_fr_12_3 : am_frP 12 (19, 12, 4) := ⟨_, rfl, by decide, am_wi 6 44 rfl rfl⟩
theorem am_fr_12_2 : am_frP 12 (16, 12, 3) := ⟨_, rfl, by decide, am_wi 6 43 rfl rfl⟩
theorem am_fr_12_1 : am_frP 12 (13, 12, 2) := ⟨_, rfl, by decide, am_wi 6 42 rfl rfl⟩
theorem am_fr_12_0 : am_frP 12 (7, 12, 1) := ⟨_, rfl, by decide, am_wi 6 41 rfl rfl⟩
theorem am_fr_12 : ∀ q ∈ am_fr 12, am_frP 12 q := List.forall_mem_cons.mpr ⟨am_fr_12_0, List.forall_mem_cons.mpr ⟨am_fr_12_1, List.forall_mem_cons.mpr ⟨am_fr_12_2, List.forall_mem_cons.mpr ⟨am_fr_12_3, List.forall_mem_cons.mpr ⟨am_fr_12_4, List.forall_mem_cons.mpr ⟨am_fr_12_5, List.forall_mem_cons.mpr ⟨am_fr_12_6, List.forall_mem_cons.mpr ⟨am_fr_12_7, List.forall_mem_cons.mpr ⟨am_fr_12_8, List.forall_mem_cons.mpr ⟨am_fr_12_9, List.forall_mem_cons.mpr ⟨am_fr_12_10, List.forall_mem_cons.mpr ⟨am_fr_12_11, List.forall_mem_cons.mpr ⟨am_fr_12_12, List.forall_mem_cons.mpr ⟨am_fr_12_13, List.forall_mem_cons.mpr ⟨am_fr_12_14, List.forall_mem_cons.mpr ⟨am_fr_12_15, List.forall_mem_cons.mpr ⟨am_fr_12_16, List.forall_mem_cons.mpr ⟨am_fr_12_17, List.forall_mem_cons.mpr ⟨am_fr_12_18, List.forall_mem_cons.mpr ⟨am_fr_12_19, List.forall_mem_cons.mpr ⟨am_fr_12_20, List.forall_mem_cons.mpr ⟨am_fr_12_21, List.forall_mem_cons.mpr ⟨am_fr_12_22, List.forall_mem_cons.mpr ⟨am_fr_12_23, List.forall_mem_cons.mpr ⟨am_fr_12_24, List.forall_mem_cons.mpr ⟨am_fr_12_25, List.forall_mem_cons.mpr ⟨am_fr_12_26, List.forall_mem_cons.mpr ⟨am_fr_12_27, List.forall_mem_cons.mpr ⟨am_fr_12_28, List.forall_mem_cons.mpr ⟨am_fr_12_29, List.forall_mem_cons.mpr ⟨am_fr_12_30, List.forall_mem_cons.mpr ⟨am_fr_12_31, List.forall_mem_cons.mpr ⟨am_fr_12_32, List.forall_mem_cons.mpr ⟨am_fr_12_33, List.forall_mem_cons.mpr ⟨am_fr_12_34, List.forall_mem_cons.mpr ⟨am_fr_12_35, List.forall_mem_cons.mpr ⟨am_fr_12_36, fun _ h => absurd h List.not_mem_nil⟩⟩⟩⟩⟩⟩⟩⟩⟩⟩⟩⟩⟩⟩⟩⟩⟩⟩⟩⟩⟩⟩⟩⟩⟩⟩⟩⟩⟩⟩⟩⟩⟩⟩⟩⟩⟩
theorem am_fr_13 : ∀ q ∈ am_fr 13, am_frP 13 q := fun _ h => absurd h List.not_mem_nil
theorem am_fr_14 : ∀ q ∈ am_fr 14, am_frP 14 q := fun _ h => absurd h List.not_mem_nil
theorem am_fr_15 : ∀ q ∈ am_fr 15, am_frP 15 q := fun _ h => absurd h List.not_mem_nil
theorem am_fr_all {c : Nat} {q : (Nat × Nat × Nat)} (h : q ∈ am_fr c) : am_frP c q := by
  match c, h with
  | 0, h => exact am_fr_0 _ h
  | 1, h => exact am_fr_1 _ h
  | 2, h => exact am_fr_2 _ h
  | 3, h => exact am_fr_3 _ h
  | 4, h => exact am_fr_4 _ h
  | 5, h => exact am_fr_5 _ h
  | 6, h => exact am_fr_6 _ h
  | 7, h => exact am_fr_7 _ h
  | 8, h => exact am_fr_8 _ h
  | 9, h => exact am_fr_9 _ h
  | 10, h => exact am_fr_10 _ h
  | 11, h => exact am_fr_11 _ h
  | 12, h => exact am_fr_12 _ h
  | 13, h => exact am_fr_13 _ h
  | 14, h => exact am_fr_14 _ h
  | 15, h => exact am_fr_15 _ h
  | c + 16, h => exact absurd h (by simp [am_fr])
def am_mr (k : Nat) : List (Nat × Nat) := ([[(33, 255), (48, 2), (57, 38), (61, 257), (70, 253), (76, 3), (80, 259)], [(17, 255), (23, 257), (34, 15), (38, 16), (41, 6), (45, 14), (48, 7), (52, 12)], [(55, 259)], [(11, 4), (43, 36), (47, 7), (51, 35), (56, 13), (60, 29), (64, 12), (68, 5), (71, 31), (75, 32), (84, 6), (87, 11), (90, 34), (94, 10), (97, 8), (100, 9)], [(16, 79), (28, 257), (41, 39), (45, 40), (48, 131), (54, 41), (58, 42), (62, 255), (69, 258), (72, 256)], [(39, 45), (60, 257), (66, 46), (76, 258), (79, 48), (99, 50), (115, 254)], [(15, 255), (60, 259), (69, 21), (76, 53), (80, 55), (91, 38), (95, 257), (98, 54)], [(46, 71), (52, 60), (58, 131), (62, 69), (69, 61), (75, 68), (78, 62), (81, 70), (84, 63), (87, 64), (90, 65), (93, 67), (97, 66), (107, 72), (110, 75), (114, 73), (117, 257), (123, 74), (126, 76), (130, 1002), (134, 1003)], [(25, 259), (40, 131)], [(28, 259)], [(39, 4), (62, 259), (68, 86), (86, 87), (90, 88), (94, 91), (97, 5), (100, 93), (104, 13), (108, 21), (115, 89), (118, 82), (124, 92), (131, 7), (134, 94), (137, 6), (140, 90), (143, 8), (146, 10), (149, 12)], [(9, 257), (15, 255), (24, 80), (33, 77), (40, 17), (56, 56), (63, 37), (66, 0), (75, 51), (84, 83), (93, 25), (100, 43), (109, 132), (113, 137), (116, 131), (126, 84), (129, 136), (145, 57), (149, 58), (158, 59), (171, 140), (175, 1), (192, 141), (195, 142), (199, 133), (205, 19), (211, 138), (214, 134), (221, 20), (240, 86), (252, 85), (256, 139), (259, 143), (262, 145), (265, 26), (268, 27), (272, 135), (276, 28), (280, 30), (290, 146), (293, 147), (296, 148), (299, 44), (308, 33), (311, 52), (326, 22), (338, 23), (341, 24), (344, 47), (367, 49), (381, 81), (385, 78), (388, 18), (390, 82), (393, 259), (399, 253), (406, 144)], [(70, 150), (74, 151), (78, 153), (82, 154), (85, 156), (91, 161), (98, 164), (108, 166), (115, 165), (122, 168), (126, 169), (146, 172), (150, 170), (154, 171), (158, 167), (161, 174), (164, 176), (171, 177), (174, 173), (177, 179), (180, 175), (183, 180), (187, 181), (190, 178), (195, 183), (201, 182), (204, 184), (207, 185), (214, 189), (218, 190), (222, 192), (225, 191), (238, 196), (241, 197), (245, 193), (249, 195), (252, 194), (256, 199), (259, 201), (264, 204), (268, 205), (271, 206), (274, 208), (278, 207), (282, 212), (286, 213), (289, 214), (292, 211), (295, 210), (298, 215), (301, 216), (304, 218), (307, 221), (310, 220), (313, 223), (316, 227), (319, 228), (322, 230), (325, 229), (331, 231), (334, 232), (337, 233), (343, 235), (346, 237), (349, 219), (352, 240), (355, 209), (359, 217), (362, 152)], [(9, 252), (15, 95), (20, 149), (21, 96), (25, 155), (26, 97), (30, 157), (31, 98), (35, 158), (36, 99), (40, 159), (41, 100), (45, 160), (46, 101), (50, 162), (51, 102), (55, 163), (56, 103), (60, 186), (61, 104), (64, 187), (65, 105), (68, 188), (69, 106), (73, 198), (74, 107), (77, 200), (78, 108), (81, 202), (82, 109), (86, 203), (87, 110), (91, 225), (92, 111), (96, 226), (97, 112), (101, 234), (102, 113), (105, 236), (106, 114), (109, 238), (110, 115), (113, 217), (114, 116), (117, 219), (118, 117), (122, 222), (123, 118), (126, 224), (127, 119), (130, 239), (131, 120), (134, 241), (135, 121), (138, 242), (139, 122), (142, 243), (143, 123), (146, 244), (147, 124), (150, 245), (151, 125), (154, 246), (155, 126), (158, 247), (159, 127), (162, 248), (163, 128), (166, 249), (167, 129), (170, 250), (171, 130), (174, 251)], [], []] : List (List (Nat × Nat))).getD k []
def am_mrP (c : Nat) (q : Nat × Nat) : Prop := ∃ M, am_mi q.2 = some M ∧ (Cond.methodLink (am_on c) q.1 M.1 ∈ am_good ∨ ∃ host, Cond.methodLinkNest (am_on c) q.1 M.1 host ∈ am_nst)
theorem am_mr_0_6 : am_mrP 0 (80, 259) := ⟨_, rfl, Or.inl (am_wi 4 100 rfl rfl)⟩
theorem am_mr_0_5 : am_mrP 0 (76, 3) := ⟨_, rfl, Or.inl (am_wi 4 96 rfl rfl)⟩
theorem am_mr_0_4 : am_mrP 0 (70, 253) := ⟨_, rfl, Or.inl (am_wi 4 93 rfl rfl)⟩
theorem am_mr_0_3 : am_mrP 0 (61, 257) := ⟨_, rfl, Or.inl (am_wi 4 92 rfl rfl)⟩
theorem am_mr_0_2 : am_mrP 0 (57, 38) := ⟨_, rfl, Or.inl (am_wi 4 58 rfl rfl)⟩
theorem am_mr_0_1 : am_mrP 0 (48, 2) := ⟨_, rfl, Or.inl (am_wi 4 54 rfl rfl)⟩
theorem am_mr_0_0 : am_mrP 0 (33, 255) := ⟨_, rfl, Or.inl (am_wi 2 20 rfl rfl)⟩
theorem am_mr_0 : ∀ q ∈ am_mr 0, am_mrP 0 q := List.forall_mem_cons.mpr ⟨am_mr_0_0, List.forall_mem_cons.mpr ⟨am_mr_0_1, List.forall_mem_cons.mpr ⟨am_mr_0_2, List.forall_mem_cons.mpr ⟨am_mr_0_3, List.forall_mem_cons.mpr ⟨am_mr_0_4, List.forall_mem_cons.mpr ⟨am_mr_0_5, List.forall_mem_cons.mpr ⟨am_mr_0_6, fun _ h => absurd h List.not_mem_nil⟩⟩⟩⟩⟩⟩⟩
theorem am_mr_1_7 : am_mrP 1 (52, 12) := ⟨_, rfl, Or.inl (am_wi 5 8 rfl rfl)⟩
theorem am_mr_1_6 : am_mrP 1 (48, 7) := ⟨_, rfl, Or.inl (am_wi 5 6 rfl rfl)⟩
theorem am_mr_1_5 : am_mrP 1 (45, 14) := ⟨_, rfl, Or.inl (am_wi 4 216 rfl rfl)⟩
theorem am_mr_1_4 : am_mrP 1 (41, 6) := ⟨_, rfl, Or.inl (am_wi 5 1 rfl rfl)⟩
theorem am_mr_1_3 : am_mrP 1 (38, 16) := ⟨_, rfl, Or.inl (am_wi 4 200 rfl rfl)⟩
theorem am_mr_1_2 : am_mrP 1 (34, 15) := ⟨_, rfl, Or.inl (am_wi 4 196 rfl rfl)⟩
theorem am_mr_1_1 : am_mrP 1 (23, 257) := ⟨_, rfl, Or.inl (am_wi 4 228 rfl rfl)⟩
theorem am_mr_1_0 : am_mrP 1 (17, 255) := ⟨_, rfl, Or.inl (am_wi 4 186 rfl rfl)⟩
theorem am_mr_1 : ∀ q ∈ am_mr 1, am_mrP 1 q := List.forall_mem_cons.mpr ⟨am_mr_1_0, List.forall_mem_cons.mpr ⟨am_mr_1_1, List.forall_mem_cons.mpr ⟨am_mr_1_2, List.forall_mem_cons.mpr ⟨am_mr_1_3, List.forall_mem_cons.mpr ⟨am_mr_1_4, List.forall_mem_cons.mpr ⟨am_mr_1_5, List.forall_mem_cons.mpr ⟨am_mr_1_6, List.forall_mem_cons.mpr ⟨am_mr_1_7, fun _ h => absurd h List.not_mem_nil⟩⟩⟩⟩⟩⟩⟩⟩
theorem am_mr_2_0 : am_mrP 2 (55, 259) := ⟨_, rfl, Or.inl (am_wi 1 109 rfl rfl)⟩
theorem am_mr_2 : ∀ q ∈ am_mr 2, am_mrP 2 q := List.forall_mem_cons.mpr ⟨am_mr_2_0, fun _ h => absurd h List.not_mem_nil⟩
theorem am_mr_3_15 : am_mrP 3 (100, 9) := ⟨_, rfl, Or.inl (am_wi 5 54 rfl rfl)⟩
theorem am_mr_3_14 : am_mrP 3 (97, 8) := ⟨_, rfl, Or.inl (am_wi 5 160 rfl rfl)⟩
theorem am_mr_3_13 : am_mrP 3 (94, 10) := ⟨_, rfl, Or.inl (am_wi 5 53 rfl rfl)⟩
theorem am_mr_3_12 : am_mrP 3 (90, 34) := ⟨_, rfl, Or.inl (am_wi 5 156 rfl rfl)⟩
theorem am_mr_3_11 : am_mrP 3 (87, 11) := ⟨_, rfl, Or.inl (am_wi 5 152 rfl rfl)⟩
theorem am_mr_3_10 : am_mrP 3 (84, 6) := ⟨_, rfl, Or.inl (am_wi 5 104 rfl rfl)⟩
theorem am_mr_3_9 : am_mrP 3 (75, 32) := ⟨_, rfl, Or.inl (am_wi 5 100 rfl rfl)⟩
theorem am_mr_3_8 : am_mrP 3 (71, 31) := ⟨_, rfl, Or.inl (am_wi 5 96 rfl rfl)⟩
theorem am_mr_3_7 : am_mrP 3 (68, 5) := ⟨_, rfl, Or.inl (am_wi 5 51 rfl rfl)⟩
theorem am_mr_3_6 : am_mrP 3 (64, 12) := ⟨_, rfl, Or.inl (am_wi 5 87 rfl rfl)⟩
theorem am_mr_3_5 : am_mrP 3 (60, 29) := ⟨_, rfl, Or.inl (am_wi 5 83 rfl rfl)⟩
theorem am_mr_3_4 : am_mrP 3 (56, 13) := ⟨_, rfl, Or.inl (am_wi 5 62 rfl rfl)⟩
theorem am_mr_3_3 : am_mrP 3 (51, 35) := ⟨_, rfl, Or.inl (am_wi 5 58 rfl rfl)⟩
theorem am_mr_3_2 : am_mrP 3 (47, 7) := ⟨_, rfl, Or.inl (am_wi 5 52 rfl rfl)⟩
theorem am_mr_3_1 : am_mrP 3 (43, 36) := ⟨_, rfl, Or.inl (am_wi 5 47 rfl rfl)⟩
theorem am_mr_3_0 : am_mrP 3 (11, 4) := ⟨_, rfl, Or.inr ⟨_, List.mem_of_getElem? (i := 3) rfl⟩⟩
theorem am_mr_3 : ∀ q ∈ am_mr 3, am_mrP 3 q := List.forall_mem_cons.mpr ⟨am_mr_3_0, List.forall_mem_cons.mpr ⟨am_mr_3_1, List.forall_mem_cons.mpr ⟨am_mr_3_2, List.forall_mem_cons.mpr ⟨am_mr_3_3, List.forall_mem_cons.mpr ⟨am_mr_3_4, List.forall_mem_cons.mpr ⟨am_mr_3_5, List.forall_mem_cons.mpr ⟨am_mr_3_6, List.forall_mem_cons.mpr ⟨am_mr_3_7, List.forall_mem_cons.mpr ⟨am_mr_3_8, List.forall_mem_cons.mpr ⟨am_mr_3_9, List.forall_mem_cons.mpr ⟨am_mr_3_10, List.forall_mem_cons.mpr ⟨am_mr_3_11, List.forall_mem_cons.mpr ⟨am_mr_3_12, List.forall_mem_cons.mpr ⟨am_mr_3_13, List.forall_mem_cons.mpr ⟨am_mr_3_14, List.forall_mem_cons.mpr ⟨am_mr_3_15, fun _ h => absurd h List.not_mem_nil⟩⟩⟩⟩⟩⟩⟩⟩⟩⟩⟩⟩⟩⟩⟩⟩
theorem am_mr_4_9 : am_mrP 4 (72, 256) := ⟨_, rfl, Or.inl (am_wi 4 88 rfl rfl)⟩
theorem am_mr_4_8 : am_mrP 4 (69, 258) := ⟨_, rfl, Or.inl (am_wi 4 85 rfl rfl)⟩
theorem am_mr_4_7 : am_mrP 4 (62, 255) := ⟨_, rfl, Or.inl (am_wi 4 91 rfl rfl)⟩
theorem am_mr_4_6 : am_mrP 4 (58, 42) := ⟨_, rfl, Or.inl (am_wi 4 80 rfl rfl)⟩
theorem am_mr_4_5 : am_mrP 4 (54, 41) := ⟨_, rfl, Or.inl (am_wi 4 77 rfl rfl)⟩
theorem am_mr_4_4 : am_mrP 4 (48, 131) := ⟨_, rfl, Or.inr ⟨_, List.mem_of_getElem? (i := 7) rfl⟩⟩
theorem am_mr_4_3 : am_mrP 4 (45, 40) := ⟨_, rfl, Or.inl (am_wi 4 72 rfl rfl)⟩
theorem am_mr_4_2 : am_mrP 4 (41, 39) := ⟨_, rfl, Or.inl (am_wi 4 68 rfl rfl)⟩
theorem am_mr_4_1 : am_mrP 4 (28, 257) := ⟨_, rfl, Or.inl (am_wi 4 67 rfl rfl)⟩
theorem am_mr_4_0 : am_mrP 4 (16, 79) := ⟨_, rfl, Or.inl (am_wi 4 62 rfl rfl)⟩
theorem am_mr_4 : ∀ q ∈ am_mr 4, am_mrP 4 q := List.forall_mem_cons.mpr ⟨am_mr_4_0, List.forall_mem_cons.mpr ⟨am_mr_4_1, List.forall_mem_cons.mpr ⟨am_mr_4_2, List.forall_mem_cons.mpr ⟨am_mr_4_3, List.forall_mem_cons.mpr ⟨am_mr_4_4, List.forall_mem_cons.mpr ⟨am_mr_4_5, List.forall_mem_cons.mpr ⟨am_mr_4_6, List.forall_mem_cons.mpr ⟨am_mr_4_7, List.forall_mem_cons.mpr ⟨am_mr_4_8, List.forall_mem_cons.mpr ⟨am_mr_4_9, fun _ h => absurd h List.not_mem_nil⟩⟩⟩⟩⟩⟩⟩⟩⟩⟩
theorem am_mr_5_6 : am_mrP 5 (115, 254) := ⟨_, rfl, Or.inl (am_wi 5 237 rfl rfl)⟩
theorem am_mr_5_5 : am_mrP 5 (99, 50) := ⟨_, rfl, Or.inl (am_wi 5 233 rfl rfl)⟩
theorem am_mr_5_4 : am_mrP 5 (79, 48) := ⟨_, rfl, Or.inl (am_wi 5 216 rfl rfl)⟩
theorem am_mr_5_3 : am_mrP 5 (76, 258) := ⟨_, rfl, Or.inl (am_wi 5 215 rfl rfl)⟩
theorem am_mr_5_2 : am_mrP 5 (66, 46) := ⟨_, rfl, Or.inl (am_wi 5 137 rfl rfl)⟩
theorem am_mr_5_1 : am_mrP 5 (60, 257) := ⟨_, rfl, Or.inl (am_wi 5 136 rfl rfl)⟩
theorem am_mr_5_0 : am_mrP 5 (39, 45) := ⟨_, rfl, Or.inl (am_wi 5 131 rfl rfl)⟩
theorem am_mr_5 : ∀ q ∈ am_mr 5, am_mrP 5 q := List.forall_mem_cons.mpr ⟨am_mr_5_0, List.forall_mem_cons.mpr ⟨am_mr_5_1, List.forall_mem_cons.mpr ⟨am_mr_5_2, List.forall_mem_cons.mpr ⟨am_mr_5_3, List.forall_mem_cons.mpr ⟨am_mr_5_4, List.forall_mem_cons.mpr ⟨am_mr_5_5, List.forall_mem_cons.mpr ⟨am_mr_5_6, fun _ h => absurd h List.not_mem_nil⟩⟩⟩⟩⟩⟩⟩
theorem am_mr_6_7 : am_mrP 6 (98, 54) := ⟨_, rfl, Or.inl (am_wi 5 181 rfl rfl)⟩
theorem am_mr_6_6 : am_mrP 6 (95, 257) := ⟨_, rfl, Or.inl (am_wi 5 180 rfl rfl)⟩
theorem am_mr_6_5 : am_mrP 6 (91, 38) := ⟨_, rfl, Or.inl (am_wi 5 179 rfl rfl)⟩
theorem am_mr_6_4 : am_mrP 6 (80, 55) := ⟨_, rfl, Or.inl (am_wi 5 175 rfl rfl)⟩
theorem am_mr_6_3 : am_mrP 6 (76, 53) := ⟨_, rfl, Or.inl (am_wi 5 171 rfl rfl)⟩
theorem am_mr_6_2 : am_mrP 6 (69, 21) := ⟨_, rfl, Or.inl (am_wi 5 170 rfl rfl)⟩
theorem am_mr_6_1 : am_mrP 6 (60, 259) := ⟨_, rfl, Or.inl (am_wi 5 169 rfl rfl)⟩
theorem am_mr_6_0 : am_mrP 6 (15, 255) := ⟨_, rfl, Or.inl (am_wi 2 56 rfl rfl)⟩
theorem am_mr_6 : ∀ q ∈ am_mr 6, am_mrP 6 q := List.forall_mem_cons.mpr ⟨am_mr_6_0, List.forall_mem_cons.mpr ⟨am_mr_6_1, List.forall_mem_cons.mpr ⟨am_mr_6_2, List.forall_mem_cons.mpr ⟨am_mr_6_3, List.forall_mem_cons.mpr ⟨am_mr_6_4, List.forall_mem_cons.mpr ⟨am_mr_6_5, List.forall_mem_cons.mpr ⟨am_mr_6_6, List.forall_mem_cons.mpr ⟨am_mr_6_7, fun _ h => absurd h List.not_mem_nil⟩⟩⟩⟩⟩⟩⟩⟩
theorem am_mr_7_20 : am_mrP 7 (134, 1003) := ⟨_, rfl, Or.inl (am_wi 3 184 rfl rfl)⟩
theorem am_mr_7_19 : am_mrP 7 (130, 1002) := ⟨_, rfl, Or.inl (am_wi 3 174 rfl rfl)⟩
theorem am_mr_7_18 : am_mrP 7 (126, 76) := ⟨_, rfl, Or.inl (am_wi 3 154 rfl rfl)⟩
theorem am_mr_7_17 : am_mrP 7 (123, 74) := ⟨_, rfl, Or.inl (am_wi 3 226 rfl rfl)⟩
theorem am_mr_7_16 : am_mrP 7 (117, 257) := ⟨_, rfl, Or.inl (am_wi 3 225 rfl rfl)⟩
theorem am_mr_7_15 : am_mrP 7 (114, 73) := ⟨_, rfl, Or.inl (am_wi 3 222 rfl rfl)⟩
theorem am_mr_7_14 : am_mrP 7 (110, 75) := ⟨_, rfl, Or.inl (am_wi 3 150 rfl rfl)⟩
theorem am_mr_7_13 : am_mrP 7 (107, 72) := ⟨_, rfl, Or.inl (am_wi 3 146 rfl rfl)⟩
theorem am_mr_7_12 : am_mrP 7 (97, 66) := ⟨_, rfl, Or.inl (am_wi 4 21 rfl rfl)⟩
theorem am_mr_7_11 : am_mrP 7 (93, 67) := ⟨_, rfl, Or.inl (am_wi 4 25 rfl rfl)⟩
theorem am_mr_7_10 : am_mrP 7 (90, 65) := ⟨_, rfl, Or.inl (am_wi 4 17 rfl rfl)⟩
theorem am_mr_7_9 : am_mrP 7 (87, 64) := ⟨_, rfl, Or.inl (am_wi 4 9 rfl rfl)⟩
theorem am_mr_7_8 : am_mrP 7 (84, 63) := ⟨_, rfl, Or.inl (am_wi 4 5 rfl rfl)⟩
theorem am_mr_7_7 : am_mrP 7 (81, 70) := ⟨_, rfl, Or.inl (am_wi 4 13 rfl rfl)⟩
theorem am_mr_7_6 : am_mrP 7 (78, 62) := ⟨_, rfl, Or.inl (am_wi 4 1 rfl rfl)⟩
theorem am_mr_7_5 : am_mrP 7 (75, 68) := ⟨_, rfl, Or.inl (am_wi 4 29 rfl rfl)⟩
theorem am_mr_7_4 : am_mrP 7 (69, 61) := ⟨_, rfl, Or.inl (am_wi 3 237 rfl rfl)⟩
theorem am_mr_7_3 : am_mrP 7 (62, 69) := ⟨_, rfl, Or.inl (am_wi 3 233 rfl rfl)⟩
theorem am_mr_7_2 : am_mrP 7 (58, 131) := ⟨_, rfl, Or.inr ⟨_, List.mem_of_getElem? (i := 5) rfl⟩⟩
theorem am_mr_7_1 : am_mrP 7 (52, 60) := ⟨_, rfl, Or.inl (am_wi 3 229 rfl rfl)⟩
theorem am_mr_7_0 : am_mrP 7 (46, 71) := ⟨_, rfl, Or.inl (am_wi 3 142 rfl rfl)⟩
theorem am_mr_7 : ∀ q ∈ am_mr 7, am_mrP 7 q := List.forall_mem_cons.mpr ⟨am_mr_7_0, List.forall_mem_cons.mpr ⟨am_mr_7_1, List.forall_mem_cons.mpr ⟨am_mr_7_2, List.forall_mem_cons.mpr ⟨am_mr_7_3, List.forall_mem_cons.mpr ⟨am_mr_7_4, List.forall_mem_cons.mpr ⟨am_mr_7_5, List.forall_mem_cons.mpr ⟨am_mr_7_6, List.forall_mem_cons.mpr ⟨am_mr_7_7, List.forall_mem_cons.mpr ⟨am_mr_7_8, List.forall_mem_cons.mpr ⟨am_mr_7_9, List.forall_mem_cons.mpr ⟨am_mr_7_10, List.forall_mem_cons.mpr ⟨am_mr_7_11, List.forall_mem_cons.mpr ⟨am_mr_7_12, List.forall_mem_cons.mpr ⟨am_mr_7_13, List.forall_mem_cons.mpr ⟨am_mr_7_14, List.forall_mem_cons.mpr ⟨am_mr_7_15, List.forall_mem_cons.mpr ⟨am_mr_7_16, List.forall_mem_cons.mpr ⟨am_mr_7_17, List.forall_mem_cons.mpr ⟨am_mr_7_18, List.forall_mem_cons.mpr ⟨am_mr_7_19, List.forall_mem_cons.mpr ⟨am_mr_7_20, fun _ h => absurd h List.not_mem_nil⟩⟩⟩⟩⟩⟩⟩⟩⟩⟩⟩⟩⟩⟩⟩⟩⟩⟩⟩⟩⟩
theorem am_mr_8_1 : am_mrP 8 (40, 131) := ⟨_, rfl, Or.inr ⟨_, List.mem_of_getElem? (i := 6) rfl⟩⟩
theorem am_mr_8_0 : am_mrP 8 (25, 259) := ⟨_, rfl, Or.inl (am_wi 1 76 rfl rfl)⟩
theorem am_mr_8 : ∀ q ∈ am_mr 8, am_mrP 8 q := List.forall_mem_cons.mpr ⟨am_mr_8_0, List.forall_mem_cons.mpr ⟨am_mr_8_1, fun _ h => absurd h List.not_mem_nil⟩⟩
theorem am_mr_9_0 : am_mrP 9 (28, 259) := ⟨_, rfl, Or.inl (am_wi 1 41 rfl rfl)⟩
theorem am_mr_9 : ∀ q ∈ am_mr 9, am_mrP 9 q := List.forall_mem_cons.mpr ⟨am_mr_9_0, fun _ h => absurd h List.not_mem_nil⟩
theorem am_mr_10_19 : am_mrP 10 (149, 12) := ⟨_, rfl, Or.inl (am_wi 4 220 rfl rfl)⟩
theorem am_mr_10_18 : am_mrP 10 (146, 10) := ⟨_, rfl, Or.inl (am_wi 4 212 rfl rfl)⟩
theorem am_mr_10_17 : am_mrP 10 (143, 8) := ⟨_, rfl, Or.inl (am_wi 4 237 rfl rfl)⟩
theorem am_mr_10_16 : am_mrP 10 (140, 90) := ⟨_, rfl, Or.inl (am_wi 4 233 rfl rfl)⟩
theorem am_mr_10_15 : am_mrP 10 (137, 6) := ⟨_, rfl, Or.inl (am_wi 4 224 rfl rfl)⟩
theorem am_mr_10_14 : am_mrP 10 (134, 94) := ⟨_, rfl, Or.inl (am_wi 4 208 rfl rfl)⟩
theorem am_mr_10_13 : am_mrP 10 (131, 7) := ⟨_, rfl, Or.inl (am_wi 4 191 rfl rfl)⟩
theorem am_mr_10_12 : am_mrP 10 (124, 92) := ⟨_, rfl, Or.inl (am_wi 4 187 rfl rfl)⟩
theorem am_mr_10_11 : am_mrP 10 (118, 82) := ⟨_, rfl, Or.inl (am_wi 4 178 rfl rfl)⟩
theorem am_mr_10_10 : am_mrP 10 (115, 89) := ⟨_, rfl, Or.inl (am_wi 4 170 rfl rfl)⟩
theorem am_mr_10_9 : am_mrP 10 (108, 21) := ⟨_, rfl, Or.inl (am_wi 4 162 rfl rfl)⟩
theorem am_mr_10_8 : am_mrP 10 (104, 13) := ⟨_, rfl, Or.inl (am_wi 5 2 rfl rfl)⟩
theorem am_mr_10_7 : am_mrP 10 (100, 93) := ⟨_, rfl, Or.inl (am_wi 4 204 rfl rfl)⟩
theorem am_mr_10_6 : am_mrP 10 (97, 5) := ⟨_, rfl, Or.inl (am_wi 4 182 rfl rfl)⟩
theorem am_mr_10_5 : am_mrP 10 (94, 91) := ⟨_, rfl, Or.inl (am_wi 4 174 rfl rfl)⟩
theorem am_mr_10_4 : am_mrP 10 (90, 88) := ⟨_, rfl, Or.inl (am_wi 4 166 rfl rfl)⟩
theorem am_mr_10_3 : am_mrP 10 (86, 87) := ⟨_, rfl, Or.inl (am_wi 4 158 rfl rfl)⟩
theorem am_mr_10_2 : am_mrP 10 (68, 86) := ⟨_, rfl, Or.inl (am_wi 5 18 rfl rfl)⟩
theorem am_mr_10_1 : am_mrP 10 (62, 259) := ⟨_, rfl, Or.inl (am_wi 5 17 rfl rfl)⟩
theorem am_mr_10_0 : am_mrP 10 (39, 4) := ⟨_, rfl, Or.inr ⟨_, List.mem_of_getElem? (i := 2) rfl⟩⟩
theorem am_mr_10 : ∀ q ∈ am_mr 10, am_mrP 10 q := List.forall_mem_cons.mpr ⟨am_mr_10_0, List.forall_mem_cons.mpr ⟨am_mr_10_1, List.forall_mem_cons.mpr ⟨am_mr_10_2, List.forall_mem_cons.mpr ⟨am_mr_10_3, List.forall_mem_cons.mpr ⟨am_mr_10_4, List.forall_mem_cons.mpr ⟨am_mr_10_5, List.forall_mem_cons.mpr ⟨am_mr_10_6, List.forall_mem_cons.mpr ⟨am_mr_10_7, List.forall_mem_cons.mpr ⟨am_mr_10_8, List.forall_mem_cons.mpr ⟨am_mr_10_9, List.forall_mem_cons.mpr ⟨am_mr_10_10, List.forall_mem_cons.mpr ⟨am_mr_10_11, List.forall_mem_cons.mpr ⟨am_mr_10_12, List.forall_mem_cons.mpr ⟨am_mr_10_13, List.forall_mem_cons.mpr ⟨am_mr_10_14, List.forall_mem_cons.mpr ⟨am_mr_10_15, List.forall_mem_cons.mpr ⟨am_mr_10_16, List.forall_mem_cons.mpr ⟨am_mr_10_17, List.forall_mem_cons.mpr ⟨am_mr_10_18, List.forall_mem_cons.mpr ⟨am_mr_10_19, fun _ h => absurd h List.not_mem_nil⟩⟩⟩⟩⟩⟩⟩⟩⟩⟩⟩⟩⟩⟩⟩⟩⟩⟩⟩⟩
theorem am_mr_11_56 : am_mrP 11 (406, 144) := ⟨_, rfl, Or.inl (am_wi 5 31 rfl rfl)⟩
theorem am_mr_11_55 : am_mrP 11 (399, 253) := ⟨_, rfl, Or.inl (am_wi 4 111 rfl rfl)⟩
theorem am_mr_11_54 : am_mrP 11 (393, 259) := ⟨_, rfl, Or.inl (am_wi 4 110 rfl rfl)⟩
theorem am_mr_11_53 : am_mrP 11 (390, 82) := ⟨_, rfl, Or.inl (am_wi 6 27 rfl rfl)⟩
theorem am_mr_11_52 : am_mrP 11 (388, 18) := ⟨_, rfl, Or.inl (am_wi 6 14 rfl rfl)⟩
theorem am_mr_11_51 : am_mrP 11 (385, 78) := ⟨_, rfl, Or.inl (am_wi 6 9 rfl rfl)⟩
theorem am_mr_11_50 : am_mrP 11 (381, 81) := ⟨_, rfl, Or.inl (am_wi 6 4 rfl rfl)⟩
theorem am_mr_11_49 : am_mrP 11 (367, 49) := ⟨_, rfl, Or.inl (am_wi 5 228 rfl rfl)⟩
theorem am_mr_11_48 : am_mrP 11 (344, 47) := ⟨_, rfl, Or.inl (am_wi 5 210 rfl rfl)⟩
theorem am_mr_11_47 : am_mrP 11 (341, 24) := ⟨_, rfl, Or.inl (am_wi 5 202 rfl rfl)⟩
theorem am_mr_11_46 : am_mrP 11 (338, 23) := ⟨_, rfl, Or.inl (am_wi 5 198 rfl rfl)⟩
theorem am_mr_11_45 : am_mrP 11 (326, 22) := ⟨_, rfl, Or.inl (am_wi 5 190 rfl rfl)⟩
theorem am_mr_11_44 : am_mrP 11 (311, 52) := ⟨_, rfl, Or.inl (am_wi 5 165 rfl rfl)⟩
theorem am_mr_11_43 : am_mrP 11 (308, 33) := ⟨_, rfl, Or.inl (am_wi 5 148 rfl rfl)⟩
theorem am_mr_11_42 : am_mrP 11 (299, 44) := ⟨_, rfl, Or.inl (am_wi 5 125 rfl rfl)⟩
theorem am_mr_11_41 : am_mrP 11 (296, 148) := ⟨_, rfl, Or.inl (am_wi 5 117 rfl rfl)⟩
theorem am_mr_11_40 : am_mrP 11 (293, 147) := ⟨_, rfl, Or.inl (am_wi 5 113 rfl rfl)⟩
theorem am_mr_11_39 : am_mrP 11 (290, 146) := ⟨_, rfl, Or.inl (am_wi 5 109 rfl rfl)⟩
theorem am_mr_11_38 : am_mrP 11 (280, 30) := ⟨_, rfl, Or.inl (am_wi 5 92 rfl rfl)⟩
theorem am_mr_11_37 : am_mrP 11 (276, 28) := ⟨_, rfl, Or.inl (am_wi 5 79 rfl rfl)⟩
theorem am_mr_11_36 : am_mrP 11 (272, 135) := ⟨_, rfl, Or.inl (am_wi 5 67 rfl rfl)⟩
theorem am_mr_11_35 : am_mrP 11 (268, 27) := ⟨_, rfl, Or.inl (am_wi 5 43 rfl rfl)⟩
theorem am_mr_11_34 : am_mrP 11 (265, 26) := ⟨_, rfl, Or.inl (am_wi 5 39 rfl rfl)⟩
theorem am_mr_11_33 : am_mrP 11 (262, 145) := ⟨_, rfl, Or.inl (am_wi 5 35 rfl rfl)⟩
theorem am_mr_11_32 : am_mrP 11 (259, 143) := ⟨_, rfl, Or.inl (am_wi 5 27 rfl rfl)⟩
theorem am_mr_11_31 : am_mrP 11 (256, 139) := ⟨_, rfl, Or.inl (am_wi 5 23 rfl rfl)⟩
theorem am_mr_11_30 : am_mrP 11 (252, 85) := ⟨_, rfl, Or.inl (am_wi 5 13 rfl rfl)⟩
theorem am_mr_11_29 : am_mrP 11 (240, 86) := ⟨_, rfl, Or.inl (am_wi 4 154 rfl rfl)⟩
theorem am_mr_11_28 : am_mrP 11 (221, 20) := ⟨_, rfl, Or.inl (am_wi 4 142 rfl rfl)⟩
theorem am_mr_11_27 : am_mrP 11 (214, 134) := ⟨_, rfl, Or.inl (am_wi 4 139 rfl rfl)⟩
theorem am_mr_11_26 : am_mrP 11 (211, 138) := ⟨_, rfl, Or.inl (am_wi 4 131 rfl rfl)⟩
theorem am_mr_11_25 : am_mrP 11 (205, 19) := ⟨_, rfl, Or.inl (am_wi 4 123 rfl rfl)⟩
theorem am_mr_11_24 : am_mrP 11 (199, 133) := ⟨_, rfl, Or.inl (am_wi 4 120 rfl rfl)⟩
theorem am_mr_11_23 : am_mrP 11 (195, 142) := ⟨_, rfl, Or.inl (am_wi 4 112 rfl rfl)⟩
theorem am_mr_11_22 : am_mrP 11 (192, 141) := ⟨_, rfl, Or.inl (am_wi 4 106 rfl rfl)⟩
theorem am_mr_11_21 : am_mrP 11 (175, 1) := ⟨_, rfl, Or.inl (am_wi 4 50 rfl rfl)⟩
theorem am_mr_11_20 : am_mrP 11 (171, 140) := ⟨_, rfl, Or.inl (am_wi 4 46 rfl rfl)⟩
theorem am_mr_11_19 : am_mrP 11 (158, 59) := ⟨_, rfl, Or.inl (am_wi 3 138 rfl rfl)⟩
theorem am_mr_11_18 : am_mrP 11 (149, 58) := ⟨_, rfl, Or.inl (am_wi 3 126 rfl rfl)⟩
theorem am_mr_11_17 : am_mrP 11 (145, 57) := ⟨_, rfl, Or.inl (am_wi 3 122 rfl rfl)⟩
theorem am_mr_11_16 : am_mrP 11 (129, 136) := ⟨_, rfl, Or.inl (am_wi 3 103 rfl rfl)⟩
theorem am_mr_11_15 : am_mrP 11 (126, 84) := ⟨_, rfl, Or.inl (am_wi 3 95 rfl rfl)⟩
theorem am_mr_11_14 : am_mrP 11 (116, 131) := ⟨_, rfl, Or.inl (am_wi 3 88 rfl rfl)⟩
theorem am_mr_11_13 : am_mrP 11 (113, 137) := ⟨_, rfl, Or.inl (am_wi 3 91 rfl rfl)⟩
theorem am_mr_11_12 : am_mrP 11 (109, 132) := ⟨_, rfl, Or.inl (am_wi 3 85 rfl rfl)⟩
theorem am_mr_11_11 : am_mrP 11 (100, 43) := ⟨_, rfl, Or.inr ⟨_, List.mem_of_getElem? (i := 4) rfl⟩⟩
theorem am_mr_11_10 : am_mrP 11 (93, 25) := ⟨_, rfl, Or.inl (am_wi 2 165 rfl rfl)⟩
theorem am_mr_11_9 : am_mrP 11 (84, 83) := ⟨_, rfl, Or.inl (am_wi 2 99 rfl rfl)⟩
theorem am_mr_11_8 : am_mrP 11 (75, 51) := ⟨_, rfl, Or.inl (am_wi 2 52 rfl rfl)⟩
theorem am_mr_11_7 : am_mrP 11 (66, 0) := ⟨_, rfl, Or.inl (am_wi 2 16 rfl rfl)⟩
theorem am_mr_11_6 : am_mrP 11 (63, 37) := ⟨_, rfl, Or.inr ⟨_, List.mem_of_getElem? (i := 1) rfl⟩⟩
theorem am_mr_11_5 : am_mrP 11 (56, 56) := ⟨_, rfl, Or.inr ⟨_, List.mem_of_getElem? (i := 0) rfl⟩⟩
theorem am_mr_11_4 : am_mrP 11 (40, 17) := ⟨_, rfl, Or.inl (am_wi 1 105 rfl rfl)⟩
theorem am_mr_11_3 : am_mrP 11 (33, 77) := ⟨_, rfl, Or.inl (am_wi 1 72 rfl rfl)⟩
theorem am_mr_11_2 : am_mrP 11 (24, 80) := ⟨_, rfl, Or.inl (am_wi 1 37 rfl rfl)⟩
theorem am_mr_11_1 : am_mrP 11 (15, 255) := ⟨_, rfl, Or.inl (am_wi 1 32 rfl rfl)⟩
theorem am_mr_11_0 : am_mrP 11 (9, 257) := ⟨_, rfl, Or.inl (am_wi 1 29 rfl rfl)⟩
theorem am_mr_11 : ∀ q ∈ am_mr 11, am_mrP 11 q := List.forall_mem_cons.mpr ⟨am_mr_11_0, List.forall_mem_cons.mpr ⟨am_mr_11_1, List.forall_mem_cons.mpr ⟨am_mr_11_2, List.forall_mem_cons.mpr ⟨am_mr_11_3, List.forall_mem_cons.mpr ⟨am_mr_11_4, List.forall_mem_cons.mpr ⟨am_mr_11_5, List.forall_mem_cons.mpr ⟨am_mr_11_6, List.forall_mem_cons.mpr ⟨am_mr_11_7, List.forall_mem_cons.mpr ⟨am_mr_11_8, List.forall_mem_cons.mpr ⟨am_mr_11_9, List.forall_mem_cons.mpr ⟨am_mr_11_10, List.forall_mem_cons.mpr ⟨am_mr_11_11, List.forall_mem_cons.mpr ⟨am_mr_11_12, List.forall_mem_cons.mpr ⟨am_mr_11_13, List.forall_mem_cons.mpr ⟨am_mr_11_14, List.forall_mem_cons.mpr ⟨am_mr_11_15, List.forall_mem_cons.mpr ⟨am_mr_11_16, List.forall_mem_cons.mpr ⟨am_mr_11_17, List.forall_mem_cons.mpr ⟨am_mr_11_18, List.forall_mem_cons.mpr ⟨am_mr_11_19, List.forall_mem_cons.mpr ⟨am_mr_11_20, List.forall_mem_cons.mpr ⟨am_mr_11_21, List.forall_mem_cons.mpr ⟨am_mr_11_22, List.forall_mem_cons.mpr ⟨am_mr_11_23, List.forall_mem_cons.mpr ⟨am_mr_11_24, List.forall_mem_cons.mpr ⟨am_mr_11_25, List.forall_mem_cons.mpr ⟨am_mr_11_26, List.forall_mem_cons.mpr ⟨am_mr_11_27, List.forall_mem_cons.mpr ⟨am_mr_11_28, List.forall_mem_cons.mpr ⟨am_mr_11_29, List.forall_mem_cons.mpr ⟨am_mr_11_30, List.forall_mem_cons.mpr ⟨am_mr_11_31, List.forall_mem_cons.mpr ⟨am_mr_11_32, List.forall_mem_cons.mpr ⟨am_mr_11_33, List.forall_mem_cons.mpr ⟨am_mr_11_34, List.forall_mem_cons.mpr ⟨am_mr_11_35, List.forall_mem_cons.mpr ⟨am_mr_11_36, List.forall_mem_cons.mpr ⟨am_mr_11_37, List.forall_mem_cons.mpr ⟨am_mr_11_38, List.forall_mem_cons.mpr ⟨am_mr_11_39, List.forall_mem_cons.mpr ⟨am_mr_11_40, List.forall_mem_cons.mpr ⟨am_mr_11_41, List.forall_mem_cons.mpr ⟨am_mr_11_42, List.forall_mem_cons.mpr ⟨am_mr_11_43, List.forall_mem_cons.mpr ⟨am_mr_11_44, List.forall_mem_cons.mpr ⟨am_mr_11_45, List.forall_mem_cons.mpr ⟨am_mr_11_46, List.forall_mem_cons.mpr ⟨am_mr_11_47, List.forall_mem_cons.mpr ⟨am_mr_11_48, List.forall_mem_cons.mpr ⟨am_mr_11_49, List.forall_mem_cons.mpr ⟨am_mr_11_50, List.forall_mem_cons.mpr ⟨am_mr_11_51, List.forall_mem_cons.mpr ⟨am_mr_11_52, List.forall_mem_cons.mpr ⟨am_mr_11_53, List.forall_mem_cons.mpr ⟨am_mr_11_54, List.forall_mem_cons.mpr ⟨am_mr_11_55, List.forall_mem_cons.mpr ⟨am_mr_11_56, fun _ h => absurd h List.not_mem_nil⟩⟩⟩⟩⟩⟩⟩⟩⟩⟩⟩⟩⟩⟩⟩⟩⟩⟩⟩⟩⟩⟩⟩⟩⟩⟩⟩⟩⟩⟩⟩⟩⟩⟩⟩⟩⟩⟩⟩⟩⟩⟩⟩⟩⟩⟩⟩⟩⟩⟩⟩⟩⟩⟩⟩⟩⟩
theorem am_mr_12_68 : am_mrP 12 (362, 152) := ⟨_, rfl, Or.inl (am_wi 8 60 rfl rfl)⟩
theorem am_mr_12_67 : am_mrP 12 (359, 217) := ⟨_, rfl, Or.inl (am_wi 8 47 rfl rfl)⟩
theorem am_mr_12_66 : am_mrP 12 (355, 209) := ⟨_, rfl, Or.inl (am_wi 8 30 rfl rfl)⟩
theorem am_mr_12_65 : am_mrP 12 (352, 240) := ⟨_, rfl, Or.inl (am_wi 8 22 rfl rfl)⟩
theorem am_mr_12_64 : am_mrP 12 (349, 219) := ⟨_, rfl, Or.inl (am_wi 8 13 rfl rfl)⟩
theorem am_mr_12_63 : am_mrP 12 (346, 237) := ⟨_, rfl, Or.inl (am_wi 8 9 rfl rfl)⟩
theorem am_mr_12_62 : am_mrP 12 (343, 235) := ⟨_, rfl, Or.inl (am_wi 8 1 rfl rfl)⟩
theorem am_mr_12_61 : am_mrP 12 (337, 233) := ⟨_, rfl, Or.inl (am_wi 7 209 rfl rfl)⟩
theorem am_mr_12_60 : am_mrP 12 (334, 232) := ⟨_, rfl, Or.inl (am_wi 7 229 rfl rfl)⟩
theorem am_mr_12_59 : am_mrP 12 (331, 231) := ⟨_, rfl, Or.inl (am_wi 7 213 rfl rfl)⟩
theorem am_mr_12_58 : am_mrP 12 (325, 229) := ⟨_, rfl, Or.inl (am_wi 7 233 rfl rfl)⟩
theorem am_mr_12_57 : am_mrP 12 (322, 230) := ⟨_, rfl, Or.inl (am_wi 7 225 rfl rfl)⟩
theorem am_mr_12_56 : am_mrP 12 (319, 228) := ⟨_, rfl, Or.inl (am_wi 7 217 rfl rfl)⟩
theorem am_mr_12_55 : am_mrP 12 (316, 227) := ⟨_, rfl, Or.inl (am_wi 7 221 rfl rfl)⟩
theorem am_mr_12_54 : am_mrP 12 (313, 223) := ⟨_, rfl, Or.inl (am_wi 7 194 rfl rfl)⟩
theorem am_mr_12_53 : am_mrP 12 (310, 220) := ⟨_, rfl, Or.inl (am_wi 7 186 rfl rfl)⟩
theorem am_mr_12_52 : am_mrP 12 (307, 221) := ⟨_, rfl, Or.inl (am_wi 7 183 rfl rfl)⟩
theorem am_mr_12_51 : am_mrP 12 (304, 218) := ⟨_, rfl, Or.inl (am_wi 7 175 rfl rfl)⟩
theorem am_mr_12_50 : am_mrP 12 (301, 216) := ⟨_, rfl, Or.inl (am_wi 7 154 rfl rfl)⟩
theorem am_mr_12_49 : am_mrP 12 (298, 215) := ⟨_, rfl, Or.inl (am_wi 7 121 rfl rfl)⟩
theorem am_mr_12_48 : am_mrP 12 (295, 210) := ⟨_, rfl, Or.inl (am_wi 7 159 rfl rfl)⟩
theorem am_mr_12_47 : am_mrP 12 (292, 211) := ⟨_, rfl, Or.inl (am_wi 7 150 rfl rfl)⟩
theorem am_mr_12_46 : am_mrP 12 (289, 214) := ⟨_, rfl, Or.inl (am_wi 7 146 rfl rfl)⟩
theorem am_mr_12_45 : am_mrP 12 (286, 213) := ⟨_, rfl, Or.inl (am_wi 7 125 rfl rfl)⟩
theorem am_mr_12_44 : am_mrP 12 (282, 212) := ⟨_, rfl, Or.inl (am_wi 7 133 rfl rfl)⟩
theorem am_mr_12_43 : am_mrP 12 (278, 207) := ⟨_, rfl, Or.inl (am_wi 7 142 rfl rfl)⟩
theorem am_mr_12_42 : am_mrP 12 (274, 208) := ⟨_, rfl, Or.inl (am_wi 7 167 rfl rfl)⟩
theorem am_mr_12_41 : am_mrP 12 (271, 206) := ⟨_, rfl, Or.inl (am_wi 7 137 rfl rfl)⟩
theorem am_mr_12_40 : am_mrP 12 (268, 205) := ⟨_, rfl, Or.inl (am_wi 7 163 rfl rfl)⟩
theorem am_mr_12_39 : am_mrP 12 (264, 204) := ⟨_, rfl, Or.inl (am_wi 7 129 rfl rfl)⟩
theorem am_mr_12_38 : am_mrP 12 (259, 201) := ⟨_, rfl, Or.inl (am_wi 7 110 rfl rfl)⟩
theorem am_mr_12_37 : am_mrP 12 (256, 199) := ⟨_, rfl, Or.inl (am_wi 7 102 rfl rfl)⟩
theorem am_mr_12_36 : am_mrP 12 (252, 194) := ⟨_, rfl, Or.inl (am_wi 7 93 rfl rfl)⟩
theorem am_mr_12_35 : am_mrP 12 (249, 195) := ⟨_, rfl, Or.inl (am_wi 7 89 rfl rfl)⟩
theorem am_mr_12_34 : am_mrP 12 (245, 193) := ⟨_, rfl, Or.inl (am_wi 7 69 rfl rfl)⟩
theorem am_mr_12_33 : am_mrP 12 (241, 197) := ⟨_, rfl, Or.inl (am_wi 7 61 rfl rfl)⟩
theorem am_mr_12_32 : am_mrP 12 (238, 196) := ⟨_, rfl, Or.inl (am_wi 7 65 rfl rfl)⟩
theorem am_mr_12_31 : am_mrP 12 (225, 191) := ⟨_, rfl, Or.inl (am_wi 7 77 rfl rfl)⟩
theorem am_mr_12_30 : am_mrP 12 (222, 192) := ⟨_, rfl, Or.inl (am_wi 7 73 rfl rfl)⟩
theorem am_mr_12_29 : am_mrP 12 (218, 190) := ⟨_, rfl, Or.inl (am_wi 7 81 rfl rfl)⟩
theorem am_mr_12_28 : am_mrP 12 (214, 189) := ⟨_, rfl, Or.inl (am_wi 7 84 rfl rfl)⟩
theorem am_mr_12_27 : am_mrP 12 (207, 185) := ⟨_, rfl, Or.inl (am_wi 6 204 rfl rfl)⟩
theorem am_mr_12_26 : am_mrP 12 (204, 184) := ⟨_, rfl, Or.inl (am_wi 6 223 rfl rfl)⟩
theorem am_mr_12_25 : am_mrP 12 (201, 182) := ⟨_, rfl, Or.inl (am_wi 7 5 rfl rfl)⟩
theorem am_mr_12_24 : am_mrP 12 (195, 183) := ⟨_, rfl, Or.inl (am_wi 6 227 rfl rfl)⟩
theorem am_mr_12_23 : am_mrP 12 (190, 178) := ⟨_, rfl, Or.inl (am_wi 7 37 rfl rfl)⟩
theorem am_mr_12_22 : am_mrP 12 (187, 181) := ⟨_, rfl, Or.inl (am_wi 7 17 rfl rfl)⟩
theorem am_mr_12_21 : am_mrP 12 (183, 180) := ⟨_, rfl, Or.inl (am_wi 7 9 rfl rfl)⟩
theorem am_mr_12_20 : am_mrP 12 (180, 175) := ⟨_, rfl, Or.inl (am_wi 7 21 rfl rfl)⟩
theorem am_mr_12_19 : am_mrP 12 (177, 179) := ⟨_, rfl, Or.inl (am_wi 7 13 rfl rfl)⟩
theorem am_mr_12_18 : am_mrP 12 (174, 173) := ⟨_, rfl, Or.inl (am_wi 7 29 rfl rfl)⟩
theorem am_mr_12_17 : am_mrP 12 (171, 177) := ⟨_, rfl, Or.inl (am_wi 7 45 rfl rfl)⟩
theorem am_mr_12_16 : am_mrP 12 (164, 176) := ⟨_, rfl, Or.inl (am_wi 7 41 rfl rfl)⟩
theorem am_mr_12_15 : am_mrP 12 (161, 174) := ⟨_, rfl, Or.inl (am_wi 7 33 rfl rfl)⟩
theorem am_mr_12_14 : am_mrP 12 (158, 167) := ⟨_, rfl, Or.inl (am_wi 6 208 rfl rfl)⟩
theorem am_mr_12_13 : am_mrP 12 (154, 171) := ⟨_, rfl, Or.inl (am_wi 6 237 rfl rfl)⟩
theorem am_mr_12_12 : am_mrP 12 (150, 170) := ⟨_, rfl, Or.inl (am_wi 6 231 rfl rfl)⟩
theorem am_mr_12_11 : am_mrP 12 (146, 172) := ⟨_, rfl, Or.inl (am_wi 7 25 rfl rfl)⟩
theorem am_mr_12_10 : am_mrP 12 (126, 169) := ⟨_, rfl, Or.inl (am_wi 7 1 rfl rfl)⟩
theorem am_mr_12_9 : am_mrP 12 (122, 168) := ⟨_, rfl, Or.inl (am_wi 6 234 rfl rfl)⟩
theorem am_mr_12_8 : am_mrP 12 (115, 165) := ⟨_, rfl, Or.inl (am_wi 6 220 rfl rfl)⟩
theorem am_mr_12_7 : am_mrP 12 (108, 166) := ⟨_, rfl, Or.inl (am_wi 6 216 rfl rfl)⟩
theorem am_mr_12_6 : am_mrP 12 (98, 164) := ⟨_, rfl, Or.inl (am_wi 6 212 rfl rfl)⟩
theorem am_mr_12_5 : am_mrP 12 (91, 161) := ⟨_, rfl, Or.inl (am_wi 6 192 rfl rfl)⟩
theorem am_mr_12_4 : am_mrP 12 (85, 156) := ⟨_, rfl, Or.inl (am_wi 6 173 rfl rfl)⟩
theorem am_mr_12_3 : am_mrP 12 (82, 154) := ⟨_, rfl, Or.inl (am_wi 6 165 rfl rfl)⟩
theorem am_mr_12_2 : am_mrP 12 (78, 153) := ⟨_, rfl, Or.inl (am_wi 6 159 rfl rfl)⟩
theorem am_mr_12_1 : am_mrP 12 (74, 151) := ⟨_, rfl, Or.inl (am_wi 6 162 rfl rfl)⟩
theorem am_mr_12_0 : am_mrP 12 (70, 150) := ⟨_, rfl, Or.inl (am_wi 6 37 rfl rfl)⟩
theorem am_mr_12 : ∀ q ∈ am_mr 12, am_mrP 12 q := List.forall_mem_cons.mpr ⟨am_mr_12_0, List.forall_mem_cons.mpr ⟨am_mr_12_1, List.forall_mem_cons.mpr ⟨am_mr_12_2, List.forall_mem_cons.mpr ⟨am_mr_12_3, List.forall_mem_cons.mpr ⟨am_mr_12_4, List.forall_mem_cons.mpr ⟨am_mr_12_5, List.forall_mem_cons.mpr ⟨am_mr_12_6, List.forall_mem_cons.mpr ⟨am_mr_12_7, List.forall_mem_cons.mpr ⟨am_mr_12_8, List.forall_mem_cons.mpr ⟨am_mr_12_9, List.forall_mem_cons.mpr ⟨am_mr_12_10, List.forall_mem_cons.mpr ⟨am_mr_12_11, List.forall_mem_cons.mpr ⟨am_mr_12_12, List.forall_mem_cons.mpr ⟨am_mr_12_13, List.forall_mem_cons.mpr ⟨am_mr_12_14, List.forall_mem_cons.mpr ⟨am_mr_12_15, List.forall_mem_cons.mpr ⟨am_mr_12_16, List.forall_mem_cons.mpr ⟨am_mr_12_17, List.forall_mem_cons.mpr ⟨am_mr_12_18, List.forall_mem_cons.mpr ⟨am_mr_12_19, List.forall_mem_cons.mpr ⟨am_mr_12_20, List.forall_mem_cons.mpr ⟨am_mr_12_21, List.forall_mem_cons.mpr ⟨am_mr_12_22, List.forall_mem_cons.mpr ⟨am_mr_12_23, List.forall_mem_cons.mpr ⟨am_mr_12_24, List.forall_mem_cons.mpr ⟨am_mr_12_25, List.forall_mem_cons.mpr ⟨am_mr_12_26, List.forall_mem_cons.mpr ⟨am_mr_12_27, List.forall_mem_cons.mpr ⟨am_mr_12_28, List.forall_mem_cons.mpr ⟨am_mr_12_29, List.forall_mem_cons.mpr ⟨am_mr_12_30, List.forall_mem_cons.mpr ⟨am_mr_12_31, List.forall_mem_cons.mpr ⟨am_mr_12_32, List.forall_mem_cons.mpr ⟨am_mr_12_33, List.forall_mem_cons.mpr ⟨am_mr_12_34, List.forall_mem_cons.mpr ⟨am_mr_12_35, List.forall_mem_cons.mpr ⟨am_mr_12_36, List.forall_mem_cons.mpr ⟨am_mr_12_37, List.forall_mem_cons.mpr ⟨am_mr_12_38, List.forall_mem_cons.mpr ⟨am_mr_12_39, List.forall_mem_cons.mpr ⟨am_mr_12_40, List.forall_mem_cons.mpr ⟨am_mr_12_41, List.forall_mem_cons.mpr ⟨am_mr_12_42, List.forall_mem_cons.mpr ⟨am_mr_12_43, List.forall_mem_cons.mpr ⟨am_mr_12_44, List.forall_mem_cons.mpr ⟨am_mr_12_45, List.forall_mem_cons.mpr ⟨am_mr_12_46, List.forall_mem_cons.mpr ⟨am_mr_12_47, List.forall_mem_cons.mpr ⟨am_mr_12_48, List.forall_mem_cons.mpr ⟨am_mr_12_49, List.forall_mem_cons.mpr ⟨am_mr_12_50, List.forall_mem_cons.mpr ⟨am_mr_12_51, List.forall_mem_cons.mpr ⟨am_mr_12_52, List.forall_mem_cons.mpr ⟨am_mr_12_53, List.forall_mem_cons.mpr ⟨am_mr_12_54, List.forall_mem_cons.mpr ⟨am_mr_12_55, List.forall_mem_cons.mpr ⟨am_mr_12_56, List.forall_mem_cons.mpr ⟨am_mr_12_57, List.forall_mem_cons.mpr ⟨am_mr_12_58, List.forall_mem_cons.mpr ⟨am_mr_12_59, List.forall_mem_cons.mpr ⟨am_mr_12_60, List.forall_mem_cons.mpr ⟨am_mr_12_61, List.forall_mem_cons.mpr ⟨am_mr_12_62, List.forall_mem_cons.mpr ⟨am_mr_12_63, List.forall_mem_cons.mpr ⟨am_mr_12_64, List.forall_mem_cons.mpr ⟨am_mr_12_65, List.forall_mem_cons.mpr ⟨am_mr_12_66, List.forall_mem_cons.mpr ⟨am_mr_12_67, List.forall_mem_cons.mpr ⟨am_mr_12_68, fun _ h => absurd h List.not_mem_nil⟩⟩⟩⟩⟩⟩⟩⟩⟩⟩⟩⟩⟩⟩⟩⟩⟩⟩⟩⟩⟩⟩⟩⟩⟩⟩⟩⟩⟩⟩⟩⟩⟩⟩⟩⟩⟩⟩⟩⟩⟩⟩⟩⟩⟩⟩⟩⟩⟩⟩⟩⟩⟩⟩⟩⟩⟩⟩⟩⟩⟩⟩⟩⟩⟩⟩⟩⟩⟩
theorem am_mr_13_72 : am_mrP 13 (174, 251) := ⟨_, rfl, Or.inl (am_wi 8 71 rfl rfl)⟩
theorem am_mr_13_71 : am_mrP 13 (171, 130) := ⟨_, rfl, Or.inl (am_wi 6 23 rfl rfl)⟩
theorem am_mr_13_70 : am_mrP 13 (170, 250) := ⟨_, rfl, Or.inl (am_wi 8 67 rfl rfl)⟩
theorem am_mr_13_69 : am_mrP 13 (167, 129) := ⟨_, rfl, Or.inl (am_wi 6 19 rfl rfl)⟩
theorem am_mr_13_68 : am_mrP 13 (166, 249) := ⟨_, rfl, Or.inl (am_wi 8 63 rfl rfl)⟩
theorem am_mr_13_67 : am_mrP 13 (163, 128) := ⟨_, rfl, Or.inl (am_wi 6 0 rfl rfl)⟩
theorem am_mr_13_66 : am_mrP 13 (162, 248) := ⟨_, rfl, Or.inl (am_wi 8 56 rfl rfl)⟩
theorem am_mr_13_65 : am_mrP 13 (159, 127) := ⟨_, rfl, Or.inl (am_wi 5 224 rfl rfl)⟩
theorem am_mr_13_64 : am_mrP 13 (158, 247) := ⟨_, rfl, Or.inl (am_wi 8 52 rfl rfl)⟩
theorem am_mr_13_63 : am_mrP 13 (155, 126) := ⟨_, rfl, Or.inl (am_wi 5 220 rfl rfl)⟩
theorem am_mr_13_62 : am_mrP 13 (154, 246) := ⟨_, rfl, Or.inl (am_wi 8 48 rfl rfl)⟩
theorem am_mr_13_61 : am_mrP 13 (151, 125) := ⟨_, rfl, Or.inl (am_wi 5 206 rfl rfl)⟩
theorem am_mr_13_60 : am_mrP 13 (150, 245) := ⟨_, rfl, Or.inl (am_wi 8 43 rfl rfl)⟩
theorem am_mr_13_59 : am_mrP 13 (147, 124) := ⟨_, rfl, Or.inl (am_wi 5 194 rfl rfl)⟩
theorem am_mr_13_58 : am_mrP 13 (146, 244) := ⟨_, rfl, Or.inl (am_wi 8 39 rfl rfl)⟩
theorem am_mr_13_57 : am_mrP 13 (143, 123) := ⟨_, rfl, Or.inl (am_wi 5 186 rfl rfl)⟩
theorem am_mr_13_56 : am_mrP 13 (142, 243) := ⟨_, rfl, Or.inl (am_wi 8 34 rfl rfl)⟩
theorem am_mr_13_55 : am_mrP 13 (139, 122) := ⟨_, rfl, Or.inl (am_wi 5 161 rfl rfl)⟩
theorem am_mr_13_54 : am_mrP 13 (138, 242) := ⟨_, rfl, Or.inl (am_wi 8 26 rfl rfl)⟩
theorem am_mr_13_53 : am_mrP 13 (135, 121) := ⟨_, rfl, Or.inl (am_wi 5 144 rfl rfl)⟩
theorem am_mr_13_52 : am_mrP 13 (134, 241) := ⟨_, rfl, Or.inl (am_wi 8 18 rfl rfl)⟩
theorem am_mr_13_51 : am_mrP 13 (131, 120) := ⟨_, rfl, Or.inl (am_wi 5 121 rfl rfl)⟩
theorem am_mr_13_50 : am_mrP 13 (130, 239) := ⟨_, rfl, Or.inl (am_wi 8 14 rfl rfl)⟩
theorem am_mr_13_49 : am_mrP 13 (127, 119) := ⟨_, rfl, Or.inl (am_wi 5 105 rfl rfl)⟩
theorem am_mr_13_48 : am_mrP 13 (126, 224) := ⟨_, rfl, Or.inl (am_wi 7 190 rfl rfl)⟩
theorem am_mr_13_47 : am_mrP 13 (123, 118) := ⟨_, rfl, Or.inl (am_wi 5 88 rfl rfl)⟩
theorem am_mr_13_46 : am_mrP 13 (122, 222) := ⟨_, rfl, Or.inl (am_wi 7 179 rfl rfl)⟩
theorem am_mr_13_45 : am_mrP 13 (118, 117) := ⟨_, rfl, Or.inl (am_wi 5 74 rfl rfl)⟩
theorem am_mr_13_44 : am_mrP 13 (117, 219) := ⟨_, rfl, Or.inl (am_wi 7 171 rfl rfl)⟩
theorem am_mr_13_43 : am_mrP 13 (114, 116) := ⟨_, rfl, Or.inl (am_wi 5 70 rfl rfl)⟩
theorem am_mr_13_42 : am_mrP 13 (113, 217) := ⟨_, rfl, Or.inl (am_wi 7 117 rfl rfl)⟩
theorem am_mr_13_41 : am_mrP 13 (110, 115) := ⟨_, rfl, Or.inl (am_wi 5 63 rfl rfl)⟩
theorem am_mr_13_40 : am_mrP 13 (109, 238) := ⟨_, rfl, Or.inl (am_wi 8 5 rfl rfl)⟩
theorem am_mr_13_39 : am_mrP 13 (106, 114) := ⟨_, rfl, Or.inl (am_wi 5 19 rfl rfl)⟩
theorem am_mr_13_38 : am_mrP 13 (105, 236) := ⟨_, rfl, Or.inl (am_wi 7 237 rfl rfl)⟩
theorem am_mr_13_37 : am_mrP 13 (102, 113) := ⟨_, rfl, Or.inl (am_wi 5 9 rfl rfl)⟩
theorem am_mr_13_36 : am_mrP 13 (101, 234) := ⟨_, rfl, Or.inl (am_wi 7 205 rfl rfl)⟩
theorem am_mr_13_35 : am_mrP 13 (97, 112) := ⟨_, rfl, Or.inl (am_wi 4 150 rfl rfl)⟩
theorem am_mr_13_34 : am_mrP 13 (96, 226) := ⟨_, rfl, Or.inl (am_wi 7 201 rfl rfl)⟩
theorem am_mr_13_33 : am_mrP 13 (92, 111) := ⟨_, rfl, Or.inl (am_wi 4 146 rfl rfl)⟩
theorem am_mr_13_32 : am_mrP 13 (91, 225) := ⟨_, rfl, Or.inl (am_wi 7 197 rfl rfl)⟩
theorem am_mr_13_31 : am_mrP 13 (87, 110) := ⟨_, rfl, Or.inl (am_wi 4 135 rfl rfl)⟩
theorem am_mr_13_30 : am_mrP 13 (86, 203) := ⟨_, rfl, Or.inl (am_wi 7 113 rfl rfl)⟩
theorem am_mr_13_29 : am_mrP 13 (82, 109) := ⟨_, rfl, Or.inl (am_wi 4 127 rfl rfl)⟩
theorem am_mr_13_28 : am_mrP 13 (81, 202) := ⟨_, rfl, Or.inl (am_wi 7 106 rfl rfl)⟩
theorem am_mr_13_27 : am_mrP 13 (78, 108) := ⟨_, rfl, Or.inl (am_wi 4 116 rfl rfl)⟩
theorem am_mr_13_26 : am_mrP 13 (77, 200) := ⟨_, rfl, Or.inl (am_wi 7 97 rfl rfl)⟩
theorem am_mr_13_25 : am_mrP 13 (74, 107) := ⟨_, rfl, Or.inl (am_wi 4 101 rfl rfl)⟩
theorem am_mr_13_24 : am_mrP 13 (73, 198) := ⟨_, rfl, Or.inl (am_wi 7 57 rfl rfl)⟩
theorem am_mr_13_23 : am_mrP 13 (69, 106) := ⟨_, rfl, Or.inl (am_wi 4 42 rfl rfl)⟩
theorem am_mr_13_22 : am_mrP 13 (68, 188) := ⟨_, rfl, Or.inl (am_wi 7 53 rfl rfl)⟩
theorem am_mr_13_21 : am_mrP 13 (65, 105) := ⟨_, rfl, Or.inl (am_wi 4 38 rfl rfl)⟩
theorem am_mr_13_20 : am_mrP 13 (64, 187) := ⟨_, rfl, Or.inl (am_wi 7 49 rfl rfl)⟩
theorem am_mr_13_19 : am_mrP 13 (61, 104) := ⟨_, rfl, Or.inl (am_wi 4 34 rfl rfl)⟩
theorem am_mr_13_18 : am_mrP 13 (60, 186) := ⟨_, rfl, Or.inl (am_wi 6 200 rfl rfl)⟩
theorem am_mr_13_17 : am_mrP 13 (56, 103) := ⟨_, rfl, Or.inl (am_wi 3 134 rfl rfl)⟩
theorem am_mr_13_16 : am_mrP 13 (55, 163) := ⟨_, rfl, Or.inl (am_wi 6 196 rfl rfl)⟩
theorem am_mr_13_15 : am_mrP 13 (51, 102) := ⟨_, rfl, Or.inl (am_wi 3 130 rfl rfl)⟩
theorem am_mr_13_14 : am_mrP 13 (50, 162) := ⟨_, rfl, Or.inl (am_wi 6 188 rfl rfl)⟩
theorem am_mr_13_13 : am_mrP 13 (46, 101) := ⟨_, rfl, Or.inl (am_wi 3 118 rfl rfl)⟩
theorem am_mr_13_12 : am_mrP 13 (45, 160) := ⟨_, rfl, Or.inl (am_wi 6 184 rfl rfl)⟩
theorem am_mr_13_11 : am_mrP 13 (41, 100) := ⟨_, rfl, Or.inl (am_wi 3 114 rfl rfl)⟩
theorem am_mr_13_10 : am_mrP 13 (40, 159) := ⟨_, rfl, Or.inl (am_wi 6 180 rfl rfl)⟩
theorem am_mr_13_9 : am_mrP 13 (36, 99) := ⟨_, rfl, Or.inl (am_wi 3 110 rfl rfl)⟩
theorem am_mr_13_8 : am_mrP 13 (35, 158) := ⟨_, rfl, Or.inl (am_wi 6 176 rfl rfl)⟩
theorem am_mr_13_7 : am_mrP 13 (31, 98) := ⟨_, rfl, Or.inl (am_wi 3 106 rfl rfl)⟩
theorem am_mr_13_6 : am_mrP 13 (30, 157) := ⟨_, rfl, Or.inl (am_wi 6 169 rfl rfl)⟩
theorem am_mr_13_5 : am_mrP 13 (26, 97) := ⟨_, rfl, Or.inl (am_wi 3 99 rfl rfl)⟩
theorem am_mr_13_4 : am_mrP 13 (25, 155) := ⟨_, rfl, Or.inl (am_wi 6 155 rfl rfl)⟩
theorem am_mr_13_3 : am_mrP 13 (21, 96) := ⟨_, rfl, Or.inl (am_wi 3 81 rfl rfl)⟩
theorem am_mr_13_2 : am_mrP 13 (20, 149) := ⟨_, rfl, Or.inl (am_wi 6 33 rfl rfl)⟩
theorem am_mr_13_1 : am_mrP 13 (15, 95) := ⟨_, rfl, Or.inl (am_wi 1 23 rfl rfl)⟩
theorem am_mr_13_0 : am_mrP 13 (9, 252) := ⟨_, rfl, Or.inl (am_wi 6 28 rfl rfl)⟩
theorem am_mr_13 : ∀ q ∈ am_mr 13, am_mrP 13 q := List.forall_mem_cons.mpr ⟨am_mr_13_0, List.forall_mem_cons.mpr ⟨am_mr_13_1, List.forall_mem_cons.mpr ⟨am_mr_13_2, List.forall_mem_cons.mpr ⟨am_mr_13_3, List.forall_mem_cons.mpr ⟨am_mr_13_4, List.forall_mem_cons.mpr ⟨am_mr_13_5, List.forall_mem_cons.mpr ⟨am_mr_13_6, List.forall_mem_cons.mpr ⟨am_mr_13_7, List.forall_mem_cons.mpr ⟨am_mr_13_8, List.forall_mem_cons.mpr ⟨am_mr_13_9, List.forall_mem_cons.mpr ⟨am_mr_13_10, List.forall_mem_cons.mpr ⟨am_mr_13_11, List.forall_mem_cons.mpr ⟨am_mr_13_12, List.forall_mem_cons.mpr ⟨am_mr_13_13, List.forall_mem_cons.mpr ⟨am_mr_13_14, List.forall_mem_cons.mpr ⟨am_mr_13_15, List.forall_mem_cons.mpr ⟨am_mr_13_16, List.forall_mem_cons.mpr ⟨am_mr_13_17, List.forall_mem_cons.mpr ⟨am_mr_13_18, List.forall_mem_cons.mpr ⟨am_mr_13_19, List.forall_mem_cons.mpr ⟨am_mr_13_20, List.forall_mem_cons.mpr ⟨am_mr_13_21, List.forall_mem_cons.mpr ⟨am_mr_13_22, List.forall_mem_cons.mpr ⟨am_mr_13_23, List.forall_mem_cons.mpr ⟨am_mr_13_24, List.forall_mem_cons.mpr ⟨am_mr_13_25, List.forall_mem_cons.mpr ⟨am_mr_13_26, List.forall_mem_cons.mpr ⟨am_mr_13_27, List.forall_mem_cons.mpr ⟨am_mr_13_28, List.forall_mem_cons.mpr ⟨am_mr_13_29, List.forall_mem_cons.mpr ⟨am_mr_13_30, List.forall_mem_cons.mpr ⟨am_mr_13_31, List.forall_mem_cons.mpr ⟨am_mr_13_32, List.forall_mem_cons.mpr ⟨am_mr_13_33, List.forall_mem_cons.mpr ⟨am_mr_13_34, List.forall_mem_cons.mpr ⟨am_mr_13_35, List.forall_mem_cons.mpr ⟨am_mr_13_36, List.forall_mem_cons.mpr ⟨am_mr_13_37, List.forall_mem_cons.mpr ⟨am_mr_13_38, List.forall_mem_cons.mpr ⟨am_mr_13_39, List.forall_mem_cons.mpr ⟨am_mr_13_40, List.forall_mem_cons.mpr ⟨am_mr_13_41, List.forall_mem_cons.mpr ⟨am_mr_13_42, List.forall_mem_cons.mpr ⟨am_mr_13_43, List.forall_mem_cons.mpr ⟨am_mr_13_44, List.forall_mem_cons.mpr ⟨am_mr_13_45, List.forall_mem_cons.mpr ⟨am_mr_13_46, List.forall_mem_cons.mpr ⟨am_mr_13_47, List.forall_mem_cons.mpr ⟨am_mr_13_48, List.forall_mem_cons.mpr ⟨am_mr_13_49, List.forall_mem_cons.mpr ⟨am_mr_13_50, List.forall_mem_cons.mpr ⟨am_mr_13_51, List.forall_mem_cons.mpr ⟨am_mr_13_52, List.forall_mem_cons.mpr ⟨am_mr_13_53, List.forall_mem_cons.mpr ⟨am_mr_13_54, List.forall_mem_cons.mpr ⟨am_mr_13_55, List.forall_mem_cons.mpr ⟨am_mr_13_56, List.forall_mem_cons.mpr ⟨am_mr_13_57, List.forall_mem_cons.mpr ⟨am_mr_13_58, List.forall_mem_cons.mpr ⟨am_mr_13_59, List.forall_mem_cons.mpr ⟨am_mr_13_60, List.forall_mem_cons.mpr ⟨am_mr_13_61, List.forall_mem_cons.mpr ⟨am_mr_13_62, List.forall_mem_cons.mpr ⟨am_mr_13_63, List.forall_mem_cons.mpr ⟨am_mr_13_64, List.forall_mem_cons.mpr ⟨am_mr_13_65, List.forall_mem_cons.mpr ⟨am_mr_13_66, List.forall_mem_cons.mpr ⟨am_mr_13_67, List.forall_mem_cons.mpr ⟨am_mr_13_68, List.forall_mem_cons.mpr ⟨am_mr_13_69, List.forall_mem_cons.mpr ⟨am_mr_13_70, List.forall_mem_cons.mpr ⟨am_mr_13_71, List.forall_mem_cons.mpr ⟨am_mr_13_72, fun _ h => absurd h List.not_mem_nil⟩⟩⟩⟩⟩⟩⟩⟩⟩⟩⟩⟩⟩⟩⟩⟩⟩⟩⟩⟩⟩⟩⟩⟩⟩⟩⟩⟩⟩⟩⟩⟩⟩⟩⟩⟩⟩⟩⟩⟩⟩⟩⟩⟩⟩⟩⟩⟩⟩⟩⟩⟩⟩⟩⟩⟩⟩⟩⟩⟩⟩⟩⟩⟩⟩⟩⟩⟩⟩⟩⟩⟩⟩
theorem am_mr_14 : ∀ q ∈ am_mr 14, am_mrP 14 q := fun _ h => absurd h List.not_mem_nil
theorem am_mr_15 : ∀ q ∈ am_mr 15, am_mrP 15 q := fun _ h => absurd h List.not_mem_nil
theorem am_mr_all {c : Nat} {q : (Nat × Nat)} (h : q ∈ am_mr c) : am_mrP c q := by
  match c, h with
  | 0, h => exact am_mr_0 _ h
  | 1, h => exact am_mr_1 _ h
  | 2, h => exact am_mr_2 _ h
  | 3, h => exact am_mr_3 _ h
  | 4, h => exact am_mr_4 _ h
  | 5, h => exact am_mr_5 _ h
  | 6, h => exact am_mr_6 _ h
  | 7, h => exact am_mr_7 _ h
  | 8, h => exact am_mr_8 _ h
  | 9, h => exact am_mr_9 _ h
  | 10, h => exact am_mr_10 _ h
  | 11, h => exact am_mr_11 _ h
  | 12, h => exact am_mr_12 _ h
  | 13, h => exact am_mr_13 _ h
  | 14, h => exact am_mr_14 _ h
  | 15, h => exact am_mr_15 _ h
  | c + 16, h => exact absurd h (by simp [am_mr])
def am_cr (k : Nat) : List (Nat × Nat) := ([[], [], [], [(9, 1)], [], [], [], [], [], [], [(30, 1)], [(22, 9), (31, 8), (38, 2), (54, 7), (61, 4), (64, 0), (73, 6), (82, 10), (91, 3), (98, 5)], [], [(7, 11), (18, 12)], [], []] : List (List (Nat × Nat))).getD k []
def am_crP (c : Nat) (q : Nat × Nat) : Prop := ∃ r : vw_C, vwCl[q.2]? = some r ∧ Cond.classLink (am_on c) q.1 r.1 ∈ am_good
theorem am_cr_0 : ∀ q ∈ am_cr 0, am_crP 0 q := fun _ h => absurd h List.not_mem_nil
theorem am_cr_1 : ∀ q ∈ am_cr 1, am_crP 1 q := fun _ h => absurd h List.not_mem_nil
theorem am_cr_2 : ∀ q ∈ am_cr 2, am_crP 2 q := fun _ h => absurd h List.not_mem_nil
theorem am_cr_3_0 : am_crP 3 (9, 1) := ⟨_, rfl, am_wi 2 169 rfl rfl⟩
theorem am_cr_3 : ∀ q ∈ am_cr 3, am_crP 3 q := List.forall_mem_cons.mpr ⟨am_cr_3_0, fun _ h => absurd h List.not_mem_nil⟩
theorem am_cr_4 : ∀ q ∈ am_cr 4, am_crP 4 q := fun _ h => absurd h List.not_mem_nil
theorem am_cr_5 : ∀ q ∈ am_cr 5, am_crP 5 q := fun _ h => absurd h List.not_mem_nil
theorem am_cr_6 : ∀ q ∈ am_cr 6, am_crP 6 q := fun _ h => absurd h List.not_mem_nil
theorem am_cr_7 : ∀ q ∈ am_cr 7, am_crP 7 q := fun _ h => absurd h List.not_mem_nil
theorem am_cr_8 : ∀ q ∈ am_cr 8, am_crP 8 q := fun _ h => absurd h List.not_mem_nil
theorem am_cr_9 : ∀ q ∈ am_cr 9, am_crP 9 q := fun _ h => absurd h List.not_mem_nil
theorem am_cr_10_0 : am_crP 10 (30, 1) := ⟨_, rfl, am_wi 2 103 rfl rfl⟩
theorem am_cr_10 : ∀ q ∈ am_cr 10, am_crP 10 q := List.forall_mem_cons.mpr ⟨am_cr_10_0, fun _ h => absurd h List.not_mem_nil⟩
theorem am_cr_11_9 : am_crP 11 (98, 5) := ⟨_, rfl, am_wi 2 207 rfl rfl⟩
theorem am_cr_11_8 : am_crP 11 (91, 3) := ⟨_, rfl, am_wi 2 163 rfl rfl⟩
theorem am_cr_11_7 : am_crP 11 (82, 10) := ⟨_, rfl, am_wi 2 97 rfl rfl⟩
theorem am_cr_11_6 : am_crP 11 (73, 6) := ⟨_, rfl, am_wi 2 50 rfl rfl⟩
theorem am_cr_11_5 : am_crP 11 (64, 0) := ⟨_, rfl, am_wi 2 14 rfl rfl⟩
theorem am_cr_11_4 : am_crP 11 (61, 4) := ⟨_, rfl, am_wi 1 236 rfl rfl⟩
theorem am_cr_11_3 : am_crP 11 (54, 7) := ⟨_, rfl, am_wi 1 190 rfl rfl⟩
theorem am_cr_11_2 : am_crP 11 (38, 2) := ⟨_, rfl, am_wi 1 103 rfl rfl⟩
theorem am_cr_11_1 : am_crP 11 (31, 8) := ⟨_, rfl, am_wi 1 70 rfl rfl⟩
theorem am_cr_11_0 : am_crP 11 (22, 9) := ⟨_, rfl, am_wi 1 35 rfl rfl⟩
theorem am_cr_11 : ∀ q ∈ am_cr 11, am_crP 11 q := List.forall_mem_cons.mpr ⟨am_cr_11_0, List.forall_mem_cons.mpr ⟨am_cr_11_1, List.forall_mem_cons.mpr ⟨am_cr_11_2, List.forall_mem_cons.mpr ⟨am_cr_11_3, List.forall_mem_cons.mpr ⟨am_cr_11_4, List.forall_mem_cons.mpr ⟨am_cr_11_5, List.forall_mem_cons.mpr ⟨am_cr_11_6, List.forall_mem_cons.mpr ⟨am_cr_11_7, List.forall_mem_cons.mpr ⟨am_cr_11_8, List.forall_mem_cons.mpr ⟨am_cr_11_9, fun _ h => absurd h List.not_mem_nil⟩⟩⟩⟩⟩⟩⟩⟩⟩⟩
theorem am_cr_12 : ∀ q ∈ am_cr 12, am_crP 12 q := fun _ h => absurd h List.not_mem_nil
theorem am_cr_13_1 : am_crP 13 (18, 12) := ⟨_, rfl, am_wi 6 31 rfl rfl⟩
theorem am_cr_13_0 : am_crP 13 (7, 11) := ⟨_, rfl, am_wi 1 21 rfl rfl⟩
theorem am_cr_13 : ∀ q ∈ am_cr 13, am_crP 13 q := List.forall_mem_cons.mpr ⟨am_cr_13_0, List.forall_mem_cons.mpr ⟨am_cr_13_1, fun _ h => absurd h List.not_mem_nil⟩⟩
theorem am_cr_14 : ∀ q ∈ am_cr 14, am_crP 14 q := fun _ h => absurd h List.not_mem_nil
theorem am_cr_15 : ∀ q ∈ am_cr 15, am_crP 15 q := fun _ h => absurd h List.not_mem_nil
theorem am_cr_all {c : Nat} {q : (Nat × Nat)} (h : q ∈ am_cr c) : am_crP c q := by
  match c, h with
  | 0, h => exact am_cr_0 _ h
  | 1, h => exact am_cr_1 _ h
  | 2, h => exact am_cr_2 _ h
  | 3, h => exact am_cr_3 _ h
  | 4, h => exact am_cr_4 _ h
  | 5, h => exact am_cr_5 _ h
  | 6, h => exact am_cr_6 _ h
  | 7, h => exact am_cr_7 _ h
  | 8, h => exact am_cr_8 _ h
  | 9, h => exact am_cr_9 _ h
  | 10, h => exact am_cr_10 _ h
  | 11, h => exact am_cr_11 _ h
  | 12, h => exact am_cr_12 _ h
  | 13, h => exact am_cr_13 _ h
  | 14, h => exact am_cr_14 _ h
  | 15, h => exact am_cr_15 _ h
  | c + 16, h => exact absurd h (by simp [am_cr])
def am_kr (k : Nat) : List (Nat × Int) := ([[], [(51, 524288)], [], [(55, 1000000)], [], [(95, 1073741824)], [(102, 999999)], [], [], [], [], [(191, (-1000000)), (275, 1000000)], [(114, 100000), (255, (-1000000)), (267, 1000000), (358, 999999)], [], [], []] : List (List (Nat × Int))).getD k []
def am_krP (c : Nat) (q : Nat × Int) : Prop := Cond.constant (am_on c) q.1 (Int32.ofInt q.2) ∈ am_good
theorem am_kr_0 : ∀ q ∈ am_kr 0, am_krP 0 q := fun _ h => absurd h List.not_mem_nil
theorem am_kr_1_0 : am_krP 1 (51, 524288) := by
  have h : Cond.constant "LeaningWheel$Big" 51 (524288 : Int32) ∈ am_good := am_wi 5 7 rfl rfl
  have e : Int32.ofInt 524288 = (524288 : Int32) := by decide +kernel
  show Cond.constant "LeaningWheel$Big" 51 (Int32.ofInt 524288) ∈ am_good
  rw [e]
  exact h
theorem am_kr_1 : ∀ q ∈ am_kr 1, am_krP 1 q := List.forall_mem_cons.mpr ⟨am_kr_1_0, fun _ h => absurd h List.not_mem_nil⟩
theorem am_kr_2 : ∀ q ∈ am_kr 2, am_krP 2 q := fun _ h => absurd h List.not_mem_nil
theorem am_kr_3_0 : am_krP 3 (55, 1000000) := by
  have h : Cond.constant "LeaningWheel$Chances" 55 (1000000 : Int32) ∈ am_good := am_wi 5 61 rfl rfl
  have e : Int32.ofInt 1000000 = (1000000 : Int32) := by decide +kernel
  show Cond.constant "LeaningWheel$Chances" 55 (Int32.ofInt 1000000) ∈ am_good
  rw [e]
  exact h
theorem am_kr_3 : ∀ q ∈ am_kr 3, am_krP 3 q := List.forall_mem_cons.mpr ⟨am_kr_3_0, fun _ h => absurd h List.not_mem_nil⟩
theorem am_kr_4 : ∀ q ∈ am_kr 4, am_krP 4 q := fun _ h => absurd h List.not_mem_nil
theorem am_kr_5_0 : am_krP 5 (95, 1073741824) := by
  have h : Cond.constant "LeaningWheel$Planner" 95 (1073741824 : Int32) ∈ am_good := am_wi 5 232 rfl rfl
  have e : Int32.ofInt 1073741824 = (1073741824 : Int32) := by decide +kernel
  show Cond.constant "LeaningWheel$Planner" 95 (Int32.ofInt 1073741824) ∈ am_good
  rw [e]
  exact h
theorem am_kr_5 : ∀ q ∈ am_kr 5, am_krP 5 q := List.forall_mem_cons.mpr ⟨am_kr_5_0, fun _ h => absurd h List.not_mem_nil⟩
theorem am_kr_6_0 : am_krP 6 (102, 999999) := by
  have h : Cond.constant "LeaningWheel$Player" 102 (999999 : Int32) ∈ am_good := am_wi 5 185 rfl rfl
  have e : Int32.ofInt 999999 = (999999 : Int32) := by decide +kernel
  show Cond.constant "LeaningWheel$Player" 102 (Int32.ofInt 999999) ∈ am_good
  rw [e]
  exact h
theorem am_kr_6 : ∀ q ∈ am_kr 6, am_krP 6 q := List.forall_mem_cons.mpr ⟨am_kr_6_0, fun _ h => absurd h List.not_mem_nil⟩
theorem am_kr_7 : ∀ q ∈ am_kr 7, am_krP 7 q := fun _ h => absurd h List.not_mem_nil
theorem am_kr_8 : ∀ q ∈ am_kr 8, am_krP 8 q := fun _ h => absurd h List.not_mem_nil
theorem am_kr_9 : ∀ q ∈ am_kr 9, am_krP 9 q := fun _ h => absurd h List.not_mem_nil
theorem am_kr_10 : ∀ q ∈ am_kr 10, am_krP 10 q := fun _ h => absurd h List.not_mem_nil
theorem am_kr_11_1 : am_krP 11 (275, 1000000) := by
  have h : Cond.constant "LeaningWheel" 275 (1000000 : Int32) ∈ am_good := am_wi 5 78 rfl rfl
  have e : Int32.ofInt 1000000 = (1000000 : Int32) := by decide +kernel
  show Cond.constant "LeaningWheel" 275 (Int32.ofInt 1000000) ∈ am_good
  rw [e]
  exact h
theorem am_kr_11_0 : am_krP 11 (191, (-1000000)) := by
  have h : Cond.constant "LeaningWheel" 191 ((-1000000) : Int32) ∈ am_good := am_wi 4 105 rfl rfl
  have e : Int32.ofInt (-1000000) = ((-1000000) : Int32) := by decide +kernel
  show Cond.constant "LeaningWheel" 191 (Int32.ofInt (-1000000)) ∈ am_good
  rw [e]
  exact h
theorem am_kr_11 : ∀ q ∈ am_kr 11, am_krP 11 q := List.forall_mem_cons.mpr ⟨am_kr_11_0, List.forall_mem_cons.mpr ⟨am_kr_11_1, fun _ h => absurd h List.not_mem_nil⟩⟩
theorem am_kr_12_3 : am_krP 12 (358, 999999) := by
  have h : Cond.constant "LeaningWheelModel" 358 (999999 : Int32) ∈ am_good := am_wi 8 38 rfl rfl
  have e : Int32.ofInt 999999 = (999999 : Int32) := by decide +kernel
  show Cond.constant "LeaningWheelModel" 358 (Int32.ofInt 999999) ∈ am_good
  rw [e]
  exact h
theorem am_kr_12_2 : am_krP 12 (267, 1000000) := by
  have h : Cond.constant "LeaningWheelModel" 267 (1000000 : Int32) ∈ am_good := am_wi 7 158 rfl rfl
  have e : Int32.ofInt 1000000 = (1000000 : Int32) := by decide +kernel
  show Cond.constant "LeaningWheelModel" 267 (Int32.ofInt 1000000) ∈ am_good
  rw [e]
  exact h
theorem am_kr_12_1 : am_krP 12 (255, (-1000000)) := by
  have h : Cond.constant "LeaningWheelModel" 255 ((-1000000) : Int32) ∈ am_good := am_wi 7 101 rfl rfl
  have e : Int32.ofInt (-1000000) = ((-1000000) : Int32) := by decide +kernel
  show Cond.constant "LeaningWheelModel" 255 (Int32.ofInt (-1000000)) ∈ am_good
  rw [e]
  exact h
theorem am_kr_12_0 : am_krP 12 (114, 100000) := by
  have h : Cond.constant "LeaningWheelModel" 114 (100000 : Int32) ∈ am_good := am_wi 6 219 rfl rfl
  have e : Int32.ofInt 100000 = (100000 : Int32) := by decide +kernel
  show Cond.constant "LeaningWheelModel" 114 (Int32.ofInt 100000) ∈ am_good
  rw [e]
  exact h
theorem am_kr_12 : ∀ q ∈ am_kr 12, am_krP 12 q := List.forall_mem_cons.mpr ⟨am_kr_12_0, List.forall_mem_cons.mpr ⟨am_kr_12_1, List.forall_mem_cons.mpr ⟨am_kr_12_2, List.forall_mem_cons.mpr ⟨am_kr_12_3, fun _ h => absurd h List.not_mem_nil⟩⟩⟩⟩
theorem am_kr_13 : ∀ q ∈ am_kr 13, am_krP 13 q := fun _ h => absurd h List.not_mem_nil
theorem am_kr_14 : ∀ q ∈ am_kr 14, am_krP 14 q := fun _ h => absurd h List.not_mem_nil
theorem am_kr_15 : ∀ q ∈ am_kr 15, am_krP 15 q := fun _ h => absurd h List.not_mem_nil
theorem am_kr_all {c : Nat} {q : (Nat × Int)} (h : q ∈ am_kr c) : am_krP c q := by
  match c, h with
  | 0, h => exact am_kr_0 _ h
  | 1, h => exact am_kr_1 _ h
  | 2, h => exact am_kr_2 _ h
  | 3, h => exact am_kr_3 _ h
  | 4, h => exact am_kr_4 _ h
  | 5, h => exact am_kr_5 _ h
  | 6, h => exact am_kr_6 _ h
  | 7, h => exact am_kr_7 _ h
  | 8, h => exact am_kr_8 _ h
  | 9, h => exact am_kr_9 _ h
  | 10, h => exact am_kr_10 _ h
  | 11, h => exact am_kr_11 _ h
  | 12, h => exact am_kr_12 _ h
  | 13, h => exact am_kr_13 _ h
  | 14, h => exact am_kr_14 _ h
  | 15, h => exact am_kr_15 _ h
  | c + 16, h => exact absurd h (by simp [am_kr])
def am_jr (k : Nat) : List (Nat × Int) := ([[], [(32, 2147483647)], [], [], [(65, (-1000000)), (67, 1000000)], [(27, 1000000000000000), (53, 1000000000), (58, (-1)), (70, 1000), (72, 1000000000000), (74, 1152921504606846976), (86, 1048575)], [], [], [], [], [], [], [(193, 28526), (210, 1000000), (212, (-1000000)), (262, 10000)], [], [], []] : List (List (Nat × Int))).getD k []
def am_jrP (c : Nat) (q : Nat × Int) : Prop := Cond.constantLong (am_on c) q.1 (Int64.ofInt q.2) ∈ am_good
theorem am_jr_0 : ∀ q ∈ am_jr 0, am_jrP 0 q := fun _ h => absurd h List.not_mem_nil
theorem am_jr_1_0 : am_jrP 1 (32, 2147483647) := by
  have h : Cond.constantLong "LeaningWheel$Big" 32 (2147483647 : Int64) ∈ am_good := am_wi 4 195 rfl rfl
  have e : Int64.ofInt 2147483647 = (2147483647 : Int64) := by decide +kernel
  show Cond.constantLong "LeaningWheel$Big" 32 (Int64.ofInt 2147483647) ∈ am_good
  rw [e]
  exact h
theorem am_jr_1 : ∀ q ∈ am_jr 1, am_jrP 1 q := List.forall_mem_cons.mpr ⟨am_jr_1_0, fun _ h => absurd h List.not_mem_nil⟩
theorem am_jr_2 : ∀ q ∈ am_jr 2, am_jrP 2 q := fun _ h => absurd h List.not_mem_nil
theorem am_jr_3 : ∀ q ∈ am_jr 3, am_jrP 3 q := fun _ h => absurd h List.not_mem_nil
theorem am_jr_4_1 : am_jrP 4 (67, 1000000) := by
  have h : Cond.constantLong "LeaningWheel$Machine" 67 (1000000 : Int64) ∈ am_good := am_wi 4 84 rfl rfl
  have e : Int64.ofInt 1000000 = (1000000 : Int64) := by decide +kernel
  show Cond.constantLong "LeaningWheel$Machine" 67 (Int64.ofInt 1000000) ∈ am_good
  rw [e]
  exact h
theorem am_jr_4_0 : am_jrP 4 (65, (-1000000)) := by
  have h : Cond.constantLong "LeaningWheel$Machine" 65 ((-1000000) : Int64) ∈ am_good := am_wi 4 83 rfl rfl
  have e : Int64.ofInt (-1000000) = ((-1000000) : Int64) := by decide +kernel
  show Cond.constantLong "LeaningWheel$Machine" 65 (Int64.ofInt (-1000000)) ∈ am_good
  rw [e]
  exact h
theorem am_jr_4 : ∀ q ∈ am_jr 4, am_jrP 4 q := List.forall_mem_cons.mpr ⟨am_jr_4_0, List.forall_mem_cons.mpr ⟨am_jr_4_1, fun _ h => absurd h List.not_mem_nil⟩⟩
theorem am_jr_5_6 : am_jrP 5 (86, 1048575) := by
  have h : Cond.constantLong "LeaningWheel$Planner" 86 (1048575 : Int64) ∈ am_good := am_wi 5 219 rfl rfl
  have e : Int64.ofInt 1048575 = (1048575 : Int64) := by decide +kernel
  show Cond.constantLong "LeaningWheel$Planner" 86 (Int64.ofInt 1048575) ∈ am_good
  rw [e]
  exact h
theorem am_jr_5_5 : am_jrP 5 (74, 1152921504606846976) := by
  have h : Cond.constantLong "LeaningWheel$Planner" 74 (1152921504606846976 : Int64) ∈ am_good := am_wi 5 214 rfl rfl
  have e : Int64.ofInt 1152921504606846976 = (1152921504606846976 : Int64) := by decide +kernel
  show Cond.constantLong "LeaningWheel$Planner" 74 (Int64.ofInt 1152921504606846976) ∈ am_good
  rw [e]
  exact h
theorem am_jr_5_4 : am_jrP 5 (72, 1000000000000) := by
  have h : Cond.constantLong "LeaningWheel$Planner" 72 (1000000000000 : Int64) ∈ am_good := am_wi 5 142 rfl rfl
  have e : Int64.ofInt 1000000000000 = (1000000000000 : Int64) := by decide +kernel
  show Cond.constantLong "LeaningWheel$Planner" 72 (Int64.ofInt 1000000000000) ∈ am_good
  rw [e]
  exact h
theorem am_jr_5_3 : am_jrP 5 (70, 1000) := by
  have h : Cond.constantLong "LeaningWheel$Planner" 70 (1000 : Int64) ∈ am_good := am_wi 5 141 rfl rfl
  have e : Int64.ofInt 1000 = (1000 : Int64) := by decide +kernel
  show Cond.constantLong "LeaningWheel$Planner" 70 (Int64.ofInt 1000) ∈ am_good
  rw [e]
  exact h
theorem am_jr_5_2 : am_jrP 5 (58, (-1)) := by
  have h : Cond.constantLong "LeaningWheel$Planner" 58 ((-1) : Int64) ∈ am_good := am_wi 5 135 rfl rfl
  have e : Int64.ofInt (-1) = ((-1) : Int64) := by decide +kernel
  show Cond.constantLong "LeaningWheel$Planner" 58 (Int64.ofInt (-1)) ∈ am_good
  rw [e]
  exact h
theorem am_jr_5_1 : am_jrP 5 (53, 1000000000) := by
  have h : Cond.constantLong "LeaningWheel$Planner" 53 (1000000000 : Int64) ∈ am_good := am_wi 5 143 rfl rfl
  have e : Int64.ofInt 1000000000 = (1000000000 : Int64) := by decide +kernel
  show Cond.constantLong "LeaningWheel$Planner" 53 (Int64.ofInt 1000000000) ∈ am_good
  rw [e]
  exact h
theorem am_jr_5_0 : am_jrP 5 (27, 1000000000000000) := by
  have h : Cond.constantLong "LeaningWheel$Planner" 27 (1000000000000000 : Int64) ∈ am_good := am_wi 5 129 rfl rfl
  have e : Int64.ofInt 1000000000000000 = (1000000000000000 : Int64) := by decide +kernel
  show Cond.constantLong "LeaningWheel$Planner" 27 (Int64.ofInt 1000000000000000) ∈ am_good
  rw [e]
  exact h
theorem am_jr_5 : ∀ q ∈ am_jr 5, am_jrP 5 q := List.forall_mem_cons.mpr ⟨am_jr_5_0, List.forall_mem_cons.mpr ⟨am_jr_5_1, List.forall_mem_cons.mpr ⟨am_jr_5_2, List.forall_mem_cons.mpr ⟨am_jr_5_3, List.forall_mem_cons.mpr ⟨am_jr_5_4, List.forall_mem_cons.mpr ⟨am_jr_5_5, List.forall_mem_cons.mpr ⟨am_jr_5_6, fun _ h => absurd h List.not_mem_nil⟩⟩⟩⟩⟩⟩⟩
theorem am_jr_6 : ∀ q ∈ am_jr 6, am_jrP 6 q := fun _ h => absurd h List.not_mem_nil
theorem am_jr_7 : ∀ q ∈ am_jr 7, am_jrP 7 q := fun _ h => absurd h List.not_mem_nil
theorem am_jr_8 : ∀ q ∈ am_jr 8, am_jrP 8 q := fun _ h => absurd h List.not_mem_nil
theorem am_jr_9 : ∀ q ∈ am_jr 9, am_jrP 9 q := fun _ h => absurd h List.not_mem_nil
theorem am_jr_10 : ∀ q ∈ am_jr 10, am_jrP 10 q := fun _ h => absurd h List.not_mem_nil
theorem am_jr_11 : ∀ q ∈ am_jr 11, am_jrP 11 q := fun _ h => absurd h List.not_mem_nil
theorem am_jr_12_3 : am_jrP 12 (262, 10000) := by
  have h : Cond.constantLong "LeaningWheelModel" 262 (10000 : Int64) ∈ am_good := am_wi 7 141 rfl rfl
  have e : Int64.ofInt 10000 = (10000 : Int64) := by decide +kernel
  show Cond.constantLong "LeaningWheelModel" 262 (Int64.ofInt 10000) ∈ am_good
  rw [e]
  exact h
theorem am_jr_12_2 : am_jrP 12 (212, (-1000000)) := by
  have h : Cond.constantLong "LeaningWheelModel" 212 ((-1000000) : Int64) ∈ am_good := am_wi 7 88 rfl rfl
  have e : Int64.ofInt (-1000000) = ((-1000000) : Int64) := by decide +kernel
  show Cond.constantLong "LeaningWheelModel" 212 (Int64.ofInt (-1000000)) ∈ am_good
  rw [e]
  exact h
theorem am_jr_12_1 : am_jrP 12 (210, 1000000) := by
  have h : Cond.constantLong "LeaningWheelModel" 210 (1000000 : Int64) ∈ am_good := am_wi 7 87 rfl rfl
  have e : Int64.ofInt 1000000 = (1000000 : Int64) := by decide +kernel
  show Cond.constantLong "LeaningWheelModel" 210 (Int64.ofInt 1000000) ∈ am_good
  rw [e]
  exact h
theorem am_jr_12_0 : am_jrP 12 (193, 28526) := by
  have h : Cond.constantLong "LeaningWheelModel" 193 (28526 : Int64) ∈ am_good := am_wi 7 4 rfl rfl
  have e : Int64.ofInt 28526 = (28526 : Int64) := by decide +kernel
  show Cond.constantLong "LeaningWheelModel" 193 (Int64.ofInt 28526) ∈ am_good
  rw [e]
  exact h
theorem am_jr_12 : ∀ q ∈ am_jr 12, am_jrP 12 q := List.forall_mem_cons.mpr ⟨am_jr_12_0, List.forall_mem_cons.mpr ⟨am_jr_12_1, List.forall_mem_cons.mpr ⟨am_jr_12_2, List.forall_mem_cons.mpr ⟨am_jr_12_3, fun _ h => absurd h List.not_mem_nil⟩⟩⟩⟩
theorem am_jr_13 : ∀ q ∈ am_jr 13, am_jrP 13 q := fun _ h => absurd h List.not_mem_nil
theorem am_jr_14 : ∀ q ∈ am_jr 14, am_jrP 14 q := fun _ h => absurd h List.not_mem_nil
theorem am_jr_15 : ∀ q ∈ am_jr 15, am_jrP 15 q := fun _ h => absurd h List.not_mem_nil
theorem am_jr_all {c : Nat} {q : (Nat × Int)} (h : q ∈ am_jr c) : am_jrP c q := by
  match c, h with
  | 0, h => exact am_jr_0 _ h
  | 1, h => exact am_jr_1 _ h
  | 2, h => exact am_jr_2 _ h
  | 3, h => exact am_jr_3 _ h
  | 4, h => exact am_jr_4 _ h
  | 5, h => exact am_jr_5 _ h
  | 6, h => exact am_jr_6 _ h
  | 7, h => exact am_jr_7 _ h
  | 8, h => exact am_jr_8 _ h
  | 9, h => exact am_jr_9 _ h
  | 10, h => exact am_jr_10 _ h
  | 11, h => exact am_jr_11 _ h
  | 12, h => exact am_jr_12 _ h
  | 13, h => exact am_jr_13 _ h
  | 14, h => exact am_jr_14 _ h
  | 15, h => exact am_jr_15 _ h
  | c + 16, h => exact absurd h (by simp [am_jr])
def am_ac (k : Nat) : List Nat := ([[], [26], [61], [], [], [33], [], [], [31], [34], [153], [], [], [], [], []] : List (List Nat)).getD k []
def am_acP (c : Nat) (q : Nat) : Prop := Cond.methodLink (am_on c) q arraycopyName ∈ am_good
theorem am_ac_0 : ∀ q ∈ am_ac 0, am_acP 0 q := fun _ h => absurd h List.not_mem_nil
theorem am_ac_1_0 : am_acP 1 26 := am_wi 4 229 rfl rfl
theorem am_ac_1 : ∀ q ∈ am_ac 1, am_acP 1 q := List.forall_mem_cons.mpr ⟨am_ac_1_0, fun _ h => absurd h List.not_mem_nil⟩
theorem am_ac_2_0 : am_acP 2 61 := am_wi 6 18 rfl rfl
theorem am_ac_2 : ∀ q ∈ am_ac 2, am_acP 2 q := List.forall_mem_cons.mpr ⟨am_ac_2_0, fun _ h => absurd h List.not_mem_nil⟩
theorem am_ac_3 : ∀ q ∈ am_ac 3, am_acP 3 q := fun _ h => absurd h List.not_mem_nil
theorem am_ac_4 : ∀ q ∈ am_ac 4, am_acP 4 q := fun _ h => absurd h List.not_mem_nil
theorem am_ac_5_0 : am_acP 5 33 := am_wi 5 130 rfl rfl
theorem am_ac_5 : ∀ q ∈ am_ac 5, am_acP 5 q := List.forall_mem_cons.mpr ⟨am_ac_5_0, fun _ h => absurd h List.not_mem_nil⟩
theorem am_ac_6 : ∀ q ∈ am_ac 6, am_acP 6 q := fun _ h => absurd h List.not_mem_nil
theorem am_ac_7 : ∀ q ∈ am_ac 7, am_acP 7 q := fun _ h => absurd h List.not_mem_nil
theorem am_ac_8_0 : am_acP 8 31 := am_wi 6 13 rfl rfl
theorem am_ac_8 : ∀ q ∈ am_ac 8, am_acP 8 q := List.forall_mem_cons.mpr ⟨am_ac_8_0, fun _ h => absurd h List.not_mem_nil⟩
theorem am_ac_9_0 : am_acP 9 34 := am_wi 6 8 rfl rfl
theorem am_ac_9 : ∀ q ∈ am_ac 9, am_acP 9 q := List.forall_mem_cons.mpr ⟨am_ac_9_0, fun _ h => absurd h List.not_mem_nil⟩
theorem am_ac_10_0 : am_acP 10 153 := am_wi 4 232 rfl rfl
theorem am_ac_10 : ∀ q ∈ am_ac 10, am_acP 10 q := List.forall_mem_cons.mpr ⟨am_ac_10_0, fun _ h => absurd h List.not_mem_nil⟩
theorem am_ac_11 : ∀ q ∈ am_ac 11, am_acP 11 q := fun _ h => absurd h List.not_mem_nil
theorem am_ac_12 : ∀ q ∈ am_ac 12, am_acP 12 q := fun _ h => absurd h List.not_mem_nil
theorem am_ac_13 : ∀ q ∈ am_ac 13, am_acP 13 q := fun _ h => absurd h List.not_mem_nil
theorem am_ac_14 : ∀ q ∈ am_ac 14, am_acP 14 q := fun _ h => absurd h List.not_mem_nil
theorem am_ac_15 : ∀ q ∈ am_ac 15, am_acP 15 q := fun _ h => absurd h List.not_mem_nil
theorem am_ac_all {c : Nat} {q : Nat} (h : q ∈ am_ac c) : am_acP c q := by
  match c, h with
  | 0, h => exact am_ac_0 _ h
  | 1, h => exact am_ac_1 _ h
  | 2, h => exact am_ac_2 _ h
  | 3, h => exact am_ac_3 _ h
  | 4, h => exact am_ac_4 _ h
  | 5, h => exact am_ac_5 _ h
  | 6, h => exact am_ac_6 _ h
  | 7, h => exact am_ac_7 _ h
  | 8, h => exact am_ac_8 _ h
  | 9, h => exact am_ac_9 _ h
  | 10, h => exact am_ac_10 _ h
  | 11, h => exact am_ac_11 _ h
  | 12, h => exact am_ac_12 _ h
  | 13, h => exact am_ac_13 _ h
  | 14, h => exact am_ac_14 _ h
  | 15, h => exact am_ac_15 _ h
  | c + 16, h => exact absurd h (by simp [am_ac])
def am_oi (k : Nat) : List Nat := ([[3], [3], [3], [3], [1], [3], [3], [3], [3], [3], [3], [1], [1], [], [], []] : List (List Nat)).getD k []
def am_oiP (c : Nat) (q : Nat) : Prop := Cond.methodLink (am_on c) q Lib.objectInit ∈ am_good
theorem am_oi_0_0 : am_oiP 0 3 := am_wi 2 19 rfl rfl
theorem am_oi_0 : ∀ q ∈ am_oi 0, am_oiP 0 q := List.forall_mem_cons.mpr ⟨am_oi_0_0, fun _ h => absurd h List.not_mem_nil⟩
theorem am_oi_1_0 : am_oiP 1 3 := am_wi 2 109 rfl rfl
theorem am_oi_1 : ∀ q ∈ am_oi 1, am_oiP 1 q := List.forall_mem_cons.mpr ⟨am_oi_1_0, fun _ h => absurd h List.not_mem_nil⟩
theorem am_oi_2_0 : am_oiP 2 3 := am_wi 1 108 rfl rfl
theorem am_oi_2 : ∀ q ∈ am_oi 2, am_oiP 2 q := List.forall_mem_cons.mpr ⟨am_oi_2_0, fun _ h => absurd h List.not_mem_nil⟩
theorem am_oi_3_0 : am_oiP 3 3 := am_wi 2 168 rfl rfl
theorem am_oi_3 : ∀ q ∈ am_oi 3, am_oiP 3 q := List.forall_mem_cons.mpr ⟨am_oi_3_0, fun _ h => absurd h List.not_mem_nil⟩
theorem am_oi_4_0 : am_oiP 4 1 := am_wi 2 1 rfl rfl
theorem am_oi_4 : ∀ q ∈ am_oi 4, am_oiP 4 q := List.forall_mem_cons.mpr ⟨am_oi_4_0, fun _ h => absurd h List.not_mem_nil⟩
theorem am_oi_5_0 : am_oiP 5 3 := am_wi 2 212 rfl rfl
theorem am_oi_5 : ∀ q ∈ am_oi 5, am_oiP 5 q := List.forall_mem_cons.mpr ⟨am_oi_5_0, fun _ h => absurd h List.not_mem_nil⟩
theorem am_oi_6_0 : am_oiP 6 3 := am_wi 2 55 rfl rfl
theorem am_oi_6 : ∀ q ∈ am_oi 6, am_oiP 6 q := List.forall_mem_cons.mpr ⟨am_oi_6_0, fun _ h => absurd h List.not_mem_nil⟩
theorem am_oi_7_0 : am_oiP 7 3 := am_wi 1 195 rfl rfl
theorem am_oi_7 : ∀ q ∈ am_oi 7, am_oiP 7 q := List.forall_mem_cons.mpr ⟨am_oi_7_0, fun _ h => absurd h List.not_mem_nil⟩
theorem am_oi_8_0 : am_oiP 8 3 := am_wi 1 75 rfl rfl
theorem am_oi_8 : ∀ q ∈ am_oi 8, am_oiP 8 q := List.forall_mem_cons.mpr ⟨am_oi_8_0, fun _ h => absurd h List.not_mem_nil⟩
theorem am_oi_9_0 : am_oiP 9 3 := am_wi 1 40 rfl rfl
theorem am_oi_9 : ∀ q ∈ am_oi 9, am_oiP 9 q := List.forall_mem_cons.mpr ⟨am_oi_9_0, fun _ h => absurd h List.not_mem_nil⟩
theorem am_oi_10_0 : am_oiP 10 3 := am_wi 2 102 rfl rfl
theorem am_oi_10 : ∀ q ∈ am_oi 10, am_oiP 10 q := List.forall_mem_cons.mpr ⟨am_oi_10_0, fun _ h => absurd h List.not_mem_nil⟩
theorem am_oi_11_0 : am_oiP 11 1 := am_wi 1 26 rfl rfl
theorem am_oi_11 : ∀ q ∈ am_oi 11, am_oiP 11 q := List.forall_mem_cons.mpr ⟨am_oi_11_0, fun _ h => absurd h List.not_mem_nil⟩
theorem am_oi_12_0 : am_oiP 12 1 := am_wi 6 36 rfl rfl
theorem am_oi_12 : ∀ q ∈ am_oi 12, am_oiP 12 q := List.forall_mem_cons.mpr ⟨am_oi_12_0, fun _ h => absurd h List.not_mem_nil⟩
theorem am_oi_13 : ∀ q ∈ am_oi 13, am_oiP 13 q := fun _ h => absurd h List.not_mem_nil
theorem am_oi_14 : ∀ q ∈ am_oi 14, am_oiP 14 q := fun _ h => absurd h List.not_mem_nil
theorem am_oi_15 : ∀ q ∈ am_oi 15, am_oiP 15 q := fun _ h => absurd h List.not_mem_nil
theorem am_oi_all {c : Nat} {q : Nat} (h : q ∈ am_oi c) : am_oiP c q := by
  match c, h with
  | 0, h => exact am_oi_0 _ h
  | 1, h => exact am_oi_1 _ h
  | 2, h => exact am_oi_2 _ h
  | 3, h => exact am_oi_3 _ h
  | 4, h => exact am_oi_4 _ h
  | 5, h => exact am_oi_5 _ h
  | 6, h => exact am_oi_6 _ h
  | 7, h => exact am_oi_7 _ h
  | 8, h => exact am_oi_8 _ h
  | 9, h => exact am_oi_9 _ h
  | 10, h => exact am_oi_10 _ h
  | 11, h => exact am_oi_11 _ h
  | 12, h => exact am_oi_12 _ h
  | 13, h => exact am_oi_13 _ h
  | 14, h => exact am_oi_14 _ h
  | 15, h => exact am_oi_15 _ h
  | c + 16, h => exact absurd h (by simp [am_oi])
theorem am_in_0 : Cond.instantiable RX0 8 ∈ am_good ∧ Cond.initialized RX0 ∈ am_good := ⟨am_wi 2 15 rfl rfl, am_wi 1 9 rfl rfl⟩
theorem am_in_1 : Cond.instantiable RX1 2 ∈ am_good ∧ Cond.initialized RX1 ∈ am_good := ⟨am_wi 2 105 rfl rfl, am_wi 1 12 rfl rfl⟩
theorem am_in_2 : Cond.instantiable RX2 17 ∈ am_good ∧ Cond.initialized RX2 ∈ am_good := ⟨am_wi 1 104 rfl rfl, am_wi 1 6 rfl rfl⟩
theorem am_in_3 : Cond.instantiable RX3 11 ∈ am_good ∧ Cond.initialized RX3 ∈ am_good := ⟨am_wi 2 164 rfl rfl, am_wi 1 13 rfl rfl⟩
theorem am_in_4 : Cond.instantiable RX4 3 ∈ am_good ∧ Cond.initialized RX4 ∈ am_good := ⟨am_wi 1 237 rfl rfl, am_wi 1 8 rfl rfl⟩
theorem am_in_5 : Cond.instantiable RX5 17 ∈ am_good ∧ Cond.initialized RX5 ∈ am_good := ⟨am_wi 2 208 rfl rfl, am_wi 1 14 rfl rfl⟩
theorem am_in_6 : Cond.instantiable RX6 12 ∈ am_good ∧ Cond.initialized RX6 ∈ am_good := ⟨am_wi 2 51 rfl rfl, am_wi 1 10 rfl rfl⟩
theorem am_in_7 : Cond.instantiable RX7 12 ∈ am_good ∧ Cond.initialized RX7 ∈ am_good := ⟨am_wi 1 191 rfl rfl, am_wi 1 7 rfl rfl⟩
theorem am_in_8 : Cond.instantiable RX8 5 ∈ am_good ∧ Cond.initialized RX8 ∈ am_good := ⟨am_wi 1 71 rfl rfl, am_wi 1 5 rfl rfl⟩
theorem am_in_9 : Cond.instantiable RX9 5 ∈ am_good ∧ Cond.initialized RX9 ∈ am_good := ⟨am_wi 1 36 rfl rfl, am_wi 1 3 rfl rfl⟩
theorem am_in_10 : Cond.instantiable RX10 14 ∈ am_good ∧ Cond.initialized RX10 ∈ am_good := ⟨am_wi 2 98 rfl rfl, am_wi 1 11 rfl rfl⟩
theorem am_in_11 : Cond.instantiable RX11 15 ∈ am_good ∧ Cond.initialized RX11 ∈ am_good := ⟨am_wi 1 22 rfl rfl, am_wi 1 1 rfl rfl⟩
theorem am_in_12 : Cond.instantiable RX12 38 ∈ am_good ∧ Cond.initialized RX12 ∈ am_good := ⟨am_wi 6 32 rfl rfl, am_wi 1 15 rfl rfl⟩
theorem am_in_all {ci : Nat} {q : vw_C} (h : vwCl[ci]? = some q) : Cond.instantiable q.1 q.2.2 ∈ am_good ∧ Cond.initialized q.1 ∈ am_good := by
  match ci, h with
  | 0, h => cases h; exact am_in_0
  | 1, h => cases h; exact am_in_1
  | 2, h => cases h; exact am_in_2
  | 3, h => cases h; exact am_in_3
  | 4, h => cases h; exact am_in_4
  | 5, h => cases h; exact am_in_5
  | 6, h => cases h; exact am_in_6
  | 7, h => cases h; exact am_in_7
  | 8, h => cases h; exact am_in_8
  | 9, h => cases h; exact am_in_9
  | 10, h => cases h; exact am_in_10
  | 11, h => cases h; exact am_in_11
  | 12, h => cases h; exact am_in_12
  | k + 13, h => simp [vwCl] at h
theorem am_arrI : Cond.arrayClass .int ∈ am_good := am_wi 1 69 rfl rfl
theorem am_arrJ : Cond.arrayClass .long ∈ am_good := am_wi 3 34 rfl rfl
theorem am_arrZ : Cond.arrayClass .boolean ∈ am_good := am_wi 6 154 rfl rfl
theorem am_acw : Cond.native arraycopyName ∈ am_good ∧ Cond.static arraycopyName ∈ am_good ∧ Cond.initialized "java/lang/System" ∈ am_good := ⟨am_wi 4 231 rfl rfl, am_wi 4 230 rfl rfl, am_wi 1 20 rfl rfl⟩
theorem am_oiw : Cond.instanceMethod Lib.objectInit ∈ am_good ∧ Cond.code Lib.objectInit ⟨#[0xb1]⟩ 1 none ∈ am_good := ⟨am_wi 1 27 rfl rfl, am_wi 1 28 rfl rfl⟩
