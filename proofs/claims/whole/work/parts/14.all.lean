/-! all methods hold -/
def am_all3 : List am_M → List (List (Nat × am_E)) → Prop
  | [], [] => True
  | M :: t, k :: u => am_okM am_mi M (am_fd k) ∧ am_all3 t u
  | _, _ => False
theorem am_all3_get : ∀ {l : List am_M} {u : List (List (Nat × am_E))} {k : Nat} {M : am_M}, am_all3 l u → l[k]? = some M → am_okM am_mi M (am_fd (u.getD k []))
  | [], _, _, _, _, h => by simp at h
  | M :: t, [], _, _, h0, _ => h0.elim
  | M :: t, q :: u, 0, M', h0, h => by cases h; exact h0.1
  | M :: t, q :: u, k + 1, M', h0, h => am_all3_get (l := t) (u := u) (k := k) h0.2 (by simpa using h)
theorem am_all3_app : ∀ {a : List am_M} {b : List (List (Nat × am_E))} {c : List am_M} {d : List (List (Nat × am_E))}, am_all3 a b → am_all3 c d → am_all3 (a ++ c) (b ++ d)
  | [], [], _, _, _, h => h
  | M :: t, k :: u, _, _, h1, h2 => ⟨h1.1, am_all3_app h1.2 h2⟩
  | [], _ :: _, _, _, h, _ => h.elim
  | _ :: _, [], _, _, h, _ => h.elim
theorem am_a3_0 : am_all3 am_msc_0 [T0, T1, T2, T3, T4, T5, T6, T7, T8, T9, T10, T11, T12, T13, T14, T15, T16, T17, T18, T19] := ⟨ok_0, ok_1, ok_2, ok_3, ok_4, ok_5, ok_6, ok_7, ok_8, ok_9, ok_10, ok_11, ok_12, ok_13, ok_14, ok_15, ok_16, ok_17, ok_18, ok_19, trivial⟩
theorem am_a3_1 : am_all3 am_msc_1 [T20, T21, T22, T23, T24, T25, T26, T27, T28, T29, T30, T31, T32, T33, T34, T35, T36, T37, T38, T39] := ⟨ok_20, ok_21, ok_22, ok_23, ok_24, ok_25, ok_26, ok_27, ok_28, ok_29, ok_30, ok_31, ok_32, ok_33, ok_34, ok_35, ok_36, ok_37, ok_38, ok_39, trivial⟩
theorem am_a3_2 : am_all3 am_msc_2 [T40, T41, T42, T43, T44, T45, T46, T47, T48, T49, T50, T51, T52, T53, T54, T55, T56, T57, T58, T59] := ⟨ok_40, ok_41, ok_42, ok_43, ok_44, ok_45, ok_46, ok_47, ok_48, ok_49, ok_50, ok_51, ok_52, ok_53, ok_54, ok_55, ok_56, ok_57, ok_58, ok_59, trivial⟩
theorem am_a3_3 : am_all3 am_msc_3 [T60, T61, T62, T63, T64, T65, T66, T67, T68, T69, T70, T71, T72, T73, T74, T75, T76, T77, T78, T79] := ⟨ok_60, ok_61, ok_62, ok_63, ok_64, ok_65, ok_66, ok_67, ok_68, ok_69, ok_70, ok_71, ok_72, ok_73, ok_74, ok_75, ok_76, ok_77, ok_78, ok_79, trivial⟩
theorem am_a3_4 : am_all3 am_msc_4 [T80, T81, T82, T83, T84, T85, T86, T87, T88, T89, T90, T91, T92, T93, T94, T95, T96, T97, T98, T99] := ⟨ok_80, ok_81, ok_82, ok_83, ok_84, ok_85, ok_86, ok_87, ok_88, ok_89, ok_90, ok_91, ok_92, ok_93, ok_94, ok_95, ok_96, ok_97, ok_98, ok_99, trivial⟩
theorem am_a3_5 : am_all3 am_msc_5 [T100, T101, T102, T103, T104, T105, T106, T107, T108, T109, T110, T111, T112, T113, T114, T115, T116, T117, T118, T119] := ⟨ok_100, ok_101, ok_102, ok_103, ok_104, ok_105, ok_106, ok_107, ok_108, ok_109, ok_110, ok_111, ok_112, ok_113, ok_114, ok_115, ok_116, ok_117, ok_118, ok_119, trivial⟩
theorem am_a3_6 : am_all3 am_msc_6 [T120, T121, T122, T123, T124, T125, T126, T127, T128, T129, T130, T131, T132, T133, T134, T135, T136, T137, T138, T139] := ⟨ok_120, ok_121, ok_122, ok_123, ok_124, ok_125, ok_126, ok_127, ok_128, ok_129, ok_130, ok_131, ok_132, ok_133, ok_134, ok_135, ok_136, ok_137, ok_138, ok_139, trivial⟩
theorem am_a3_7 : am_all3 am_msc_7 [T140, T141, T142, T143, T144, T145, T146, T147, T148, T149, T150, T151, T152, T153, T154, T155, T156, T157, T158, T159] := ⟨ok_140, ok_141, ok_142, ok_143, ok_144, ok_145, ok_146, ok_147, ok_148, ok_149, ok_150, ok_151, ok_152, ok_153, ok_154, ok_155, ok_156, ok_157, ok_158, ok_159, trivial⟩
theorem am_a3_8 : am_all3 am_msc_8 [T160, T161, T162, T163, T164, T165, T166, T167, T168, T169, T170, T171, T172, T173, T174, T175, T176, T177, T178, T179] := ⟨ok_160, ok_161, ok_162, ok_163, ok_164, ok_165, ok_166, ok_167, ok_168, ok_169, ok_170, ok_171, ok_172, ok_173, ok_174, ok_175, ok_176, ok_177, ok_178, ok_179, trivial⟩
theorem am_a3_9 : am_all3 am_msc_9 [T180, T181, T182, T183, T184, T185, T186, T187, T188, T189, T190, T191, T192, T193, T194, T195, T196, T197, T198, T199] := ⟨ok_180, ok_181, ok_182, ok_183, ok_184, ok_185, ok_186, ok_187, ok_188, ok_189, ok_190, ok_191, ok_192, ok_193, ok_194, ok_195, ok_196, ok_197, ok_198, ok_199, trivial⟩
theorem am_a3_10 : am_all3 am_msc_10 [T200, T201, T202, T203, T204, T205, T206, T207, T208, T209, T210, T211, T212, T213, T214, T215, T216, T217, T218, T219] := ⟨ok_200, ok_201, ok_202, ok_203, ok_204, ok_205, ok_206, ok_207, ok_208, ok_209, ok_210, ok_211, ok_212, ok_213, ok_214, ok_215, ok_216, ok_217, ok_218, ok_219, trivial⟩
theorem am_a3_11 : am_all3 am_msc_11 [T220, T221, T222, T223, T224, T225, T226, T227, T228, T229, T230, T231, T232, T233, T234, T235, T236, T237, T238, T239] := ⟨ok_220, ok_221, ok_222, ok_223, ok_224, ok_225, ok_226, ok_227, ok_228, ok_229, ok_230, ok_231, ok_232, ok_233, ok_234, ok_235, ok_236, ok_237, ok_238, ok_239, trivial⟩
theorem am_a3_12 : am_all3 am_msc_12 [T240, T241, T242, T243, T244, T245, T246, T247, T248, T249, T250, T251, T252, T253, T254, T255, T256, T257, T258, T259] := ⟨ok_240, ok_241, ok_242, ok_243, ok_244, ok_245, ok_246, ok_247, ok_248, ok_249, ok_250, ok_251, ok_252, ok_253, ok_254, ok_255, ok_256, ok_257, ok_258, ok_259, trivial⟩
set_option maxRecDepth 10000 in
theorem am_a3 : am_all3 am_ms am_tbs := by
  have h : am_all3 (am_msc_0 ++ (am_msc_1 ++ (am_msc_2 ++ (am_msc_3 ++ (am_msc_4 ++ (am_msc_5 ++ (am_msc_6 ++ (am_msc_7 ++ (am_msc_8 ++ (am_msc_9 ++ (am_msc_10 ++ (am_msc_11 ++ (am_msc_12))))))))))))) ([T0, T1, T2, T3, T4, T5, T6, T7, T8, T9, T10, T11, T12, T13, T14, T15, T16, T17, T18, T19] ++ ([T20, T21, T22, T23, T24, T25, T26, T27, T28, T29, T30, T31, T32, T33, T34, T35, T36, T37, T38, T39] ++ ([T40, T41, T42, T43, T44, T45, T46, T47, T48, T49, T50, T51, T52, T53, T54, T55, T56, T57, T58, T59] ++ ([T60, T61, T62, T63, T64, T65, T66, T67, T68, T69, T70, T71, T72, T73, T74, T75, T76, T77, T78, T79] ++ ([T80, T81, T82, T83, T84, T85, T86, T87, T88, T89, T90, T91, T92, T93, T94, T95, T96, T97, T98, T99] ++ ([T100, T101, T102, T103, T104, T105, T106, T107, T108, T109, T110, T111, T112, T113, T114, T115, T116, T117, T118, T119] ++ ([T120, T121, T122, T123, T124, T125, T126, T127, T128, T129, T130, T131, T132, T133, T134, T135, T136, T137, T138, T139] ++ ([T140, T141, T142, T143, T144, T145, T146, T147, T148, T149, T150, T151, T152, T153, T154, T155, T156, T157, T158, T159] ++ ([T160, T161, T162, T163, T164, T165, T166, T167, T168, T169, T170, T171, T172, T173, T174, T175, T176, T177, T178, T179] ++ ([T180, T181, T182, T183, T184, T185, T186, T187, T188, T189, T190, T191, T192, T193, T194, T195, T196, T197, T198, T199] ++ ([T200, T201, T202, T203, T204, T205, T206, T207, T208, T209, T210, T211, T212, T213, T214, T215, T216, T217, T218, T219] ++ ([T220, T221, T222, T223, T224, T225, T226, T227, T228, T229, T230, T231, T232, T233, T234, T235, T236, T237, T238, T239] ++ ([T240, T241, T242, T243, T244, T245, T246, T247, T248, T249, T250, T251, T252, T253, T254, T255, T256, T257, T258, T259]))))))))))))) := am_all3_app am_a3_0 (am_all3_app am_a3_1 (am_all3_app am_a3_2 (am_all3_app am_a3_3 (am_all3_app am_a3_4 (am_all3_app am_a3_5 (am_all3_app am_a3_6 (am_all3_app am_a3_7 (am_all3_app am_a3_8 (am_all3_app am_a3_9 (am_all3_app am_a3_10 (am_all3_app am_a3_11 (am_a3_12))))))))))))
  have e1 : am_ms = am_msc_0 ++ (am_msc_1 ++ (am_msc_2 ++ (am_msc_3 ++ (am_msc_4 ++ (am_msc_5 ++ (am_msc_6 ++ (am_msc_7 ++ (am_msc_8 ++ (am_msc_9 ++ (am_msc_10 ++ (am_msc_11 ++ (am_msc_12)))))))))))) := rfl
  have e2 : am_tbs = [T0, T1, T2, T3, T4, T5, T6, T7, T8, T9, T10, T11, T12, T13, T14, T15, T16, T17, T18, T19] ++ ([T20, T21, T22, T23, T24, T25, T26, T27, T28, T29, T30, T31, T32, T33, T34, T35, T36, T37, T38, T39] ++ ([T40, T41, T42, T43, T44, T45, T46, T47, T48, T49, T50, T51, T52, T53, T54, T55, T56, T57, T58, T59] ++ ([T60, T61, T62, T63, T64, T65, T66, T67, T68, T69, T70, T71, T72, T73, T74, T75, T76, T77, T78, T79] ++ ([T80, T81, T82, T83, T84, T85, T86, T87, T88, T89, T90, T91, T92, T93, T94, T95, T96, T97, T98, T99] ++ ([T100, T101, T102, T103, T104, T105, T106, T107, T108, T109, T110, T111, T112, T113, T114, T115, T116, T117, T118, T119] ++ ([T120, T121, T122, T123, T124, T125, T126, T127, T128, T129, T130, T131, T132, T133, T134, T135, T136, T137, T138, T139] ++ ([T140, T141, T142, T143, T144, T145, T146, T147, T148, T149, T150, T151, T152, T153, T154, T155, T156, T157, T158, T159] ++ ([T160, T161, T162, T163, T164, T165, T166, T167, T168, T169, T170, T171, T172, T173, T174, T175, T176, T177, T178, T179] ++ ([T180, T181, T182, T183, T184, T185, T186, T187, T188, T189, T190, T191, T192, T193, T194, T195, T196, T197, T198, T199] ++ ([T200, T201, T202, T203, T204, T205, T206, T207, T208, T209, T210, T211, T212, T213, T214, T215, T216, T217, T218, T219] ++ ([T220, T221, T222, T223, T224, T225, T226, T227, T228, T229, T230, T231, T232, T233, T234, T235, T236, T237, T238, T239] ++ ([T240, T241, T242, T243, T244, T245, T246, T247, T248, T249, T250, T251, T252, T253, T254, T255, T256, T257, T258, T259])))))))))))) := rfl
  rw [e1, e2]
  exact h
theorem am_hall (mid : Nat) (M : am_M) (hm : mid < 1002) (h : am_mi mid = some M) : am_okM am_mi M (am_tb mid) := by
  unfold am_mi at h
  rw [if_neg (by omega), if_neg (by omega)] at h
  exact am_all3_get am_a3 h
set_option maxRecDepth 100000 in
theorem ckL_0 : am_ckT code 13 0 (some .boolean) ((TL.drop 0).take 150) := by decide +kernel
set_option maxRecDepth 100000 in
theorem ckL_1 : am_ckT code 13 0 (some .boolean) ((TL.drop 150).take 150) := by decide +kernel
set_option maxRecDepth 100000 in
theorem ckL_2 : am_ckT code 13 0 (some .boolean) ((TL.drop 300).take 150) := by decide +kernel
set_option maxRecDepth 100000 in
theorem ckL_3 : am_ckT code 13 0 (some .boolean) ((TL.drop 450).take 150) := by decide +kernel
set_option maxRecDepth 100000 in
theorem ckL_4 : am_ckT code 13 0 (some .boolean) ((TL.drop 600).take 150) := by decide +kernel
set_option maxRecDepth 100000 in
theorem ckL_5 : am_ckT code 13 0 (some .boolean) ((TL.drop 750).take 150) := by decide +kernel
set_option maxRecDepth 100000 in
theorem ckL_6 : am_ckT code 13 0 (some .boolean) ((TL.drop 900).take 150) := by decide +kernel
set_option maxRecDepth 100000 in
theorem ckL_7 : am_ckT code 13 0 (some .boolean) ((TL.drop 1050).take 150) := by decide +kernel
set_option maxRecDepth 100000 in
theorem ckL_8 : am_ckT code 13 0 (some .boolean) ((TL.drop 1200).take 150) := by decide +kernel
theorem am_ck_split {cc : ByteArray} {c kd : Nat} {rt : Option FieldType} {T : List (Nat × am_E)} (k : Nat) (h1 : am_ckT cc c kd rt (T.take k)) (h2 : am_ckT cc c kd rt (T.drop k)) : am_ckT cc c kd rt T := fun q hq => by
  rw [← List.take_append_drop k T] at hq
  rcases List.mem_append.mp hq with h | h
  · exact h1 q h
  · exact h2 q h
theorem ckLd_8 : am_ckT code 13 0 (some .boolean) (TL.drop 1200) := by
  have e : TL.drop 1200 = (TL.drop 1200).take 150 := (List.take_of_length_le (by decide +kernel)).symm
  rw [e]
  exact ckL_8
theorem ckLd_7 : am_ckT code 13 0 (some .boolean) (TL.drop 1050) := am_ck_split 150 ckL_7 (by rw [List.drop_drop]; exact ckLd_8)
theorem ckLd_6 : am_ckT code 13 0 (some .boolean) (TL.drop 900) := am_ck_split 150 ckL_6 (by rw [List.drop_drop]; exact ckLd_7)
theorem ckLd_5 : am_ckT code 13 0 (some .boolean) (TL.drop 750) := am_ck_split 150 ckL_5 (by rw [List.drop_drop]; exact ckLd_6)
theorem ckLd_4 : am_ckT code 13 0 (some .boolean) (TL.drop 600) := am_ck_split 150 ckL_4 (by rw [List.drop_drop]; exact ckLd_5)
theorem ckLd_3 : am_ckT code 13 0 (some .boolean) (TL.drop 450) := am_ck_split 150 ckL_3 (by rw [List.drop_drop]; exact ckLd_4)
theorem ckLd_2 : am_ckT code 13 0 (some .boolean) (TL.drop 300) := am_ck_split 150 ckL_2 (by rw [List.drop_drop]; exact ckLd_3)
theorem ckLd_1 : am_ckT code 13 0 (some .boolean) (TL.drop 150) := am_ck_split 150 ckL_1 (by rw [List.drop_drop]; exact ckLd_2)
theorem ckLd_0 : am_ckT code 13 0 (some .boolean) (TL.drop 0) := am_ck_split 150 ckL_0 (by rw [List.drop_drop]; exact ckLd_1)
theorem okL (pc : Nat) (e : am_E) (he : am_fd TL pc = some e) : decode code pc = .ok (e.1, e.2.1) ∧ am_okE am_mi "LeaningWheelLaw" "law" (some .boolean) pc e := by
  obtain ⟨h1, h2⟩ := (show am_ckT code 13 0 (some .boolean) TL from ckLd_0) _ (am_fd_mem he)
  exact ⟨h1, am_ck_ok h2 (fun h => by cases h) rfl⟩
