def pi_yn : List MethodName := [mn_0, mn_1, mn_2, mn_3, mn_4, mn_5, mn_6, mn_7, mn_8, mn_9, mn_10, mn_11, mn_12, mn_13, mn_14, mn_15, mn_16, mn_17, mn_18, mn_19, mn_20, mn_21, mn_22, mn_23, mn_24, mn_25, mn_26, mn_27, mn_28, mn_29, mn_30, mn_31, mn_32, mn_33, mn_34, mn_35, mn_36, mn_37, mn_38, mn_39, mn_40, mn_41, mn_42, mn_43, mn_44, mn_45, mn_46, mn_47, mn_48, mn_49, mn_50, mn_51, mn_52, mn_53, mn_54, mn_55, mn_56, mn_57, mn_58, mn_59, mn_60, mn_61, mn_62, mn_63, mn_64, mn_65, mn_66, mn_67, mn_68, mn_69, mn_70, mn_71, mn_72, mn_73, mn_74, mn_75, mn_76, mn_77, mn_78, mn_79, mn_80, mn_81, mn_82, mn_83, mn_84, mn_85, mn_86, mn_87, mn_88, mn_89, mn_90, mn_91, mn_92, mn_93, mn_94, mn_95, mn_96, mn_97, mn_98, mn_99, mn_100, mn_101, mn_102, mn_103, mn_104, mn_105, mn_106, mn_107, mn_108, mn_109, mn_110, mn_111, mn_112, mn_113, mn_114, mn_115, mn_116, mn_117, mn_118, mn_119, mn_120, mn_121, mn_122, mn_123, mn_124, mn_125, mn_126, mn_127, mn_128, mn_129, mn_130, mn_131, mn_132, mn_133, mn_134, mn_135, mn_136, mn_137, mn_138, mn_139, mn_140, mn_141, mn_142, mn_143, mn_144, mn_145, mn_146, mn_147, mn_148, mn_149, mn_150, mn_151, mn_152, mn_153, mn_154, mn_155, mn_156, mn_157, mn_158, mn_159, mn_160, mn_161, mn_162, mn_163, mn_164, mn_165, mn_166, mn_167, mn_168, mn_169, mn_170, mn_171, mn_172, mn_173, mn_174, mn_175, mn_176, mn_177, mn_178, mn_179, mn_180, mn_181, mn_182, mn_183, mn_184, mn_185, mn_186, mn_187, mn_188, mn_189, mn_190, mn_191, mn_192, mn_193, mn_194, mn_195, mn_196, mn_197, mn_198, mn_199, mn_200, mn_201, mn_202, mn_203, mn_204, mn_205, mn_206, mn_207, mn_208, mn_209, mn_210, mn_211, mn_212, mn_213, mn_214, mn_215, mn_216, mn_217, mn_218, mn_219, mn_220, mn_221, mn_222, mn_223, mn_224, mn_225, mn_226, mn_227, mn_228, mn_229, mn_230, mn_231, mn_232, mn_233, mn_234, mn_235, mn_236, mn_237, mn_238, mn_239, mn_240, mn_241, mn_242, mn_243, mn_244, mn_245, mn_246, mn_247, mn_248, mn_249, mn_250, mn_251, mn_252, mn_253, mn_254, mn_255, mn_256, mn_257, mn_258, mn_259, mn_260, mn_261, mn_262, mn_263, mn_264, mn_265, mn_266, mn_267, mn_268, mn_269, mn_270, mn_271, mn_272, mn_273, mn_274, mn_275, mn_276, mn_277, mn_278, mn_279, mn_280, mn_281, mn_282, mn_283, mn_284, mn_285]
set_option maxRecDepth 100000 in
theorem pi_yn_eq : pi_mt.map (fun e => e.1) = pi_yn := rfl
def pi_good : List Cond := lw_tbl.filter goodWord
theorem pi_good_of {w : Cond} (h : w ∈ lw_tbl) (hg : goodWord w = true) : w ∈ pi_good := List.mem_filter.mpr ⟨h, hg⟩
theorem pi_good_all : GoodIn pi_good pi_good := fun w h => ⟨h, good_of_word (List.mem_filter.mp h).2⟩
def pi_okI (C : String) (cp kind z na : Nat) : Prop := match kind with
  | 0 => ∃ y, pi_yn[z]? = some y ∧ pi_mk[z]? = some (na, true) ∧ Cond.methodLink C cp y ∈ lw_tbl
  | 1 => ∃ y, pi_yn[z]? = some y ∧ pi_mk[z]? = some (na, true) ∧ Cond.methodLinkNest C cp y "ReadBound" ∈ pi_nest
  | 2 => ∃ y, pi_yn[z]? = some y ∧ pi_mk[z]? = some (na, false) ∧ Cond.methodLink C cp y ∈ lw_tbl
  | 3 => ∃ y, pi_yn[z]? = some y ∧ pi_mk[z]? = some (na, false) ∧ Cond.methodLink C cp y ∈ lw_tbl
  | 4 => Cond.methodLink C cp objectInit ∈ lw_tbl
  | 5 => Cond.methodLink C cp arraycopyName ∈ lw_tbl
  | 6 => Cond.methodLink C cp ⟨"java/lang/String", "length", "()I"⟩ ∈ lw_tbl
  | 7 => Cond.methodLink C cp ⟨"java/lang/String", "charAt", "(I)C"⟩ ∈ lw_tbl
  | 8 => Cond.methodLink C cp Lib.Math.min.name ∈ lw_tbl
  | 9 => Cond.methodLink C cp Lib.Math.max.name ∈ lw_tbl
  | _ => False
def pi_okF (C : String) (cp ci k : Nat) : Prop := ∃ (Cn : String) (T : u_T) (N : Nat), vwCl[ci]? = some (Cn, T, N) ∧ k < N ∧ Cond.fieldLink C cp (T k).1 (T k).2.1 (T k).2.2.1 ∈ lw_tbl
def pi_okN (C : String) (cp ci : Nat) : Prop := ∃ (Cn : String) (T : u_T) (N : Nat), vwCl[ci]? = some (Cn, T, N) ∧ Cond.classLink C cp Cn ∈ lw_tbl
def pi_okL (C : String) (cp : Nat) (v : Int32) : Prop := Cond.constant C cp v ∈ lw_tbl
def pi_okQ (C : String) (cp : Nat) (v : Int64) : Prop := Cond.constantLong C cp v ∈ lw_tbl
def pi_okC (ci : Nat) (C : String) (T : u_T) (N : Nat) : Prop := pi_cn[ci]? = some C ∧ (∀ w ∈ u_ws C T N, w ∈ lw_tbl) ∧ (∀ k, k < N → parseFieldDescriptor (T k).2.2.1 = some (pi_ty ci k)) ∧ (∀ a, a < N → ∀ b, b < N → a ≠ b → (T a).2.1 ≠ (T b).2.1) ∧ Cond.instantiable C N ∈ lw_tbl ∧ Cond.initialized C ∈ lw_tbl ∧ ∀ k, k < N → (T k).1 = C
set_option maxRecDepth 100000 in
theorem li_0_3 : pi_okI RX0 3 4 0 0 := List.mem_of_getElem? (i := 330) (by decide +kernel)
set_option maxRecDepth 100000 in
theorem li_0_33 : pi_okI RX0 33 2 97 1 := ⟨mn_97, by decide +kernel, by decide +kernel, List.mem_of_getElem? (i := 1004) (by decide +kernel)⟩
set_option maxRecDepth 100000 in
theorem li_0_42 : pi_okI RX0 42 2 2 0 := ⟨mn_2, by decide +kernel, by decide +kernel, List.mem_of_getElem? (i := 1005) (by decide +kernel)⟩
set_option maxRecDepth 100000 in
theorem li_0_46 : pi_okI RX0 46 2 105 1 := ⟨mn_105, by decide +kernel, by decide +kernel, List.mem_of_getElem? (i := 1028) (by decide +kernel)⟩
set_option maxRecDepth 100000 in
theorem li_0_50 : pi_okI RX0 50 2 107 0 := ⟨mn_107, by decide +kernel, by decide +kernel, List.mem_of_getElem? (i := 1009) (by decide +kernel)⟩
set_option maxRecDepth 100000 in
theorem li_0_53 : pi_okI RX0 53 2 3 0 := ⟨mn_3, by decide +kernel, by decide +kernel, List.mem_of_getElem? (i := 1010) (by decide +kernel)⟩
set_option maxRecDepth 100000 in
theorem li_0_59 : pi_okI RX0 59 2 103 1 := ⟨mn_103, by decide +kernel, by decide +kernel, List.mem_of_getElem? (i := 1019) (by decide +kernel)⟩
set_option maxRecDepth 100000 in
theorem li_0_63 : pi_okI RX0 63 2 4 0 := ⟨mn_4, by decide +kernel, by decide +kernel, List.mem_of_getElem? (i := 1015) (by decide +kernel)⟩
set_option maxRecDepth 100000 in
theorem li_0_66 : pi_okI RX0 66 2 106 2 := ⟨mn_106, by decide +kernel, by decide +kernel, List.mem_of_getElem? (i := 1027) (by decide +kernel)⟩
set_option maxRecDepth 100000 in
theorem li_0_70 : pi_okI RX0 70 2 5 3 := ⟨mn_5, by decide +kernel, by decide +kernel, List.mem_of_getElem? (i := 1022) (by decide +kernel)⟩
set_option maxRecDepth 100000 in
theorem li_0_76 : pi_okI RX0 76 2 109 2 := ⟨mn_109, by decide +kernel, by decide +kernel, List.mem_of_getElem? (i := 1021) (by decide +kernel)⟩
set_option maxRecDepth 100000 in
theorem li_0_80 : pi_okI RX0 80 2 108 2 := ⟨mn_108, by decide +kernel, by decide +kernel, List.mem_of_getElem? (i := 1014) (by decide +kernel)⟩
set_option maxRecDepth 100000 in
theorem li_0_83 : pi_okI RX0 83 2 98 0 := ⟨mn_98, by decide +kernel, by decide +kernel, List.mem_of_getElem? (i := 1020) (by decide +kernel)⟩
set_option maxRecDepth 100000 in
theorem li_0_86 : pi_okI RX0 86 1 160 3 := ⟨mn_160, by decide +kernel, by decide +kernel, List.mem_of_getElem? (i := 10) (by decide +kernel)⟩
theorem li_a0 : ∀ e ∈ ([(3, 4, 0, 0, 330), (33, 2, 97, 1, 1004), (42, 2, 2, 0, 1005), (46, 2, 105, 1, 1028), (50, 2, 107, 0, 1009), (53, 2, 3, 0, 1010), (59, 2, 103, 1, 1019), (63, 2, 4, 0, 1015), (66, 2, 106, 2, 1027), (70, 2, 5, 3, 1022), (76, 2, 109, 2, 1021), (80, 2, 108, 2, 1014), (83, 2, 98, 0, 1020), (86, 1, 160, 3, 1026)] : List (Nat × Nat × Nat × Nat × Nat)), pi_okI RX0 e.1 e.2.1 e.2.2.1 e.2.2.2.1 := List.forall_mem_cons.mpr ⟨li_0_3, List.forall_mem_cons.mpr ⟨li_0_33, List.forall_mem_cons.mpr ⟨li_0_42, List.forall_mem_cons.mpr ⟨li_0_46, List.forall_mem_cons.mpr ⟨li_0_50, List.forall_mem_cons.mpr ⟨li_0_53, List.forall_mem_cons.mpr ⟨li_0_59, List.forall_mem_cons.mpr ⟨li_0_63, List.forall_mem_cons.mpr ⟨li_0_66, List.forall_mem_cons.mpr ⟨li_0_70, List.forall_mem_cons.mpr ⟨li_0_76, List.forall_mem_cons.mpr ⟨li_0_80, List.forall_mem_cons.mpr ⟨li_0_83, List.forall_mem_cons.mpr ⟨li_0_86, fun _ h => absurd h List.not_mem_nil⟩⟩⟩⟩⟩⟩⟩⟩⟩⟩⟩⟩⟩⟩
set_option maxRecDepth 100000 in
theorem li_1_1 : pi_okI RX1 1 4 0 0 := List.mem_of_getElem? (i := 380) (by decide +kernel)
set_option maxRecDepth 100000 in
theorem li_1_9 : pi_okI RX1 9 3 9 0 := ⟨mn_9, by decide +kernel, by decide +kernel, List.mem_of_getElem? (i := 382) (by decide +kernel)⟩
set_option maxRecDepth 100000 in
theorem li_1_22 : pi_okI RX1 22 3 35 1 := ⟨mn_35, by decide +kernel, by decide +kernel, List.mem_of_getElem? (i := 384) (by decide +kernel)⟩
set_option maxRecDepth 100000 in
theorem li_1_31 : pi_okI RX1 31 3 79 0 := ⟨mn_79, by decide +kernel, by decide +kernel, List.mem_of_getElem? (i := 386) (by decide +kernel)⟩
set_option maxRecDepth 100000 in
theorem li_1_36 : pi_okI RX1 36 2 11 1 := ⟨mn_11, by decide +kernel, by decide +kernel, List.mem_of_getElem? (i := 1119) (by decide +kernel)⟩
set_option maxRecDepth 100000 in
theorem li_1_40 : pi_okI RX1 40 2 36 1 := ⟨mn_36, by decide +kernel, by decide +kernel, List.mem_of_getElem? (i := 1120) (by decide +kernel)⟩
set_option maxRecDepth 100000 in
theorem li_1_43 : pi_okI RX1 43 2 81 1 := ⟨mn_81, by decide +kernel, by decide +kernel, List.mem_of_getElem? (i := 1121) (by decide +kernel)⟩
theorem li_a1 : ∀ e ∈ ([(1, 4, 0, 0, 380), (9, 3, 9, 0, 382), (22, 3, 35, 1, 384), (31, 3, 79, 0, 386), (36, 2, 11, 1, 1119), (40, 2, 36, 1, 1120), (43, 2, 81, 1, 1121)] : List (Nat × Nat × Nat × Nat × Nat)), pi_okI RX1 e.1 e.2.1 e.2.2.1 e.2.2.2.1 := List.forall_mem_cons.mpr ⟨li_1_1, List.forall_mem_cons.mpr ⟨li_1_9, List.forall_mem_cons.mpr ⟨li_1_22, List.forall_mem_cons.mpr ⟨li_1_31, List.forall_mem_cons.mpr ⟨li_1_36, List.forall_mem_cons.mpr ⟨li_1_40, List.forall_mem_cons.mpr ⟨li_1_43, fun _ h => absurd h List.not_mem_nil⟩⟩⟩⟩⟩⟩⟩
set_option maxRecDepth 100000 in
theorem li_2_5 : pi_okI RX2 5 4 0 0 := List.mem_of_getElem? (i := 223) (by decide +kernel)
set_option maxRecDepth 100000 in
theorem li_2_19 : pi_okI RX2 19 1 161 2 := ⟨mn_161, by decide +kernel, by decide +kernel, List.mem_of_getElem? (i := 4) (by decide +kernel)⟩
set_option maxRecDepth 100000 in
theorem li_2_23 : pi_okI RX2 23 8 0 2 := List.mem_of_getElem? (i := 636) (by decide +kernel)
set_option maxRecDepth 100000 in
theorem li_2_29 : pi_okI RX2 29 5 0 5 := List.mem_of_getElem? (i := 637) (by decide +kernel)
set_option maxRecDepth 100000 in
theorem li_2_35 : pi_okI RX2 35 1 159 2 := ⟨mn_159, by decide +kernel, by decide +kernel, List.mem_of_getElem? (i := 1) (by decide +kernel)⟩
set_option maxRecDepth 100000 in
theorem li_2_39 : pi_okI RX2 39 1 160 3 := ⟨mn_160, by decide +kernel, by decide +kernel, List.mem_of_getElem? (i := 2) (by decide +kernel)⟩
theorem li_a2 : ∀ e ∈ ([(5, 4, 0, 0, 223), (19, 1, 161, 2, 629), (23, 8, 0, 2, 636), (29, 5, 0, 5, 637), (35, 1, 159, 2, 540), (39, 1, 160, 3, 545)] : List (Nat × Nat × Nat × Nat × Nat)), pi_okI RX2 e.1 e.2.1 e.2.2.1 e.2.2.2.1 := List.forall_mem_cons.mpr ⟨li_2_5, List.forall_mem_cons.mpr ⟨li_2_19, List.forall_mem_cons.mpr ⟨li_2_23, List.forall_mem_cons.mpr ⟨li_2_29, List.forall_mem_cons.mpr ⟨li_2_35, List.forall_mem_cons.mpr ⟨li_2_39, fun _ h => absurd h List.not_mem_nil⟩⟩⟩⟩⟩⟩
set_option maxRecDepth 100000 in
theorem li_3_3 : pi_okI RX3 3 4 0 0 := List.mem_of_getElem? (i := 240) (by decide +kernel)
set_option maxRecDepth 100000 in
theorem li_3_19 : pi_okI RX3 19 2 10 0 := ⟨mn_10, by decide +kernel, by decide +kernel, List.mem_of_getElem? (i := 479) (by decide +kernel)⟩
set_option maxRecDepth 100000 in
theorem li_3_24 : pi_okI RX3 24 2 97 1 := ⟨mn_97, by decide +kernel, by decide +kernel, List.mem_of_getElem? (i := 483) (by decide +kernel)⟩
set_option maxRecDepth 100000 in
theorem li_3_34 : pi_okI RX3 34 2 22 0 := ⟨mn_22, by decide +kernel, by decide +kernel, List.mem_of_getElem? (i := 512) (by decide +kernel)⟩
set_option maxRecDepth 100000 in
theorem li_3_38 : pi_okI RX3 38 2 105 1 := ⟨mn_105, by decide +kernel, by decide +kernel, List.mem_of_getElem? (i := 620) (by decide +kernel)⟩
set_option maxRecDepth 100000 in
theorem li_3_45 : pi_okI RX3 45 2 23 2 := ⟨mn_23, by decide +kernel, by decide +kernel, List.mem_of_getElem? (i := 516) (by decide +kernel)⟩
set_option maxRecDepth 100000 in
theorem li_3_49 : pi_okI RX3 49 2 24 1 := ⟨mn_24, by decide +kernel, by decide +kernel, List.mem_of_getElem? (i := 528) (by decide +kernel)⟩
set_option maxRecDepth 100000 in
theorem li_3_53 : pi_okI RX3 53 2 25 0 := ⟨mn_25, by decide +kernel, by decide +kernel, List.mem_of_getElem? (i := 548) (by decide +kernel)⟩
set_option maxRecDepth 100000 in
theorem li_3_56 : pi_okI RX3 56 2 26 0 := ⟨mn_26, by decide +kernel, by decide +kernel, List.mem_of_getElem? (i := 576) (by decide +kernel)⟩
set_option maxRecDepth 100000 in
theorem li_3_59 : pi_okI RX3 59 2 27 0 := ⟨mn_27, by decide +kernel, by decide +kernel, List.mem_of_getElem? (i := 584) (by decide +kernel)⟩
set_option maxRecDepth 100000 in
theorem li_3_62 : pi_okI RX3 62 2 29 0 := ⟨mn_29, by decide +kernel, by decide +kernel, List.mem_of_getElem? (i := 596) (by decide +kernel)⟩
set_option maxRecDepth 100000 in
theorem li_3_65 : pi_okI RX3 65 2 30 0 := ⟨mn_30, by decide +kernel, by decide +kernel, List.mem_of_getElem? (i := 600) (by decide +kernel)⟩
set_option maxRecDepth 100000 in
theorem li_3_68 : pi_okI RX3 68 2 98 0 := ⟨mn_98, by decide +kernel, by decide +kernel, List.mem_of_getElem? (i := 527) (by decide +kernel)⟩
set_option maxRecDepth 100000 in
theorem li_3_71 : pi_okI RX3 71 2 31 0 := ⟨mn_31, by decide +kernel, by decide +kernel, List.mem_of_getElem? (i := 604) (by decide +kernel)⟩
set_option maxRecDepth 100000 in
theorem li_3_74 : pi_okI RX3 74 2 33 0 := ⟨mn_33, by decide +kernel, by decide +kernel, List.mem_of_getElem? (i := 612) (by decide +kernel)⟩
set_option maxRecDepth 100000 in
theorem li_3_77 : pi_okI RX3 77 2 34 0 := ⟨mn_34, by decide +kernel, by decide +kernel, List.mem_of_getElem? (i := 616) (by decide +kernel)⟩
set_option maxRecDepth 100000 in
theorem li_3_80 : pi_okI RX3 80 2 103 1 := ⟨mn_103, by decide +kernel, by decide +kernel, List.mem_of_getElem? (i := 523) (by decide +kernel)⟩
set_option maxRecDepth 100000 in
theorem li_3_88 : pi_okI RX3 88 1 159 2 := ⟨mn_159, by decide +kernel, by decide +kernel, List.mem_of_getElem? (i := 0) (by decide +kernel)⟩
set_option maxRecDepth 100000 in
theorem li_3_92 : pi_okI RX3 92 2 107 0 := ⟨mn_107, by decide +kernel, by decide +kernel, List.mem_of_getElem? (i := 532) (by decide +kernel)⟩
set_option maxRecDepth 100000 in
theorem li_3_99 : pi_okI RX3 99 2 12 1 := ⟨mn_12, by decide +kernel, by decide +kernel, List.mem_of_getElem? (i := 536) (by decide +kernel)⟩
set_option maxRecDepth 100000 in
theorem li_3_103 : pi_okI RX3 103 2 14 2 := ⟨mn_14, by decide +kernel, by decide +kernel, List.mem_of_getElem? (i := 541) (by decide +kernel)⟩
set_option maxRecDepth 100000 in
theorem li_3_107 : pi_okI RX3 107 2 109 2 := ⟨mn_109, by decide +kernel, by decide +kernel, List.mem_of_getElem? (i := 552) (by decide +kernel)⟩
set_option maxRecDepth 100000 in
theorem li_3_111 : pi_okI RX3 111 2 108 2 := ⟨mn_108, by decide +kernel, by decide +kernel, List.mem_of_getElem? (i := 566) (by decide +kernel)⟩
set_option maxRecDepth 100000 in
theorem li_3_114 : pi_okI RX3 114 2 16 2 := ⟨mn_16, by decide +kernel, by decide +kernel, List.mem_of_getElem? (i := 567) (by decide +kernel)⟩
set_option maxRecDepth 100000 in
theorem li_3_117 : pi_okI RX3 117 2 15 2 := ⟨mn_15, by decide +kernel, by decide +kernel, List.mem_of_getElem? (i := 571) (by decide +kernel)⟩
set_option maxRecDepth 100000 in
theorem li_3_121 : pi_okI RX3 121 1 160 3 := ⟨mn_160, by decide +kernel, by decide +kernel, List.mem_of_getElem? (i := 3) (by decide +kernel)⟩
set_option maxRecDepth 100000 in
theorem li_3_125 : pi_okI RX3 125 2 106 2 := ⟨mn_106, by decide +kernel, by decide +kernel, List.mem_of_getElem? (i := 580) (by decide +kernel)⟩
set_option maxRecDepth 100000 in
theorem li_3_129 : pi_okI RX3 129 2 28 1 := ⟨mn_28, by decide +kernel, by decide +kernel, List.mem_of_getElem? (i := 588) (by decide +kernel)⟩
set_option maxRecDepth 100000 in
theorem li_3_132 : pi_okI RX3 132 2 104 1 := ⟨mn_104, by decide +kernel, by decide +kernel, List.mem_of_getElem? (i := 592) (by decide +kernel)⟩
set_option maxRecDepth 100000 in
theorem li_3_135 : pi_okI RX3 135 2 32 1 := ⟨mn_32, by decide +kernel, by decide +kernel, List.mem_of_getElem? (i := 608) (by decide +kernel)⟩
theorem li_a3 : ∀ e ∈ ([(3, 4, 0, 0, 240), (19, 2, 10, 0, 479), (24, 2, 97, 1, 483), (34, 2, 22, 0, 512), (38, 2, 105, 1, 620), (45, 2, 23, 2, 516), (49, 2, 24, 1, 528), (53, 2, 25, 0, 548), (56, 2, 26, 0, 576), (59, 2, 27, 0, 584), (62, 2, 29, 0, 596), (65, 2, 30, 0, 600), (68, 2, 98, 0, 527), (71, 2, 31, 0, 604), (74, 2, 33, 0, 612), (77, 2, 34, 0, 616), (80, 2, 103, 1, 523), (88, 1, 159, 2, 520), (92, 2, 107, 0, 532), (99, 2, 12, 1, 536), (103, 2, 14, 2, 541), (107, 2, 109, 2, 552), (111, 2, 108, 2, 566), (114, 2, 16, 2, 567), (117, 2, 15, 2, 571), (121, 1, 160, 3, 575), (125, 2, 106, 2, 580), (129, 2, 28, 1, 588), (132, 2, 104, 1, 592), (135, 2, 32, 1, 608)] : List (Nat × Nat × Nat × Nat × Nat)), pi_okI RX3 e.1 e.2.1 e.2.2.1 e.2.2.2.1 := List.forall_mem_cons.mpr ⟨li_3_3, List.forall_mem_cons.mpr ⟨li_3_19, List.forall_mem_cons.mpr ⟨li_3_24, List.forall_mem_cons.mpr ⟨li_3_34, List.forall_mem_cons.mpr ⟨li_3_38, List.forall_mem_cons.mpr ⟨li_3_45, List.forall_mem_cons.mpr ⟨li_3_49, List.forall_mem_cons.mpr ⟨li_3_53, List.forall_mem_cons.mpr ⟨li_3_56, List.forall_mem_cons.mpr ⟨li_3_59, List.forall_mem_cons.mpr ⟨li_3_62, List.forall_mem_cons.mpr ⟨li_3_65, List.forall_mem_cons.mpr ⟨li_3_68, List.forall_mem_cons.mpr ⟨li_3_71, List.forall_mem_cons.mpr ⟨li_3_74, List.forall_mem_cons.mpr ⟨li_3_77, List.forall_mem_cons.mpr ⟨li_3_80, List.forall_mem_cons.mpr ⟨li_3_88, List.forall_mem_cons.mpr ⟨li_3_92, List.forall_mem_cons.mpr ⟨li_3_99, List.forall_mem_cons.mpr ⟨li_3_103, List.forall_mem_cons.mpr ⟨li_3_107, List.forall_mem_cons.mpr ⟨li_3_111, List.forall_mem_cons.mpr ⟨li_3_114, List.forall_mem_cons.mpr ⟨li_3_117, List.forall_mem_cons.mpr ⟨li_3_121, List.forall_mem_cons.mpr ⟨li_3_125, List.forall_mem_cons.mpr ⟨li_3_129, List.forall_mem_cons.mpr ⟨li_3_132, List.forall_mem_cons.mpr ⟨li_3_135, fun _ h => absurd h List.not_mem_nil⟩⟩⟩⟩⟩⟩⟩⟩⟩⟩⟩⟩⟩⟩⟩⟩⟩⟩⟩⟩⟩⟩⟩⟩⟩⟩⟩⟩⟩⟩
set_option maxRecDepth 100000 in
theorem li_4_5 : pi_okI RX4 5 4 0 0 := List.mem_of_getElem? (i := 253) (by decide +kernel)
set_option maxRecDepth 100000 in
theorem li_4_18 : pi_okI RX4 18 1 161 2 := ⟨mn_161, by decide +kernel, by decide +kernel, List.mem_of_getElem? (i := 9) (by decide +kernel)⟩
set_option maxRecDepth 100000 in
theorem li_4_24 : pi_okI RX4 24 1 159 2 := ⟨mn_159, by decide +kernel, by decide +kernel, List.mem_of_getElem? (i := 5) (by decide +kernel)⟩
set_option maxRecDepth 100000 in
theorem li_4_28 : pi_okI RX4 28 1 160 3 := ⟨mn_160, by decide +kernel, by decide +kernel, List.mem_of_getElem? (i := 6) (by decide +kernel)⟩
set_option maxRecDepth 100000 in
theorem li_4_32 : pi_okI RX4 32 2 41 1 := ⟨mn_41, by decide +kernel, by decide +kernel, List.mem_of_getElem? (i := 644) (by decide +kernel)⟩
set_option maxRecDepth 100000 in
theorem li_4_36 : pi_okI RX4 36 2 42 2 := ⟨mn_42, by decide +kernel, by decide +kernel, List.mem_of_getElem? (i := 648) (by decide +kernel)⟩
set_option maxRecDepth 100000 in
theorem li_4_40 : pi_okI RX4 40 8 0 2 := List.mem_of_getElem? (i := 652) (by decide +kernel)
set_option maxRecDepth 100000 in
theorem li_4_46 : pi_okI RX4 46 9 0 2 := List.mem_of_getElem? (i := 653) (by decide +kernel)
set_option maxRecDepth 100000 in
theorem li_4_49 : pi_okI RX4 49 2 44 2 := ⟨mn_44, by decide +kernel, by decide +kernel, List.mem_of_getElem? (i := 752) (by decide +kernel)⟩
set_option maxRecDepth 100000 in
theorem li_4_52 : pi_okI RX4 52 2 60 1 := ⟨mn_60, by decide +kernel, by decide +kernel, List.mem_of_getElem? (i := 760) (by decide +kernel)⟩
set_option maxRecDepth 100000 in
theorem li_4_56 : pi_okI RX4 56 2 63 1 := ⟨mn_63, by decide +kernel, by decide +kernel, List.mem_of_getElem? (i := 764) (by decide +kernel)⟩
set_option maxRecDepth 100000 in
theorem li_4_59 : pi_okI RX4 59 2 38 0 := ⟨mn_38, by decide +kernel, by decide +kernel, List.mem_of_getElem? (i := 735) (by decide +kernel)⟩
set_option maxRecDepth 100000 in
theorem li_4_63 : pi_okI RX4 63 2 45 2 := ⟨mn_45, by decide +kernel, by decide +kernel, List.mem_of_getElem? (i := 756) (by decide +kernel)⟩
set_option maxRecDepth 100000 in
theorem li_4_67 : pi_okI RX4 67 2 47 1 := ⟨mn_47, by decide +kernel, by decide +kernel, List.mem_of_getElem? (i := 782) (by decide +kernel)⟩
set_option maxRecDepth 100000 in
theorem li_4_70 : pi_okI RX4 70 2 48 2 := ⟨mn_48, by decide +kernel, by decide +kernel, List.mem_of_getElem? (i := 786) (by decide +kernel)⟩
set_option maxRecDepth 100000 in
theorem li_4_73 : pi_okI RX4 73 2 50 0 := ⟨mn_50, by decide +kernel, by decide +kernel, List.mem_of_getElem? (i := 818) (by decide +kernel)⟩
set_option maxRecDepth 100000 in
theorem li_4_76 : pi_okI RX4 76 2 51 1 := ⟨mn_51, by decide +kernel, by decide +kernel, List.mem_of_getElem? (i := 822) (by decide +kernel)⟩
set_option maxRecDepth 100000 in
theorem li_4_83 : pi_okI RX4 83 2 54 1 := ⟨mn_54, by decide +kernel, by decide +kernel, List.mem_of_getElem? (i := 980) (by decide +kernel)⟩
set_option maxRecDepth 100000 in
theorem li_4_86 : pi_okI RX4 86 2 43 3 := ⟨mn_43, by decide +kernel, by decide +kernel, List.mem_of_getElem? (i := 985) (by decide +kernel)⟩
set_option maxRecDepth 100000 in
theorem li_4_90 : pi_okI RX4 90 2 46 3 := ⟨mn_46, by decide +kernel, by decide +kernel, List.mem_of_getElem? (i := 986) (by decide +kernel)⟩
set_option maxRecDepth 100000 in
theorem li_4_94 : pi_okI RX4 94 2 53 1 := ⟨mn_53, by decide +kernel, by decide +kernel, List.mem_of_getElem? (i := 987) (by decide +kernel)⟩
set_option maxRecDepth 100000 in
theorem li_4_97 : pi_okI RX4 97 2 49 1 := ⟨mn_49, by decide +kernel, by decide +kernel, List.mem_of_getElem? (i := 991) (by decide +kernel)⟩
set_option maxRecDepth 100000 in
theorem li_4_101 : pi_okI RX4 101 2 56 1 := ⟨mn_56, by decide +kernel, by decide +kernel, List.mem_of_getElem? (i := 727) (by decide +kernel)⟩
set_option maxRecDepth 100000 in
theorem li_4_104 : pi_okI RX4 104 2 57 1 := ⟨mn_57, by decide +kernel, by decide +kernel, List.mem_of_getElem? (i := 731) (by decide +kernel)⟩
set_option maxRecDepth 100000 in
theorem li_4_107 : pi_okI RX4 107 2 55 2 := ⟨mn_55, by decide +kernel, by decide +kernel, List.mem_of_getElem? (i := 736) (by decide +kernel)⟩
set_option maxRecDepth 100000 in
theorem li_4_110 : pi_okI RX4 110 2 59 1 := ⟨mn_59, by decide +kernel, by decide +kernel, List.mem_of_getElem? (i := 723) (by decide +kernel)⟩
set_option maxRecDepth 100000 in
theorem li_4_113 : pi_okI RX4 113 2 39 2 := ⟨mn_39, by decide +kernel, by decide +kernel, List.mem_of_getElem? (i := 768) (by decide +kernel)⟩
set_option maxRecDepth 100000 in
theorem li_4_116 : pi_okI RX4 116 0 285 1 := ⟨mn_285, by decide +kernel, by decide +kernel, List.mem_of_getElem? (i := 705) (by decide +kernel)⟩
set_option maxRecDepth 100000 in
theorem li_4_121 : pi_okI RX4 121 2 69 1 := ⟨mn_69, by decide +kernel, by decide +kernel, List.mem_of_getElem? (i := 681) (by decide +kernel)⟩
theorem li_a4 : ∀ e ∈ ([(5, 4, 0, 0, 253), (18, 1, 161, 2, 943), (24, 1, 159, 2, 642), (28, 1, 160, 3, 643), (32, 2, 41, 1, 644), (36, 2, 42, 2, 648), (40, 8, 0, 2, 652), (46, 9, 0, 2, 653), (49, 2, 44, 2, 752), (52, 2, 60, 1, 760), (56, 2, 63, 1, 764), (59, 2, 38, 0, 735), (63, 2, 45, 2, 756), (67, 2, 47, 1, 782), (70, 2, 48, 2, 786), (73, 2, 50, 0, 818), (76, 2, 51, 1, 822), (83, 2, 54, 1, 980), (86, 2, 43, 3, 985), (90, 2, 46, 3, 986), (94, 2, 53, 1, 987), (97, 2, 49, 1, 991), (101, 2, 56, 1, 727), (104, 2, 57, 1, 731), (107, 2, 55, 2, 736), (110, 2, 59, 1, 723), (113, 2, 39, 2, 768), (116, 0, 285, 1, 705), (121, 2, 69, 1, 681)] : List (Nat × Nat × Nat × Nat × Nat)), pi_okI RX4 e.1 e.2.1 e.2.2.1 e.2.2.2.1 := List.forall_mem_cons.mpr ⟨li_4_5, List.forall_mem_cons.mpr ⟨li_4_18, List.forall_mem_cons.mpr ⟨li_4_24, List.forall_mem_cons.mpr ⟨li_4_28, List.forall_mem_cons.mpr ⟨li_4_32, List.forall_mem_cons.mpr ⟨li_4_36, List.forall_mem_cons.mpr ⟨li_4_40, List.forall_mem_cons.mpr ⟨li_4_46, List.forall_mem_cons.mpr ⟨li_4_49, List.forall_mem_cons.mpr ⟨li_4_52, List.forall_mem_cons.mpr ⟨li_4_56, List.forall_mem_cons.mpr ⟨li_4_59, List.forall_mem_cons.mpr ⟨li_4_63, List.forall_mem_cons.mpr ⟨li_4_67, List.forall_mem_cons.mpr ⟨li_4_70, List.forall_mem_cons.mpr ⟨li_4_73, List.forall_mem_cons.mpr ⟨li_4_76, List.forall_mem_cons.mpr ⟨li_4_83, List.forall_mem_cons.mpr ⟨li_4_86, List.forall_mem_cons.mpr ⟨li_4_90, List.forall_mem_cons.mpr ⟨li_4_94, List.forall_mem_cons.mpr ⟨li_4_97, List.forall_mem_cons.mpr ⟨li_4_101, List.forall_mem_cons.mpr ⟨li_4_104, List.forall_mem_cons.mpr ⟨li_4_107, List.forall_mem_cons.mpr ⟨li_4_110, List.forall_mem_cons.mpr ⟨li_4_113, List.forall_mem_cons.mpr ⟨li_4_116, List.forall_mem_cons.mpr ⟨li_4_121, fun _ h => absurd h List.not_mem_nil⟩⟩⟩⟩⟩⟩⟩⟩⟩⟩⟩⟩⟩⟩⟩⟩⟩⟩⟩⟩⟩⟩⟩⟩⟩⟩⟩⟩⟩
set_option maxRecDepth 100000 in
theorem li_5_3 : pi_okI RX5 3 4 0 0 := List.mem_of_getElem? (i := 272) (by decide +kernel)
set_option maxRecDepth 100000 in
theorem li_5_24 : pi_okI RX5 24 8 0 2 := List.mem_of_getElem? (i := 776) (by decide +kernel)
set_option maxRecDepth 100000 in
theorem li_5_30 : pi_okI RX5 30 5 0 5 := List.mem_of_getElem? (i := 777) (by decide +kernel)
theorem li_a5 : ∀ e ∈ ([(3, 4, 0, 0, 272), (24, 8, 0, 2, 776), (30, 5, 0, 5, 777)] : List (Nat × Nat × Nat × Nat × Nat)), pi_okI RX5 e.1 e.2.1 e.2.2.1 e.2.2.2.1 := List.forall_mem_cons.mpr ⟨li_5_3, List.forall_mem_cons.mpr ⟨li_5_24, List.forall_mem_cons.mpr ⟨li_5_30, fun _ h => absurd h List.not_mem_nil⟩⟩⟩
set_option maxRecDepth 100000 in
theorem li_6_3 : pi_okI RX6 3 4 0 0 := List.mem_of_getElem? (i := 359) (by decide +kernel)
set_option maxRecDepth 100000 in
theorem li_6_25 : pi_okI RX6 25 1 160 3 := ⟨mn_160, by decide +kernel, by decide +kernel, List.mem_of_getElem? (i := 7) (by decide +kernel)⟩
set_option maxRecDepth 100000 in
theorem li_6_29 : pi_okI RX6 29 2 76 1 := ⟨mn_76, by decide +kernel, by decide +kernel, List.mem_of_getElem? (i := 896) (by decide +kernel)⟩
set_option maxRecDepth 100000 in
theorem li_6_33 : pi_okI RX6 33 2 77 2 := ⟨mn_77, by decide +kernel, by decide +kernel, List.mem_of_getElem? (i := 901) (by decide +kernel)⟩
set_option maxRecDepth 100000 in
theorem li_6_39 : pi_okI RX6 39 1 159 2 := ⟨mn_159, by decide +kernel, by decide +kernel, List.mem_of_getElem? (i := 8) (by decide +kernel)⟩
set_option maxRecDepth 100000 in
theorem li_6_43 : pi_okI RX6 43 0 78 1 := ⟨mn_78, by decide +kernel, by decide +kernel, List.mem_of_getElem? (i := 905) (by decide +kernel)⟩
theorem li_a6 : ∀ e ∈ ([(3, 4, 0, 0, 359), (25, 1, 160, 3, 895), (29, 2, 76, 1, 896), (33, 2, 77, 2, 901), (39, 1, 159, 2, 900), (43, 0, 78, 1, 905)] : List (Nat × Nat × Nat × Nat × Nat)), pi_okI RX6 e.1 e.2.1 e.2.2.1 e.2.2.2.1 := List.forall_mem_cons.mpr ⟨li_6_3, List.forall_mem_cons.mpr ⟨li_6_25, List.forall_mem_cons.mpr ⟨li_6_29, List.forall_mem_cons.mpr ⟨li_6_33, List.forall_mem_cons.mpr ⟨li_6_39, List.forall_mem_cons.mpr ⟨li_6_43, fun _ h => absurd h List.not_mem_nil⟩⟩⟩⟩⟩⟩
set_option maxRecDepth 100000 in
theorem li_7_3 : pi_okI RX7 3 4 0 0 := List.mem_of_getElem? (i := 288) (by decide +kernel)
set_option maxRecDepth 100000 in
theorem li_7_28 : pi_okI RX7 28 1 161 2 := ⟨mn_161, by decide +kernel, by decide +kernel, List.mem_of_getElem? (i := 12) (by decide +kernel)⟩
set_option maxRecDepth 100000 in
theorem li_7_32 : pi_okI RX7 32 1 160 3 := ⟨mn_160, by decide +kernel, by decide +kernel, List.mem_of_getElem? (i := 11) (by decide +kernel)⟩
set_option maxRecDepth 100000 in
theorem li_7_43 : pi_okI RX7 43 1 159 2 := ⟨mn_159, by decide +kernel, by decide +kernel, List.mem_of_getElem? (i := 13) (by decide +kernel)⟩
set_option maxRecDepth 100000 in
theorem li_7_47 : pi_okI RX7 47 2 84 2 := ⟨mn_84, by decide +kernel, by decide +kernel, List.mem_of_getElem? (i := 1092) (by decide +kernel)⟩
set_option maxRecDepth 100000 in
theorem li_7_51 : pi_okI RX7 51 2 85 3 := ⟨mn_85, by decide +kernel, by decide +kernel, List.mem_of_getElem? (i := 1096) (by decide +kernel)⟩
set_option maxRecDepth 100000 in
theorem li_7_58 : pi_okI RX7 58 2 59 1 := ⟨mn_59, by decide +kernel, by decide +kernel, List.mem_of_getElem? (i := 1100) (by decide +kernel)⟩
set_option maxRecDepth 100000 in
theorem li_7_62 : pi_okI RX7 62 2 60 1 := ⟨mn_60, by decide +kernel, by decide +kernel, List.mem_of_getElem? (i := 1101) (by decide +kernel)⟩
set_option maxRecDepth 100000 in
theorem li_7_65 : pi_okI RX7 65 2 86 2 := ⟨mn_86, by decide +kernel, by decide +kernel, List.mem_of_getElem? (i := 1102) (by decide +kernel)⟩
set_option maxRecDepth 100000 in
theorem li_7_69 : pi_okI RX7 69 2 63 1 := ⟨mn_63, by decide +kernel, by decide +kernel, List.mem_of_getElem? (i := 1106) (by decide +kernel)⟩
theorem li_a7 : ∀ e ∈ ([(3, 4, 0, 0, 288), (28, 1, 161, 2, 1082), (32, 1, 160, 3, 1068), (43, 1, 159, 2, 1091), (47, 2, 84, 2, 1092), (51, 2, 85, 3, 1096), (58, 2, 59, 1, 1100), (62, 2, 60, 1, 1101), (65, 2, 86, 2, 1102), (69, 2, 63, 1, 1106)] : List (Nat × Nat × Nat × Nat × Nat)), pi_okI RX7 e.1 e.2.1 e.2.2.1 e.2.2.2.1 := List.forall_mem_cons.mpr ⟨li_7_3, List.forall_mem_cons.mpr ⟨li_7_28, List.forall_mem_cons.mpr ⟨li_7_32, List.forall_mem_cons.mpr ⟨li_7_43, List.forall_mem_cons.mpr ⟨li_7_47, List.forall_mem_cons.mpr ⟨li_7_51, List.forall_mem_cons.mpr ⟨li_7_58, List.forall_mem_cons.mpr ⟨li_7_62, List.forall_mem_cons.mpr ⟨li_7_65, List.forall_mem_cons.mpr ⟨li_7_69, fun _ h => absurd h List.not_mem_nil⟩⟩⟩⟩⟩⟩⟩⟩⟩⟩
set_option maxRecDepth 100000 in
theorem li_8_3 : pi_okI RX8 3 4 0 0 := List.mem_of_getElem? (i := 311) (by decide +kernel)
set_option maxRecDepth 100000 in
theorem li_8_27 : pi_okI RX8 27 2 80 0 := ⟨mn_80, by decide +kernel, by decide +kernel, List.mem_of_getElem? (i := 1046) (by decide +kernel)⟩
set_option maxRecDepth 100000 in
theorem li_8_32 : pi_okI RX8 32 2 97 1 := ⟨mn_97, by decide +kernel, by decide +kernel, List.mem_of_getElem? (i := 1047) (by decide +kernel)⟩
set_option maxRecDepth 100000 in
theorem li_8_38 : pi_okI RX8 38 2 89 1 := ⟨mn_89, by decide +kernel, by decide +kernel, List.mem_of_getElem? (i := 1048) (by decide +kernel)⟩
set_option maxRecDepth 100000 in
theorem li_8_45 : pi_okI RX8 45 2 103 1 := ⟨mn_103, by decide +kernel, by decide +kernel, List.mem_of_getElem? (i := 1057) (by decide +kernel)⟩
set_option maxRecDepth 100000 in
theorem li_8_48 : pi_okI RX8 48 2 90 1 := ⟨mn_90, by decide +kernel, by decide +kernel, List.mem_of_getElem? (i := 1052) (by decide +kernel)⟩
set_option maxRecDepth 100000 in
theorem li_8_54 : pi_okI RX8 54 2 98 0 := ⟨mn_98, by decide +kernel, by decide +kernel, List.mem_of_getElem? (i := 1058) (by decide +kernel)⟩
set_option maxRecDepth 100000 in
theorem li_8_57 : pi_okI RX8 57 2 82 3 := ⟨mn_82, by decide +kernel, by decide +kernel, List.mem_of_getElem? (i := 1064) (by decide +kernel)⟩
set_option maxRecDepth 100000 in
theorem li_8_61 : pi_okI RX8 61 2 104 1 := ⟨mn_104, by decide +kernel, by decide +kernel, List.mem_of_getElem? (i := 1056) (by decide +kernel)⟩
set_option maxRecDepth 100000 in
theorem li_8_65 : pi_okI RX8 65 2 105 1 := ⟨mn_105, by decide +kernel, by decide +kernel, List.mem_of_getElem? (i := 1059) (by decide +kernel)⟩
set_option maxRecDepth 100000 in
theorem li_8_68 : pi_okI RX8 68 2 91 1 := ⟨mn_91, by decide +kernel, by decide +kernel, List.mem_of_getElem? (i := 1060) (by decide +kernel)⟩
set_option maxRecDepth 100000 in
theorem li_8_73 : pi_okI RX8 73 2 92 2 := ⟨mn_92, by decide +kernel, by decide +kernel, List.mem_of_getElem? (i := 1069) (by decide +kernel)⟩
set_option maxRecDepth 100000 in
theorem li_8_77 : pi_okI RX8 77 2 93 1 := ⟨mn_93, by decide +kernel, by decide +kernel, List.mem_of_getElem? (i := 1074) (by decide +kernel)⟩
set_option maxRecDepth 100000 in
theorem li_8_80 : pi_okI RX8 80 2 108 2 := ⟨mn_108, by decide +kernel, by decide +kernel, List.mem_of_getElem? (i := 1073) (by decide +kernel)⟩
theorem li_a8 : ∀ e ∈ ([(3, 4, 0, 0, 311), (27, 2, 80, 0, 1046), (32, 2, 97, 1, 1047), (38, 2, 89, 1, 1048), (45, 2, 103, 1, 1057), (48, 2, 90, 1, 1052), (54, 2, 98, 0, 1058), (57, 2, 82, 3, 1064), (61, 2, 104, 1, 1056), (65, 2, 105, 1, 1059), (68, 2, 91, 1, 1060), (73, 2, 92, 2, 1069), (77, 2, 93, 1, 1074), (80, 2, 108, 2, 1073)] : List (Nat × Nat × Nat × Nat × Nat)), pi_okI RX8 e.1 e.2.1 e.2.2.1 e.2.2.2.1 := List.forall_mem_cons.mpr ⟨li_8_3, List.forall_mem_cons.mpr ⟨li_8_27, List.forall_mem_cons.mpr ⟨li_8_32, List.forall_mem_cons.mpr ⟨li_8_38, List.forall_mem_cons.mpr ⟨li_8_45, List.forall_mem_cons.mpr ⟨li_8_48, List.forall_mem_cons.mpr ⟨li_8_54, List.forall_mem_cons.mpr ⟨li_8_57, List.forall_mem_cons.mpr ⟨li_8_61, List.forall_mem_cons.mpr ⟨li_8_65, List.forall_mem_cons.mpr ⟨li_8_68, List.forall_mem_cons.mpr ⟨li_8_73, List.forall_mem_cons.mpr ⟨li_8_77, List.forall_mem_cons.mpr ⟨li_8_80, fun _ h => absurd h List.not_mem_nil⟩⟩⟩⟩⟩⟩⟩⟩⟩⟩⟩⟩⟩⟩
set_option maxRecDepth 100000 in
theorem li_9_3 : pi_okI RX9 3 4 0 0 := List.mem_of_getElem? (i := 117) (by decide +kernel)
set_option maxRecDepth 100000 in
theorem li_9_21 : pi_okI RX9 21 6 0 0 := List.mem_of_getElem? (i := 119) (by decide +kernel)
set_option maxRecDepth 100000 in
theorem li_9_27 : pi_okI RX9 27 7 0 1 := List.mem_of_getElem? (i := 129) (by decide +kernel)
set_option maxRecDepth 100000 in
theorem li_9_49 : pi_okI RX9 49 2 98 0 := ⟨mn_98, by decide +kernel, by decide +kernel, List.mem_of_getElem? (i := 487) (by decide +kernel)⟩
set_option maxRecDepth 100000 in
theorem li_9_52 : pi_okI RX9 52 2 96 1 := ⟨mn_96, by decide +kernel, by decide +kernel, List.mem_of_getElem? (i := 491) (by decide +kernel)⟩
set_option maxRecDepth 100000 in
theorem li_9_69 : pi_okI RX9 69 8 0 2 := List.mem_of_getElem? (i := 495) (by decide +kernel)
set_option maxRecDepth 100000 in
theorem li_9_78 : pi_okI RX9 78 0 101 1 := ⟨mn_101, by decide +kernel, by decide +kernel, List.mem_of_getElem? (i := 498) (by decide +kernel)⟩
set_option maxRecDepth 100000 in
theorem li_9_82 : pi_okI RX9 82 0 102 1 := ⟨mn_102, by decide +kernel, by decide +kernel, List.mem_of_getElem? (i := 501) (by decide +kernel)⟩
set_option maxRecDepth 100000 in
theorem li_9_85 : pi_okI RX9 85 2 99 1 := ⟨mn_99, by decide +kernel, by decide +kernel, List.mem_of_getElem? (i := 504) (by decide +kernel)⟩
set_option maxRecDepth 100000 in
theorem li_9_89 : pi_okI RX9 89 2 100 1 := ⟨mn_100, by decide +kernel, by decide +kernel, List.mem_of_getElem? (i := 508) (by decide +kernel)⟩
set_option maxRecDepth 100000 in
theorem li_9_93 : pi_okI RX9 93 2 104 1 := ⟨mn_104, by decide +kernel, by decide +kernel, List.mem_of_getElem? (i := 624) (by decide +kernel)⟩
set_option maxRecDepth 100000 in
theorem li_9_97 : pi_okI RX9 97 2 103 1 := ⟨mn_103, by decide +kernel, by decide +kernel, List.mem_of_getElem? (i := 561) (by decide +kernel)⟩
set_option maxRecDepth 100000 in
theorem li_9_100 : pi_okI RX9 100 2 107 0 := ⟨mn_107, by decide +kernel, by decide +kernel, List.mem_of_getElem? (i := 560) (by decide +kernel)⟩
set_option maxRecDepth 100000 in
theorem li_9_104 : pi_okI RX9 104 2 13 2 := ⟨mn_13, by decide +kernel, by decide +kernel, List.mem_of_getElem? (i := 562) (by decide +kernel)⟩
set_option maxRecDepth 100000 in
theorem li_9_110 : pi_okI RX9 110 2 108 2 := ⟨mn_108, by decide +kernel, by decide +kernel, List.mem_of_getElem? (i := 556) (by decide +kernel)⟩
theorem li_a9 : ∀ e ∈ ([(3, 4, 0, 0, 117), (21, 6, 0, 0, 119), (27, 7, 0, 1, 129), (49, 2, 98, 0, 487), (52, 2, 96, 1, 491), (69, 8, 0, 2, 495), (78, 0, 101, 1, 498), (82, 0, 102, 1, 501), (85, 2, 99, 1, 504), (89, 2, 100, 1, 508), (93, 2, 104, 1, 624), (97, 2, 103, 1, 561), (100, 2, 107, 0, 560), (104, 2, 13, 2, 562), (110, 2, 108, 2, 556)] : List (Nat × Nat × Nat × Nat × Nat)), pi_okI RX9 e.1 e.2.1 e.2.2.1 e.2.2.2.1 := List.forall_mem_cons.mpr ⟨li_9_3, List.forall_mem_cons.mpr ⟨li_9_21, List.forall_mem_cons.mpr ⟨li_9_27, List.forall_mem_cons.mpr ⟨li_9_49, List.forall_mem_cons.mpr ⟨li_9_52, List.forall_mem_cons.mpr ⟨li_9_69, List.forall_mem_cons.mpr ⟨li_9_78, List.forall_mem_cons.mpr ⟨li_9_82, List.forall_mem_cons.mpr ⟨li_9_85, List.forall_mem_cons.mpr ⟨li_9_89, List.forall_mem_cons.mpr ⟨li_9_93, List.forall_mem_cons.mpr ⟨li_9_97, List.forall_mem_cons.mpr ⟨li_9_100, List.forall_mem_cons.mpr ⟨li_9_104, List.forall_mem_cons.mpr ⟨li_9_110, fun _ h => absurd h List.not_mem_nil⟩⟩⟩⟩⟩⟩⟩⟩⟩⟩⟩⟩⟩⟩⟩
set_option maxRecDepth 100000 in
theorem li_10_3 : pi_okI RX10 3 4 0 0 := List.mem_of_getElem? (i := 109) (by decide +kernel)
set_option maxRecDepth 100000 in
theorem li_10_11 : pi_okI RX10 11 3 94 0 := ⟨mn_94, by decide +kernel, by decide +kernel, List.mem_of_getElem? (i := 114) (by decide +kernel)⟩
set_option maxRecDepth 100000 in
theorem li_10_18 : pi_okI RX10 18 3 9 0 := ⟨mn_9, by decide +kernel, by decide +kernel, List.mem_of_getElem? (i := 220) (by decide +kernel)⟩
set_option maxRecDepth 100000 in
theorem li_10_28 : pi_okI RX10 28 3 20 2 := ⟨mn_20, by decide +kernel, by decide +kernel, List.mem_of_getElem? (i := 237) (by decide +kernel)⟩
set_option maxRecDepth 100000 in
theorem li_10_41 : pi_okI RX10 41 3 35 1 := ⟨mn_35, by decide +kernel, by decide +kernel, List.mem_of_getElem? (i := 250) (by decide +kernel)⟩
set_option maxRecDepth 100000 in
theorem li_10_53 : pi_okI RX10 53 3 70 0 := ⟨mn_70, by decide +kernel, by decide +kernel, List.mem_of_getElem? (i := 269) (by decide +kernel)⟩
set_option maxRecDepth 100000 in
theorem li_10_60 : pi_okI RX10 60 3 79 0 := ⟨mn_79, by decide +kernel, by decide +kernel, List.mem_of_getElem? (i := 285) (by decide +kernel)⟩
set_option maxRecDepth 100000 in
theorem li_10_70 : pi_okI RX10 70 3 87 3 := ⟨mn_87, by decide +kernel, by decide +kernel, List.mem_of_getElem? (i := 308) (by decide +kernel)⟩
set_option maxRecDepth 100000 in
theorem li_10_79 : pi_okI RX10 79 3 0 2 := ⟨mn_0, by decide +kernel, by decide +kernel, List.mem_of_getElem? (i := 327) (by decide +kernel)⟩
set_option maxRecDepth 100000 in
theorem li_10_86 : pi_okI RX10 86 3 74 1 := ⟨mn_74, by decide +kernel, by decide +kernel, List.mem_of_getElem? (i := 356) (by decide +kernel)⟩
set_option maxRecDepth 100000 in
theorem li_10_96 : pi_okI RX10 96 3 6 0 := ⟨mn_6, by decide +kernel, by decide +kernel, List.mem_of_getElem? (i := 377) (by decide +kernel)⟩
set_option maxRecDepth 100000 in
theorem li_10_121 : pi_okI RX10 121 2 95 1 := ⟨mn_95, by decide +kernel, by decide +kernel, List.mem_of_getElem? (i := 463) (by decide +kernel)⟩
set_option maxRecDepth 100000 in
theorem li_10_125 : pi_okI RX10 125 2 21 0 := ⟨mn_21, by decide +kernel, by decide +kernel, List.mem_of_getElem? (i := 475) (by decide +kernel)⟩
set_option maxRecDepth 100000 in
theorem li_10_132 : pi_okI RX10 132 2 11 1 := ⟨mn_11, by decide +kernel, by decide +kernel, List.mem_of_getElem? (i := 625) (by decide +kernel)⟩
set_option maxRecDepth 100000 in
theorem li_10_136 : pi_okI RX10 136 2 37 0 := ⟨mn_37, by decide +kernel, by decide +kernel, List.mem_of_getElem? (i := 638) (by decide +kernel)⟩
set_option maxRecDepth 100000 in
theorem li_10_139 : pi_okI RX10 139 2 80 0 := ⟨mn_80, by decide +kernel, by decide +kernel, List.mem_of_getElem? (i := 656) (by decide +kernel)⟩
set_option maxRecDepth 100000 in
theorem li_10_142 : pi_okI RX10 142 2 71 0 := ⟨mn_71, by decide +kernel, by decide +kernel, List.mem_of_getElem? (i := 660) (by decide +kernel)⟩
set_option maxRecDepth 100000 in
theorem li_10_148 : pi_okI RX10 148 2 152 2 := ⟨mn_152, by decide +kernel, by decide +kernel, List.mem_of_getElem? (i := 672) (by decide +kernel)⟩
set_option maxRecDepth 100000 in
theorem li_10_152 : pi_okI RX10 152 0 159 2 := ⟨mn_159, by decide +kernel, by decide +kernel, List.mem_of_getElem? (i := 676) (by decide +kernel)⟩
set_option maxRecDepth 100000 in
theorem li_10_156 : pi_okI RX10 156 2 68 1 := ⟨mn_68, by decide +kernel, by decide +kernel, List.mem_of_getElem? (i := 677) (by decide +kernel)⟩
set_option maxRecDepth 100000 in
theorem li_10_166 : pi_okI RX10 166 2 67 1 := ⟨mn_67, by decide +kernel, by decide +kernel, List.mem_of_getElem? (i := 689) (by decide +kernel)⟩
set_option maxRecDepth 100000 in
theorem li_10_169 : pi_okI RX10 169 2 38 0 := ⟨mn_38, by decide +kernel, by decide +kernel, List.mem_of_getElem? (i := 697) (by decide +kernel)⟩
set_option maxRecDepth 100000 in
theorem li_10_172 : pi_okI RX10 172 2 64 0 := ⟨mn_64, by decide +kernel, by decide +kernel, List.mem_of_getElem? (i := 701) (by decide +kernel)⟩
set_option maxRecDepth 100000 in
theorem li_10_175 : pi_okI RX10 175 2 65 0 := ⟨mn_65, by decide +kernel, by decide +kernel, List.mem_of_getElem? (i := 711) (by decide +kernel)⟩
set_option maxRecDepth 100000 in
theorem li_10_178 : pi_okI RX10 178 2 66 0 := ⟨mn_66, by decide +kernel, by decide +kernel, List.mem_of_getElem? (i := 715) (by decide +kernel)⟩
set_option maxRecDepth 100000 in
theorem li_10_181 : pi_okI RX10 181 2 62 0 := ⟨mn_62, by decide +kernel, by decide +kernel, List.mem_of_getElem? (i := 719) (by decide +kernel)⟩
set_option maxRecDepth 100000 in
theorem li_10_184 : pi_okI RX10 184 2 156 3 := ⟨mn_156, by decide +kernel, by decide +kernel, List.mem_of_getElem? (i := 744) (by decide +kernel)⟩
set_option maxRecDepth 100000 in
theorem li_10_188 : pi_okI RX10 188 8 0 2 := List.mem_of_getElem? (i := 632) (by decide +kernel)
set_option maxRecDepth 100000 in
theorem li_10_194 : pi_okI RX10 194 2 72 1 := ⟨mn_72, by decide +kernel, by decide +kernel, List.mem_of_getElem? (i := 772) (by decide +kernel)⟩
set_option maxRecDepth 100000 in
theorem li_10_197 : pi_okI RX10 197 2 49 1 := ⟨mn_49, by decide +kernel, by decide +kernel, List.mem_of_getElem? (i := 814) (by decide +kernel)⟩
set_option maxRecDepth 100000 in
theorem li_10_200 : pi_okI RX10 200 2 73 1 := ⟨mn_73, by decide +kernel, by decide +kernel, List.mem_of_getElem? (i := 830) (by decide +kernel)⟩
set_option maxRecDepth 100000 in
theorem li_10_204 : pi_okI RX10 204 2 154 2 := ⟨mn_154, by decide +kernel, by decide +kernel, List.mem_of_getElem? (i := 838) (by decide +kernel)⟩
set_option maxRecDepth 100000 in
theorem li_10_207 : pi_okI RX10 207 2 39 2 := ⟨mn_39, by decide +kernel, by decide +kernel, List.mem_of_getElem? (i := 842) (by decide +kernel)⟩
set_option maxRecDepth 100000 in
theorem li_10_210 : pi_okI RX10 210 2 55 2 := ⟨mn_55, by decide +kernel, by decide +kernel, List.mem_of_getElem? (i := 847) (by decide +kernel)⟩
set_option maxRecDepth 100000 in
theorem li_10_213 : pi_okI RX10 213 2 59 1 := ⟨mn_59, by decide +kernel, by decide +kernel, List.mem_of_getElem? (i := 852) (by decide +kernel)⟩
set_option maxRecDepth 100000 in
theorem li_10_216 : pi_okI RX10 216 2 60 1 := ⟨mn_60, by decide +kernel, by decide +kernel, List.mem_of_getElem? (i := 857) (by decide +kernel)⟩
set_option maxRecDepth 100000 in
theorem li_10_219 : pi_okI RX10 219 2 58 1 := ⟨mn_58, by decide +kernel, by decide +kernel, List.mem_of_getElem? (i := 862) (by decide +kernel)⟩
set_option maxRecDepth 100000 in
theorem li_10_222 : pi_okI RX10 222 2 61 1 := ⟨mn_61, by decide +kernel, by decide +kernel, List.mem_of_getElem? (i := 870) (by decide +kernel)⟩
set_option maxRecDepth 100000 in
theorem li_10_225 : pi_okI RX10 225 2 40 2 := ⟨mn_40, by decide +kernel, by decide +kernel, List.mem_of_getElem? (i := 878) (by decide +kernel)⟩
set_option maxRecDepth 100000 in
theorem li_10_228 : pi_okI RX10 228 2 153 2 := ⟨mn_153, by decide +kernel, by decide +kernel, List.mem_of_getElem? (i := 886) (by decide +kernel)⟩
set_option maxRecDepth 100000 in
theorem li_10_231 : pi_okI RX10 231 2 69 1 := ⟨mn_69, by decide +kernel, by decide +kernel, List.mem_of_getElem? (i := 890) (by decide +kernel)⟩
set_option maxRecDepth 100000 in
theorem li_10_234 : pi_okI RX10 234 2 75 3 := ⟨mn_75, by decide +kernel, by decide +kernel, List.mem_of_getElem? (i := 891) (by decide +kernel)⟩
set_option maxRecDepth 100000 in
theorem li_10_243 : pi_okI RX10 243 2 56 1 := ⟨mn_56, by decide +kernel, by decide +kernel, List.mem_of_getElem? (i := 916) (by decide +kernel)⟩
set_option maxRecDepth 100000 in
theorem li_10_246 : pi_okI RX10 246 2 16 2 := ⟨mn_16, by decide +kernel, by decide +kernel, List.mem_of_getElem? (i := 921) (by decide +kernel)⟩
set_option maxRecDepth 100000 in
theorem li_10_249 : pi_okI RX10 249 2 151 1 := ⟨mn_151, by decide +kernel, by decide +kernel, List.mem_of_getElem? (i := 922) (by decide +kernel)⟩
set_option maxRecDepth 100000 in
theorem li_10_252 : pi_okI RX10 252 0 285 1 := ⟨mn_285, by decide +kernel, by decide +kernel, List.mem_of_getElem? (i := 926) (by decide +kernel)⟩
set_option maxRecDepth 100000 in
theorem li_10_257 : pi_okI RX10 257 2 17 3 := ⟨mn_17, by decide +kernel, by decide +kernel, List.mem_of_getElem? (i := 927) (by decide +kernel)⟩
set_option maxRecDepth 100000 in
theorem li_10_261 : pi_okI RX10 261 2 157 2 := ⟨mn_157, by decide +kernel, by decide +kernel, List.mem_of_getElem? (i := 935) (by decide +kernel)⟩
set_option maxRecDepth 100000 in
theorem li_10_264 : pi_okI RX10 264 2 18 1 := ⟨mn_18, by decide +kernel, by decide +kernel, List.mem_of_getElem? (i := 952) (by decide +kernel)⟩
set_option maxRecDepth 100000 in
theorem li_10_267 : pi_okI RX10 267 2 36 1 := ⟨mn_36, by decide +kernel, by decide +kernel, List.mem_of_getElem? (i := 939) (by decide +kernel)⟩
set_option maxRecDepth 100000 in
theorem li_10_270 : pi_okI RX10 270 2 19 1 := ⟨mn_19, by decide +kernel, by decide +kernel, List.mem_of_getElem? (i := 968) (by decide +kernel)⟩
set_option maxRecDepth 100000 in
theorem li_10_273 : pi_okI RX10 273 2 52 2 := ⟨mn_52, by decide +kernel, by decide +kernel, List.mem_of_getElem? (i := 976) (by decide +kernel)⟩
set_option maxRecDepth 100000 in
theorem li_10_277 : pi_okI RX10 277 2 1 0 := ⟨mn_1, by decide +kernel, by decide +kernel, List.mem_of_getElem? (i := 1000) (by decide +kernel)⟩
set_option maxRecDepth 100000 in
theorem li_10_280 : pi_okI RX10 280 2 158 1 := ⟨mn_158, by decide +kernel, by decide +kernel, List.mem_of_getElem? (i := 1029) (by decide +kernel)⟩
set_option maxRecDepth 100000 in
theorem li_10_284 : pi_okI RX10 284 2 88 0 := ⟨mn_88, by decide +kernel, by decide +kernel, List.mem_of_getElem? (i := 1042) (by decide +kernel)⟩
set_option maxRecDepth 100000 in
theorem li_10_287 : pi_okI RX10 287 2 81 1 := ⟨mn_81, by decide +kernel, by decide +kernel, List.mem_of_getElem? (i := 1078) (by decide +kernel)⟩
set_option maxRecDepth 100000 in
theorem li_10_293 : pi_okI RX10 293 2 83 1 := ⟨mn_83, by decide +kernel, by decide +kernel, List.mem_of_getElem? (i := 1087) (by decide +kernel)⟩
set_option maxRecDepth 100000 in
theorem li_10_296 : pi_okI RX10 296 2 155 1 := ⟨mn_155, by decide +kernel, by decide +kernel, List.mem_of_getElem? (i := 1111) (by decide +kernel)⟩
set_option maxRecDepth 100000 in
theorem li_10_300 : pi_okI RX10 300 2 7 3 := ⟨mn_7, by decide +kernel, by decide +kernel, List.mem_of_getElem? (i := 1115) (by decide +kernel)⟩
set_option maxRecDepth 100000 in
theorem li_10_307 : pi_okI RX10 307 2 8 3 := ⟨mn_8, by decide +kernel, by decide +kernel, List.mem_of_getElem? (i := 1126) (by decide +kernel)⟩
set_option maxRecDepth 100000 in
theorem li_10_310 : pi_okI RX10 310 2 43 3 := ⟨mn_43, by decide +kernel, by decide +kernel, List.mem_of_getElem? (i := 748) (by decide +kernel)⟩
set_option maxRecDepth 100000 in
theorem li_10_313 : pi_okI RX10 313 2 46 3 := ⟨mn_46, by decide +kernel, by decide +kernel, List.mem_of_getElem? (i := 778) (by decide +kernel)⟩
set_option maxRecDepth 100000 in
theorem li_10_329 : pi_okI RX10 329 0 160 3 := ⟨mn_160, by decide +kernel, by decide +kernel, List.mem_of_getElem? (i := 1033) (by decide +kernel)⟩
set_option maxRecDepth 100000 in
theorem li_10_333 : pi_okI RX10 333 5 0 5 := List.mem_of_getElem? (i := 633) (by decide +kernel)
theorem li_a10 : ∀ e ∈ ([(3, 4, 0, 0, 109), (11, 3, 94, 0, 114), (18, 3, 9, 0, 220), (28, 3, 20, 2, 237), (41, 3, 35, 1, 250), (53, 3, 70, 0, 269), (60, 3, 79, 0, 285), (70, 3, 87, 3, 308), (79, 3, 0, 2, 327), (86, 3, 74, 1, 356), (96, 3, 6, 0, 377), (121, 2, 95, 1, 463), (125, 2, 21, 0, 475), (132, 2, 11, 1, 625), (136, 2, 37, 0, 638), (139, 2, 80, 0, 656), (142, 2, 71, 0, 660), (148, 2, 152, 2, 672), (152, 0, 159, 2, 676), (156, 2, 68, 1, 677), (166, 2, 67, 1, 689), (169, 2, 38, 0, 697), (172, 2, 64, 0, 701), (175, 2, 65, 0, 711), (178, 2, 66, 0, 715), (181, 2, 62, 0, 719), (184, 2, 156, 3, 744), (188, 8, 0, 2, 632), (194, 2, 72, 1, 772), (197, 2, 49, 1, 814), (200, 2, 73, 1, 830), (204, 2, 154, 2, 838), (207, 2, 39, 2, 842), (210, 2, 55, 2, 847), (213, 2, 59, 1, 852), (216, 2, 60, 1, 857), (219, 2, 58, 1, 862), (222, 2, 61, 1, 870), (225, 2, 40, 2, 878), (228, 2, 153, 2, 886), (231, 2, 69, 1, 890), (234, 2, 75, 3, 891), (243, 2, 56, 1, 916), (246, 2, 16, 2, 921), (249, 2, 151, 1, 922), (252, 0, 285, 1, 926), (257, 2, 17, 3, 927), (261, 2, 157, 2, 935), (264, 2, 18, 1, 952), (267, 2, 36, 1, 939), (270, 2, 19, 1, 968), (273, 2, 52, 2, 976), (277, 2, 1, 0, 1000), (280, 2, 158, 1, 1029), (284, 2, 88, 0, 1042), (287, 2, 81, 1, 1078), (293, 2, 83, 1, 1087), (296, 2, 155, 1, 1111), (300, 2, 7, 3, 1115), (307, 2, 8, 3, 1126), (310, 2, 43, 3, 748), (313, 2, 46, 3, 778), (329, 0, 160, 3, 1033), (333, 5, 0, 5, 633)] : List (Nat × Nat × Nat × Nat × Nat)), pi_okI RX10 e.1 e.2.1 e.2.2.1 e.2.2.2.1 := List.forall_mem_cons.mpr ⟨li_10_3, List.forall_mem_cons.mpr ⟨li_10_11, List.forall_mem_cons.mpr ⟨li_10_18, List.forall_mem_cons.mpr ⟨li_10_28, List.forall_mem_cons.mpr ⟨li_10_41, List.forall_mem_cons.mpr ⟨li_10_53, List.forall_mem_cons.mpr ⟨li_10_60, List.forall_mem_cons.mpr ⟨li_10_70, List.forall_mem_cons.mpr ⟨li_10_79, List.forall_mem_cons.mpr ⟨li_10_86, List.forall_mem_cons.mpr ⟨li_10_96, List.forall_mem_cons.mpr ⟨li_10_121, List.forall_mem_cons.mpr ⟨li_10_125, List.forall_mem_cons.mpr ⟨li_10_132, List.forall_mem_cons.mpr ⟨li_10_136, List.forall_mem_cons.mpr ⟨li_10_139, List.forall_mem_cons.mpr ⟨li_10_142, List.forall_mem_cons.mpr ⟨li_10_148, List.forall_mem_cons.mpr ⟨li_10_152, List.forall_mem_cons.mpr ⟨li_10_156, List.forall_mem_cons.mpr ⟨li_10_166, List.forall_mem_cons.mpr ⟨li_10_169, List.forall_mem_cons.mpr ⟨li_10_172, List.forall_mem_cons.mpr ⟨li_10_175, List.forall_mem_cons.mpr ⟨li_10_178, List.forall_mem_cons.mpr ⟨li_10_181, List.forall_mem_cons.mpr ⟨li_10_184, List.forall_mem_cons.mpr ⟨li_10_188, List.forall_mem_cons.mpr ⟨li_10_194, List.forall_mem_cons.mpr ⟨li_10_197, List.forall_mem_cons.mpr ⟨li_10_200, List.forall_mem_cons.mpr ⟨li_10_204, List.forall_mem_cons.mpr ⟨li_10_207, List.forall_mem_cons.mpr ⟨li_10_210, List.forall_mem_cons.mpr ⟨li_10_213, List.forall_mem_cons.mpr ⟨li_10_216, List.forall_mem_cons.mpr ⟨li_10_219, List.forall_mem_cons.mpr ⟨li_10_222, List.forall_mem_cons.mpr ⟨li_10_225, List.forall_mem_cons.mpr ⟨li_10_228, List.forall_mem_cons.mpr ⟨li_10_231, List.forall_mem_cons.mpr ⟨li_10_234, List.forall_mem_cons.mpr ⟨li_10_243, List.forall_mem_cons.mpr ⟨li_10_246, List.forall_mem_cons.mpr ⟨li_10_249, List.forall_mem_cons.mpr ⟨li_10_252, List.forall_mem_cons.mpr ⟨li_10_257, List.forall_mem_cons.mpr ⟨li_10_261, List.forall_mem_cons.mpr ⟨li_10_264, List.forall_mem_cons.mpr ⟨li_10_267, List.forall_mem_cons.mpr ⟨li_10_270, List.forall_mem_cons.mpr ⟨li_10_273, List.forall_mem_cons.mpr ⟨li_10_277, List.forall_mem_cons.mpr ⟨li_10_280, List.forall_mem_cons.mpr ⟨li_10_284, List.forall_mem_cons.mpr ⟨li_10_287, List.forall_mem_cons.mpr ⟨li_10_293, List.forall_mem_cons.mpr ⟨li_10_296, List.forall_mem_cons.mpr ⟨li_10_300, List.forall_mem_cons.mpr ⟨li_10_307, List.forall_mem_cons.mpr ⟨li_10_310, List.forall_mem_cons.mpr ⟨li_10_313, List.forall_mem_cons.mpr ⟨li_10_329, List.forall_mem_cons.mpr ⟨li_10_333, fun _ h => absurd h List.not_mem_nil⟩⟩⟩⟩⟩⟩⟩⟩⟩⟩⟩⟩⟩⟩⟩⟩⟩⟩⟩⟩⟩⟩⟩⟩⟩⟩⟩⟩⟩⟩⟩⟩⟩⟩⟩⟩⟩⟩⟩⟩⟩⟩⟩⟩⟩⟩⟩⟩⟩⟩⟩⟩⟩⟩⟩⟩⟩⟩⟩⟩⟩⟩⟩⟩
set_option maxRecDepth 100000 in
theorem li_11_10 : pi_okI RX11 10 2 164 1 := ⟨mn_164, by decide +kernel, by decide +kernel, List.mem_of_getElem? (i := 1204) (by decide +kernel)⟩
set_option maxRecDepth 100000 in
theorem li_11_27 : pi_okI RX11 27 4 0 0 := List.mem_of_getElem? (i := 1217) (by decide +kernel)
set_option maxRecDepth 100000 in
theorem li_11_142 : pi_okI RX11 142 2 173 0 := ⟨mn_173, by decide +kernel, by decide +kernel, List.mem_of_getElem? (i := 1396) (by decide +kernel)⟩
set_option maxRecDepth 100000 in
theorem li_11_155 : pi_okI RX11 155 0 174 1 := ⟨mn_174, by decide +kernel, by decide +kernel, List.mem_of_getElem? (i := 1400) (by decide +kernel)⟩
set_option maxRecDepth 100000 in
theorem li_11_159 : pi_okI RX11 159 0 175 1 := ⟨mn_175, by decide +kernel, by decide +kernel, List.mem_of_getElem? (i := 1403) (by decide +kernel)⟩
set_option maxRecDepth 100000 in
theorem li_11_175 : pi_okI RX11 175 2 179 1 := ⟨mn_179, by decide +kernel, by decide +kernel, List.mem_of_getElem? (i := 1460) (by decide +kernel)⟩
set_option maxRecDepth 100000 in
theorem li_11_178 : pi_okI RX11 178 2 177 1 := ⟨mn_177, by decide +kernel, by decide +kernel, List.mem_of_getElem? (i := 1414) (by decide +kernel)⟩
set_option maxRecDepth 100000 in
theorem li_11_181 : pi_okI RX11 181 2 176 0 := ⟨mn_176, by decide +kernel, by decide +kernel, List.mem_of_getElem? (i := 1392) (by decide +kernel)⟩
set_option maxRecDepth 100000 in
theorem li_11_184 : pi_okI RX11 184 0 167 3 := ⟨mn_167, by decide +kernel, by decide +kernel, List.mem_of_getElem? (i := 1457) (by decide +kernel)⟩
set_option maxRecDepth 100000 in
theorem li_11_191 : pi_okI RX11 191 2 182 2 := ⟨mn_182, by decide +kernel, by decide +kernel, List.mem_of_getElem? (i := 1453) (by decide +kernel)⟩
set_option maxRecDepth 100000 in
theorem li_11_195 : pi_okI RX11 195 2 181 0 := ⟨mn_181, by decide +kernel, by decide +kernel, List.mem_of_getElem? (i := 1422) (by decide +kernel)⟩
set_option maxRecDepth 100000 in
theorem li_11_199 : pi_okI RX11 199 2 184 2 := ⟨mn_184, by decide +kernel, by decide +kernel, List.mem_of_getElem? (i := 1426) (by decide +kernel)⟩
set_option maxRecDepth 100000 in
theorem li_11_203 : pi_okI RX11 203 2 186 2 := ⟨mn_186, by decide +kernel, by decide +kernel, List.mem_of_getElem? (i := 1438) (by decide +kernel)⟩
set_option maxRecDepth 100000 in
theorem li_11_206 : pi_okI RX11 206 2 178 1 := ⟨mn_178, by decide +kernel, by decide +kernel, List.mem_of_getElem? (i := 1410) (by decide +kernel)⟩
set_option maxRecDepth 100000 in
theorem li_11_210 : pi_okI RX11 210 2 185 1 := ⟨mn_185, by decide +kernel, by decide +kernel, List.mem_of_getElem? (i := 1418) (by decide +kernel)⟩
set_option maxRecDepth 100000 in
theorem li_11_213 : pi_okI RX11 213 2 189 0 := ⟨mn_189, by decide +kernel, by decide +kernel, List.mem_of_getElem? (i := 1430) (by decide +kernel)⟩
set_option maxRecDepth 100000 in
theorem li_11_216 : pi_okI RX11 216 2 190 1 := ⟨mn_190, by decide +kernel, by decide +kernel, List.mem_of_getElem? (i := 1445) (by decide +kernel)⟩
set_option maxRecDepth 100000 in
theorem li_11_220 : pi_okI RX11 220 2 187 2 := ⟨mn_187, by decide +kernel, by decide +kernel, List.mem_of_getElem? (i := 1434) (by decide +kernel)⟩
set_option maxRecDepth 100000 in
theorem li_11_223 : pi_okI RX11 223 2 183 3 := ⟨mn_183, by decide +kernel, by decide +kernel, List.mem_of_getElem? (i := 1449) (by decide +kernel)⟩
set_option maxRecDepth 100000 in
theorem li_11_226 : pi_okI RX11 226 2 191 0 := ⟨mn_191, by decide +kernel, by decide +kernel, List.mem_of_getElem? (i := 1464) (by decide +kernel)⟩
set_option maxRecDepth 100000 in
theorem li_11_229 : pi_okI RX11 229 0 168 2 := ⟨mn_168, by decide +kernel, by decide +kernel, List.mem_of_getElem? (i := 1442) (by decide +kernel)⟩
set_option maxRecDepth 100000 in
theorem li_11_232 : pi_okI RX11 232 2 166 1 := ⟨mn_166, by decide +kernel, by decide +kernel, List.mem_of_getElem? (i := 1388) (by decide +kernel)⟩
set_option maxRecDepth 100000 in
theorem li_11_238 : pi_okI RX11 238 2 188 0 := ⟨mn_188, by decide +kernel, by decide +kernel, List.mem_of_getElem? (i := 1406) (by decide +kernel)⟩
set_option maxRecDepth 100000 in
theorem li_11_241 : pi_okI RX11 241 2 180 1 := ⟨mn_180, by decide +kernel, by decide +kernel, List.mem_of_getElem? (i := 1468) (by decide +kernel)⟩
set_option maxRecDepth 100000 in
theorem li_11_244 : pi_okI RX11 244 2 201 1 := ⟨mn_201, by decide +kernel, by decide +kernel, List.mem_of_getElem? (i := 1472) (by decide +kernel)⟩
set_option maxRecDepth 100000 in
theorem li_11_250 : pi_okI RX11 250 0 198 2 := ⟨mn_198, by decide +kernel, by decide +kernel, List.mem_of_getElem? (i := 1480) (by decide +kernel)⟩
set_option maxRecDepth 100000 in
theorem li_11_253 : pi_okI RX11 253 0 169 2 := ⟨mn_169, by decide +kernel, by decide +kernel, List.mem_of_getElem? (i := 1483) (by decide +kernel)⟩
set_option maxRecDepth 100000 in
theorem li_11_256 : pi_okI RX11 256 2 199 3 := ⟨mn_199, by decide +kernel, by decide +kernel, List.mem_of_getElem? (i := 1486) (by decide +kernel)⟩
set_option maxRecDepth 100000 in
theorem li_11_260 : pi_okI RX11 260 0 170 2 := ⟨mn_170, by decide +kernel, by decide +kernel, List.mem_of_getElem? (i := 1490) (by decide +kernel)⟩
set_option maxRecDepth 100000 in
theorem li_11_263 : pi_okI RX11 263 2 200 2 := ⟨mn_200, by decide +kernel, by decide +kernel, List.mem_of_getElem? (i := 1476) (by decide +kernel)⟩
set_option maxRecDepth 100000 in
theorem li_11_267 : pi_okI RX11 267 2 202 2 := ⟨mn_202, by decide +kernel, by decide +kernel, List.mem_of_getElem? (i := 1544) (by decide +kernel)⟩
set_option maxRecDepth 100000 in
theorem li_11_270 : pi_okI RX11 270 2 203 2 := ⟨mn_203, by decide +kernel, by decide +kernel, List.mem_of_getElem? (i := 1548) (by decide +kernel)⟩
set_option maxRecDepth 100000 in
theorem li_11_273 : pi_okI RX11 273 2 204 2 := ⟨mn_204, by decide +kernel, by decide +kernel, List.mem_of_getElem? (i := 1540) (by decide +kernel)⟩
set_option maxRecDepth 100000 in
theorem li_11_276 : pi_okI RX11 276 2 205 1 := ⟨mn_205, by decide +kernel, by decide +kernel, List.mem_of_getElem? (i := 1536) (by decide +kernel)⟩
set_option maxRecDepth 100000 in
theorem li_11_280 : pi_okI RX11 280 2 206 1 := ⟨mn_206, by decide +kernel, by decide +kernel, List.mem_of_getElem? (i := 1588) (by decide +kernel)⟩
set_option maxRecDepth 100000 in
theorem li_11_283 : pi_okI RX11 283 2 196 1 := ⟨mn_196, by decide +kernel, by decide +kernel, List.mem_of_getElem? (i := 1501) (by decide +kernel)⟩
set_option maxRecDepth 100000 in
theorem li_11_286 : pi_okI RX11 286 2 197 1 := ⟨mn_197, by decide +kernel, by decide +kernel, List.mem_of_getElem? (i := 1509) (by decide +kernel)⟩
set_option maxRecDepth 100000 in
theorem li_11_289 : pi_okI RX11 289 2 162 1 := ⟨mn_162, by decide +kernel, by decide +kernel, List.mem_of_getElem? (i := 1513) (by decide +kernel)⟩
set_option maxRecDepth 100000 in
theorem li_11_292 : pi_okI RX11 292 2 194 1 := ⟨mn_194, by decide +kernel, by decide +kernel, List.mem_of_getElem? (i := 1521) (by decide +kernel)⟩
set_option maxRecDepth 100000 in
theorem li_11_295 : pi_okI RX11 295 0 171 1 := ⟨mn_171, by decide +kernel, by decide +kernel, List.mem_of_getElem? (i := 1529) (by decide +kernel)⟩
set_option maxRecDepth 100000 in
theorem li_11_298 : pi_okI RX11 298 2 212 0 := ⟨mn_212, by decide +kernel, by decide +kernel, List.mem_of_getElem? (i := 1532) (by decide +kernel)⟩
set_option maxRecDepth 100000 in
theorem li_11_301 : pi_okI RX11 301 2 215 2 := ⟨mn_215, by decide +kernel, by decide +kernel, List.mem_of_getElem? (i := 1568) (by decide +kernel)⟩
set_option maxRecDepth 100000 in
theorem li_11_304 : pi_okI RX11 304 2 207 1 := ⟨mn_207, by decide +kernel, by decide +kernel, List.mem_of_getElem? (i := 1584) (by decide +kernel)⟩
set_option maxRecDepth 100000 in
theorem li_11_307 : pi_okI RX11 307 2 208 1 := ⟨mn_208, by decide +kernel, by decide +kernel, List.mem_of_getElem? (i := 1616) (by decide +kernel)⟩
set_option maxRecDepth 100000 in
theorem li_11_310 : pi_okI RX11 310 2 227 1 := ⟨mn_227, by decide +kernel, by decide +kernel, List.mem_of_getElem? (i := 1660) (by decide +kernel)⟩
set_option maxRecDepth 100000 in
theorem li_11_313 : pi_okI RX11 313 2 228 0 := ⟨mn_228, by decide +kernel, by decide +kernel, List.mem_of_getElem? (i := 1656) (by decide +kernel)⟩
set_option maxRecDepth 100000 in
theorem li_11_316 : pi_okI RX11 316 2 214 2 := ⟨mn_214, by decide +kernel, by decide +kernel, List.mem_of_getElem? (i := 1556) (by decide +kernel)⟩
set_option maxRecDepth 100000 in
theorem li_11_319 : pi_okI RX11 319 2 237 0 := ⟨mn_237, by decide +kernel, by decide +kernel, List.mem_of_getElem? (i := 1560) (by decide +kernel)⟩
set_option maxRecDepth 100000 in
theorem li_11_322 : pi_okI RX11 322 2 216 2 := ⟨mn_216, by decide +kernel, by decide +kernel, List.mem_of_getElem? (i := 1564) (by decide +kernel)⟩
set_option maxRecDepth 100000 in
theorem li_11_325 : pi_okI RX11 325 2 195 1 := ⟨mn_195, by decide +kernel, by decide +kernel, List.mem_of_getElem? (i := 1576) (by decide +kernel)⟩
set_option maxRecDepth 100000 in
theorem li_11_328 : pi_okI RX11 328 2 217 2 := ⟨mn_217, by decide +kernel, by decide +kernel, List.mem_of_getElem? (i := 1580) (by decide +kernel)⟩
set_option maxRecDepth 100000 in
theorem li_11_331 : pi_okI RX11 331 2 218 1 := ⟨mn_218, by decide +kernel, by decide +kernel, List.mem_of_getElem? (i := 1592) (by decide +kernel)⟩
set_option maxRecDepth 100000 in
theorem li_11_334 : pi_okI RX11 334 2 219 2 := ⟨mn_219, by decide +kernel, by decide +kernel, List.mem_of_getElem? (i := 1600) (by decide +kernel)⟩
set_option maxRecDepth 100000 in
theorem li_11_337 : pi_okI RX11 337 2 220 2 := ⟨mn_220, by decide +kernel, by decide +kernel, List.mem_of_getElem? (i := 1604) (by decide +kernel)⟩
set_option maxRecDepth 100000 in
theorem li_11_340 : pi_okI RX11 340 2 221 1 := ⟨mn_221, by decide +kernel, by decide +kernel, List.mem_of_getElem? (i := 1612) (by decide +kernel)⟩
set_option maxRecDepth 100000 in
theorem li_11_343 : pi_okI RX11 343 2 222 1 := ⟨mn_222, by decide +kernel, by decide +kernel, List.mem_of_getElem? (i := 1620) (by decide +kernel)⟩
set_option maxRecDepth 100000 in
theorem li_11_346 : pi_okI RX11 346 2 223 2 := ⟨mn_223, by decide +kernel, by decide +kernel, List.mem_of_getElem? (i := 1628) (by decide +kernel)⟩
set_option maxRecDepth 100000 in
theorem li_11_349 : pi_okI RX11 349 2 224 2 := ⟨mn_224, by decide +kernel, by decide +kernel, List.mem_of_getElem? (i := 1632) (by decide +kernel)⟩
set_option maxRecDepth 100000 in
theorem li_11_352 : pi_okI RX11 352 2 225 1 := ⟨mn_225, by decide +kernel, by decide +kernel, List.mem_of_getElem? (i := 1640) (by decide +kernel)⟩
set_option maxRecDepth 100000 in
theorem li_11_355 : pi_okI RX11 355 2 226 1 := ⟨mn_226, by decide +kernel, by decide +kernel, List.mem_of_getElem? (i := 1644) (by decide +kernel)⟩
set_option maxRecDepth 100000 in
theorem li_11_358 : pi_okI RX11 358 2 229 1 := ⟨mn_229, by decide +kernel, by decide +kernel, List.mem_of_getElem? (i := 1652) (by decide +kernel)⟩
set_option maxRecDepth 100000 in
theorem li_11_361 : pi_okI RX11 361 2 249 2 := ⟨mn_249, by decide +kernel, by decide +kernel, List.mem_of_getElem? (i := 1708) (by decide +kernel)⟩
set_option maxRecDepth 100000 in
theorem li_11_364 : pi_okI RX11 364 2 250 3 := ⟨mn_250, by decide +kernel, by decide +kernel, List.mem_of_getElem? (i := 1704) (by decide +kernel)⟩
set_option maxRecDepth 100000 in
theorem li_11_371 : pi_okI RX11 371 2 239 0 := ⟨mn_239, by decide +kernel, by decide +kernel, List.mem_of_getElem? (i := 1724) (by decide +kernel)⟩
set_option maxRecDepth 100000 in
theorem li_11_374 : pi_okI RX11 374 2 254 3 := ⟨mn_254, by decide +kernel, by decide +kernel, List.mem_of_getElem? (i := 1728) (by decide +kernel)⟩
set_option maxRecDepth 100000 in
theorem li_11_377 : pi_okI RX11 377 2 240 0 := ⟨mn_240, by decide +kernel, by decide +kernel, List.mem_of_getElem? (i := 1732) (by decide +kernel)⟩
set_option maxRecDepth 100000 in
theorem li_11_380 : pi_okI RX11 380 2 256 1 := ⟨mn_256, by decide +kernel, by decide +kernel, List.mem_of_getElem? (i := 1740) (by decide +kernel)⟩
set_option maxRecDepth 100000 in
theorem li_11_400 : pi_okI RX11 400 2 262 1 := ⟨mn_262, by decide +kernel, by decide +kernel, List.mem_of_getElem? (i := 1768) (by decide +kernel)⟩
set_option maxRecDepth 100000 in
theorem li_11_403 : pi_okI RX11 403 2 263 2 := ⟨mn_263, by decide +kernel, by decide +kernel, List.mem_of_getElem? (i := 1764) (by decide +kernel)⟩
set_option maxRecDepth 100000 in
theorem li_11_409 : pi_okI RX11 409 2 267 3 := ⟨mn_267, by decide +kernel, by decide +kernel, List.mem_of_getElem? (i := 1785) (by decide +kernel)⟩
set_option maxRecDepth 100000 in
theorem li_11_412 : pi_okI RX11 412 2 266 0 := ⟨mn_266, by decide +kernel, by decide +kernel, List.mem_of_getElem? (i := 1781) (by decide +kernel)⟩
set_option maxRecDepth 100000 in
theorem li_11_415 : pi_okI RX11 415 2 268 3 := ⟨mn_268, by decide +kernel, by decide +kernel, List.mem_of_getElem? (i := 1789) (by decide +kernel)⟩
set_option maxRecDepth 100000 in
theorem li_11_418 : pi_okI RX11 418 2 269 3 := ⟨mn_269, by decide +kernel, by decide +kernel, List.mem_of_getElem? (i := 1793) (by decide +kernel)⟩
set_option maxRecDepth 100000 in
theorem li_11_430 : pi_okI RX11 430 2 272 3 := ⟨mn_272, by decide +kernel, by decide +kernel, List.mem_of_getElem? (i := 1809) (by decide +kernel)⟩
set_option maxRecDepth 100000 in
theorem li_11_436 : pi_okI RX11 436 2 275 0 := ⟨mn_275, by decide +kernel, by decide +kernel, List.mem_of_getElem? (i := 1825) (by decide +kernel)⟩
set_option maxRecDepth 100000 in
theorem li_11_445 : pi_okI RX11 445 2 274 0 := ⟨mn_274, by decide +kernel, by decide +kernel, List.mem_of_getElem? (i := 1805) (by decide +kernel)⟩
set_option maxRecDepth 100000 in
theorem li_11_448 : pi_okI RX11 448 2 273 1 := ⟨mn_273, by decide +kernel, by decide +kernel, List.mem_of_getElem? (i := 1813) (by decide +kernel)⟩
set_option maxRecDepth 100000 in
theorem li_11_451 : pi_okI RX11 451 2 277 0 := ⟨mn_277, by decide +kernel, by decide +kernel, List.mem_of_getElem? (i := 1817) (by decide +kernel)⟩
set_option maxRecDepth 100000 in
theorem li_11_454 : pi_okI RX11 454 2 276 0 := ⟨mn_276, by decide +kernel, by decide +kernel, List.mem_of_getElem? (i := 1821) (by decide +kernel)⟩
set_option maxRecDepth 100000 in
theorem li_11_457 : pi_okI RX11 457 2 279 4 := ⟨mn_279, by decide +kernel, by decide +kernel, List.mem_of_getElem? (i := 1837) (by decide +kernel)⟩
set_option maxRecDepth 100000 in
theorem li_11_461 : pi_okI RX11 461 2 280 1 := ⟨mn_280, by decide +kernel, by decide +kernel, List.mem_of_getElem? (i := 1833) (by decide +kernel)⟩
theorem li_a11 : ∀ e ∈ ([(10, 2, 164, 1, 1204), (27, 4, 0, 0, 1217), (142, 2, 173, 0, 1396), (155, 0, 174, 1, 1400), (159, 0, 175, 1, 1403), (175, 2, 179, 1, 1460), (178, 2, 177, 1, 1414), (181, 2, 176, 0, 1392), (184, 0, 167, 3, 1457), (191, 2, 182, 2, 1453), (195, 2, 181, 0, 1422), (199, 2, 184, 2, 1426), (203, 2, 186, 2, 1438), (206, 2, 178, 1, 1410), (210, 2, 185, 1, 1418), (213, 2, 189, 0, 1430), (216, 2, 190, 1, 1445), (220, 2, 187, 2, 1434), (223, 2, 183, 3, 1449), (226, 2, 191, 0, 1464), (229, 0, 168, 2, 1442), (232, 2, 166, 1, 1388), (238, 2, 188, 0, 1406), (241, 2, 180, 1, 1468), (244, 2, 201, 1, 1472), (250, 0, 198, 2, 1480), (253, 0, 169, 2, 1483), (256, 2, 199, 3, 1486), (260, 0, 170, 2, 1490), (263, 2, 200, 2, 1476), (267, 2, 202, 2, 1544), (270, 2, 203, 2, 1548), (273, 2, 204, 2, 1540), (276, 2, 205, 1, 1536), (280, 2, 206, 1, 1588), (283, 2, 196, 1, 1501), (286, 2, 197, 1, 1509), (289, 2, 162, 1, 1513), (292, 2, 194, 1, 1521), (295, 0, 171, 1, 1529), (298, 2, 212, 0, 1532), (301, 2, 215, 2, 1568), (304, 2, 207, 1, 1584), (307, 2, 208, 1, 1616), (310, 2, 227, 1, 1660), (313, 2, 228, 0, 1656), (316, 2, 214, 2, 1556), (319, 2, 237, 0, 1560), (322, 2, 216, 2, 1564), (325, 2, 195, 1, 1576), (328, 2, 217, 2, 1580), (331, 2, 218, 1, 1592), (334, 2, 219, 2, 1600), (337, 2, 220, 2, 1604), (340, 2, 221, 1, 1612), (343, 2, 222, 1, 1620), (346, 2, 223, 2, 1628), (349, 2, 224, 2, 1632), (352, 2, 225, 1, 1640), (355, 2, 226, 1, 1644), (358, 2, 229, 1, 1652), (361, 2, 249, 2, 1708), (364, 2, 250, 3, 1704), (371, 2, 239, 0, 1724), (374, 2, 254, 3, 1728), (377, 2, 240, 0, 1732), (380, 2, 256, 1, 1740), (400, 2, 262, 1, 1768), (403, 2, 263, 2, 1764), (409, 2, 267, 3, 1785), (412, 2, 266, 0, 1781), (415, 2, 268, 3, 1789), (418, 2, 269, 3, 1793), (430, 2, 272, 3, 1809), (436, 2, 275, 0, 1825), (445, 2, 274, 0, 1805), (448, 2, 273, 1, 1813), (451, 2, 277, 0, 1817), (454, 2, 276, 0, 1821), (457, 2, 279, 4, 1837), (461, 2, 280, 1, 1833)] : List (Nat × Nat × Nat × Nat × Nat)), pi_okI RX11 e.1 e.2.1 e.2.2.1 e.2.2.2.1 := List.forall_mem_cons.mpr ⟨li_11_10, List.forall_mem_cons.mpr ⟨li_11_27, List.forall_mem_cons.mpr ⟨li_11_142, List.forall_mem_cons.mpr ⟨li_11_155, List.forall_mem_cons.mpr ⟨li_11_159, List.forall_mem_cons.mpr ⟨li_11_175, List.forall_mem_cons.mpr ⟨li_11_178, List.forall_mem_cons.mpr ⟨li_11_181, List.forall_mem_cons.mpr ⟨li_11_184, List.forall_mem_cons.mpr ⟨li_11_191, List.forall_mem_cons.mpr ⟨li_11_195, List.forall_mem_cons.mpr ⟨li_11_199, List.forall_mem_cons.mpr ⟨li_11_203, List.forall_mem_cons.mpr ⟨li_11_206, List.forall_mem_cons.mpr ⟨li_11_210, List.forall_mem_cons.mpr ⟨li_11_213, List.forall_mem_cons.mpr ⟨li_11_216, List.forall_mem_cons.mpr ⟨li_11_220, List.forall_mem_cons.mpr ⟨li_11_223, List.forall_mem_cons.mpr ⟨li_11_226, List.forall_mem_cons.mpr ⟨li_11_229, List.forall_mem_cons.mpr ⟨li_11_232, List.forall_mem_cons.mpr ⟨li_11_238, List.forall_mem_cons.mpr ⟨li_11_241, List.forall_mem_cons.mpr ⟨li_11_244, List.forall_mem_cons.mpr ⟨li_11_250, List.forall_mem_cons.mpr ⟨li_11_253, List.forall_mem_cons.mpr ⟨li_11_256, List.forall_mem_cons.mpr ⟨li_11_260, List.forall_mem_cons.mpr ⟨li_11_263, List.forall_mem_cons.mpr ⟨li_11_267, List.forall_mem_cons.mpr ⟨li_11_270, List.forall_mem_cons.mpr ⟨li_11_273, List.forall_mem_cons.mpr ⟨li_11_276, List.forall_mem_cons.mpr ⟨li_11_280, List.forall_mem_cons.mpr ⟨li_11_283, List.forall_mem_cons.mpr ⟨li_11_286, List.forall_mem_cons.mpr ⟨li_11_289, List.forall_mem_cons.mpr ⟨li_11_292, List.forall_mem_cons.mpr ⟨li_11_295, List.forall_mem_cons.mpr ⟨li_11_298, List.forall_mem_cons.mpr ⟨li_11_301, List.forall_mem_cons.mpr ⟨li_11_304, List.forall_mem_cons.mpr ⟨li_11_307, List.forall_mem_cons.mpr ⟨li_11_310, List.forall_mem_cons.mpr ⟨li_11_313, List.forall_mem_cons.mpr ⟨li_11_316, List.forall_mem_cons.mpr ⟨li_11_319, List.forall_mem_cons.mpr ⟨li_11_322, List.forall_mem_cons.mpr ⟨li_11_325, List.forall_mem_cons.mpr ⟨li_11_328, List.forall_mem_cons.mpr ⟨li_11_331, List.forall_mem_cons.mpr ⟨li_11_334, List.forall_mem_cons.mpr ⟨li_11_337, List.forall_mem_cons.mpr ⟨li_11_340, List.forall_mem_cons.mpr ⟨li_11_343, List.forall_mem_cons.mpr ⟨li_11_346, List.forall_mem_cons.mpr ⟨li_11_349, List.forall_mem_cons.mpr ⟨li_11_352, List.forall_mem_cons.mpr ⟨li_11_355, List.forall_mem_cons.mpr ⟨li_11_358, List.forall_mem_cons.mpr ⟨li_11_361, List.forall_mem_cons.mpr ⟨li_11_364, List.forall_mem_cons.mpr ⟨li_11_371, List.forall_mem_cons.mpr ⟨li_11_374, List.forall_mem_cons.mpr ⟨li_11_377, List.forall_mem_cons.mpr ⟨li_11_380, List.forall_mem_cons.mpr ⟨li_11_400, List.forall_mem_cons.mpr ⟨li_11_403, List.forall_mem_cons.mpr ⟨li_11_409, List.forall_mem_cons.mpr ⟨li_11_412, List.forall_mem_cons.mpr ⟨li_11_415, List.forall_mem_cons.mpr ⟨li_11_418, List.forall_mem_cons.mpr ⟨li_11_430, List.forall_mem_cons.mpr ⟨li_11_436, List.forall_mem_cons.mpr ⟨li_11_445, List.forall_mem_cons.mpr ⟨li_11_448, List.forall_mem_cons.mpr ⟨li_11_451, List.forall_mem_cons.mpr ⟨li_11_454, List.forall_mem_cons.mpr ⟨li_11_457, List.forall_mem_cons.mpr ⟨li_11_461, fun _ h => absurd h List.not_mem_nil⟩⟩⟩⟩⟩⟩⟩⟩⟩⟩⟩⟩⟩⟩⟩⟩⟩⟩⟩⟩⟩⟩⟩⟩⟩⟩⟩⟩⟩⟩⟩⟩⟩⟩⟩⟩⟩⟩⟩⟩⟩⟩⟩⟩⟩⟩⟩⟩⟩⟩⟩⟩⟩⟩⟩⟩⟩⟩⟩⟩⟩⟩⟩⟩⟩⟩⟩⟩⟩⟩⟩⟩⟩⟩⟩⟩⟩⟩⟩⟩⟩
theorem li_a12 : ∀ e ∈ ([] : List (Nat × Nat × Nat × Nat × Nat)), pi_okI "java/lang/Integer" e.1 e.2.1 e.2.2.1 e.2.2.2.1 := fun _ h => absurd h List.not_mem_nil
theorem li_all {own : Nat} {C : String} {t : List (Nat × Nat × Nat × Nat × Nat)} (hc : pi_cn[own]? = some C) (ht : pi_iT[own]? = some t) : ∀ e ∈ t, pi_okI C e.1 e.2.1 e.2.2.1 e.2.2.2.1 := by
  match own, hc, ht with
  | 0, hc, ht => cases hc; cases ht; exact li_a0
  | 1, hc, ht => cases hc; cases ht; exact li_a1
  | 2, hc, ht => cases hc; cases ht; exact li_a2
  | 3, hc, ht => cases hc; cases ht; exact li_a3
  | 4, hc, ht => cases hc; cases ht; exact li_a4
  | 5, hc, ht => cases hc; cases ht; exact li_a5
  | 6, hc, ht => cases hc; cases ht; exact li_a6
  | 7, hc, ht => cases hc; cases ht; exact li_a7
  | 8, hc, ht => cases hc; cases ht; exact li_a8
  | 9, hc, ht => cases hc; cases ht; exact li_a9
  | 10, hc, ht => cases hc; cases ht; exact li_a10
  | 11, hc, ht => cases hc; cases ht; exact li_a11
  | 12, hc, ht => cases hc; cases ht; exact li_a12
  | _ + 13, hc, _ => exact absurd hc (by simp [pi_cn])
set_option maxRecDepth 100000 in
theorem lf_0_9 : pi_okF RX0 9 0 0 := ⟨RX0, TX0, 6, rfl, by decide, List.mem_of_getElem? (i := 331) (by decide +kernel)⟩
set_option maxRecDepth 100000 in
theorem lf_0_15 : pi_okF RX0 15 0 1 := ⟨RX0, TX0, 6, rfl, by decide, List.mem_of_getElem? (i := 332) (by decide +kernel)⟩
set_option maxRecDepth 100000 in
theorem lf_0_19 : pi_okF RX0 19 0 2 := ⟨RX0, TX0, 6, rfl, by decide, List.mem_of_getElem? (i := 333) (by decide +kernel)⟩
set_option maxRecDepth 100000 in
theorem lf_0_23 : pi_okF RX0 23 0 3 := ⟨RX0, TX0, 6, rfl, by decide, List.mem_of_getElem? (i := 335) (by decide +kernel)⟩
set_option maxRecDepth 100000 in
theorem lf_0_26 : pi_okF RX0 26 0 4 := ⟨RX0, TX0, 6, rfl, by decide, List.mem_of_getElem? (i := 337) (by decide +kernel)⟩
set_option maxRecDepth 100000 in
theorem lf_0_29 : pi_okF RX0 29 0 5 := ⟨RX0, TX0, 6, rfl, by decide, List.mem_of_getElem? (i := 339) (by decide +kernel)⟩
set_option maxRecDepth 100000 in
theorem lf_0_39 : pi_okF RX0 39 9 5 := ⟨RX9, TX9, 12, rfl, by decide, List.mem_of_getElem? (i := 174) (by decide +kernel)⟩
set_option maxRecDepth 100000 in
theorem lf_0_56 : pi_okF RX0 56 9 9 := ⟨RX9, TX9, 12, rfl, by decide, List.mem_of_getElem? (i := 184) (by decide +kernel)⟩
theorem lf_a0 : ∀ e ∈ ([(9, 0, 0, 331), (15, 0, 1, 332), (19, 0, 2, 333), (23, 0, 3, 335), (26, 0, 4, 337), (29, 0, 5, 339), (39, 9, 5, 174), (56, 9, 9, 184)] : List (Nat × Nat × Nat × Nat)), pi_okF RX0 e.1 e.2.1 e.2.2.1 := List.forall_mem_cons.mpr ⟨lf_0_9, List.forall_mem_cons.mpr ⟨lf_0_15, List.forall_mem_cons.mpr ⟨lf_0_19, List.forall_mem_cons.mpr ⟨lf_0_23, List.forall_mem_cons.mpr ⟨lf_0_26, List.forall_mem_cons.mpr ⟨lf_0_29, List.forall_mem_cons.mpr ⟨lf_0_39, List.forall_mem_cons.mpr ⟨lf_0_56, fun _ h => absurd h List.not_mem_nil⟩⟩⟩⟩⟩⟩⟩⟩
set_option maxRecDepth 100000 in
theorem lf_1_10 : pi_okF RX1 10 1 0 := ⟨RX1, TX1, 4, rfl, by decide, List.mem_of_getElem? (i := 387) (by decide +kernel)⟩
set_option maxRecDepth 100000 in
theorem lf_1_18 : pi_okF RX1 18 2 0 := ⟨RX2, TX2, 2, rfl, by decide, List.mem_of_getElem? (i := 225) (by decide +kernel)⟩
set_option maxRecDepth 100000 in
theorem lf_1_25 : pi_okF RX1 25 1 1 := ⟨RX1, TX1, 4, rfl, by decide, List.mem_of_getElem? (i := 388) (by decide +kernel)⟩
set_option maxRecDepth 100000 in
theorem lf_1_32 : pi_okF RX1 32 1 2 := ⟨RX1, TX1, 4, rfl, by decide, List.mem_of_getElem? (i := 389) (by decide +kernel)⟩
set_option maxRecDepth 100000 in
theorem lf_1_46 : pi_okF RX1 46 1 3 := ⟨RX1, TX1, 4, rfl, by decide, List.mem_of_getElem? (i := 390) (by decide +kernel)⟩
theorem lf_a1 : ∀ e ∈ ([(10, 1, 0, 387), (18, 2, 0, 225), (25, 1, 1, 388), (32, 1, 2, 389), (46, 1, 3, 390)] : List (Nat × Nat × Nat × Nat)), pi_okF RX1 e.1 e.2.1 e.2.2.1 := List.forall_mem_cons.mpr ⟨lf_1_10, List.forall_mem_cons.mpr ⟨lf_1_18, List.forall_mem_cons.mpr ⟨lf_1_25, List.forall_mem_cons.mpr ⟨lf_1_32, List.forall_mem_cons.mpr ⟨lf_1_46, fun _ h => absurd h List.not_mem_nil⟩⟩⟩⟩⟩
set_option maxRecDepth 100000 in
theorem lf_2_11 : pi_okF RX2 11 2 0 := ⟨RX2, TX2, 2, rfl, by decide, List.mem_of_getElem? (i := 224) (by decide +kernel)⟩
set_option maxRecDepth 100000 in
theorem lf_2_15 : pi_okF RX2 15 2 1 := ⟨RX2, TX2, 2, rfl, by decide, List.mem_of_getElem? (i := 228) (by decide +kernel)⟩
theorem lf_a2 : ∀ e ∈ ([(11, 2, 0, 224), (15, 2, 1, 228)] : List (Nat × Nat × Nat × Nat)), pi_okF RX2 e.1 e.2.1 e.2.2.1 := List.forall_mem_cons.mpr ⟨lf_2_11, List.forall_mem_cons.mpr ⟨lf_2_15, fun _ h => absurd h List.not_mem_nil⟩⟩
set_option maxRecDepth 100000 in
theorem lf_3_9 : pi_okF RX3 9 3 0 := ⟨RX3, TX3, 2, rfl, by decide, List.mem_of_getElem? (i := 241) (by decide +kernel)⟩
set_option maxRecDepth 100000 in
theorem lf_3_15 : pi_okF RX3 15 3 1 := ⟨RX3, TX3, 2, rfl, by decide, List.mem_of_getElem? (i := 242) (by decide +kernel)⟩
set_option maxRecDepth 100000 in
theorem lf_3_30 : pi_okF RX3 30 9 5 := ⟨RX9, TX9, 12, rfl, by decide, List.mem_of_getElem? (i := 175) (by decide +kernel)⟩
set_option maxRecDepth 100000 in
theorem lf_3_42 : pi_okF RX3 42 9 9 := ⟨RX9, TX9, 12, rfl, by decide, List.mem_of_getElem? (i := 183) (by decide +kernel)⟩
set_option maxRecDepth 100000 in
theorem lf_3_84 : pi_okF RX3 84 2 0 := ⟨RX2, TX2, 2, rfl, by decide, List.mem_of_getElem? (i := 227) (by decide +kernel)⟩
set_option maxRecDepth 100000 in
theorem lf_3_95 : pi_okF RX3 95 9 8 := ⟨RX9, TX9, 12, rfl, by decide, List.mem_of_getElem? (i := 181) (by decide +kernel)⟩
theorem lf_a3 : ∀ e ∈ ([(9, 3, 0, 241), (15, 3, 1, 242), (30, 9, 5, 175), (42, 9, 9, 183), (84, 2, 0, 227), (95, 9, 8, 181)] : List (Nat × Nat × Nat × Nat)), pi_okF RX3 e.1 e.2.1 e.2.2.1 := List.forall_mem_cons.mpr ⟨lf_3_9, List.forall_mem_cons.mpr ⟨lf_3_15, List.forall_mem_cons.mpr ⟨lf_3_30, List.forall_mem_cons.mpr ⟨lf_3_42, List.forall_mem_cons.mpr ⟨lf_3_84, List.forall_mem_cons.mpr ⟨lf_3_95, fun _ h => absurd h List.not_mem_nil⟩⟩⟩⟩⟩⟩
set_option maxRecDepth 100000 in
theorem lf_4_11 : pi_okF RX4 11 4 0 := ⟨RX4, TX4, 3, rfl, by decide, List.mem_of_getElem? (i := 254) (by decide +kernel)⟩
set_option maxRecDepth 100000 in
theorem lf_4_15 : pi_okF RX4 15 4 1 := ⟨RX4, TX4, 3, rfl, by decide, List.mem_of_getElem? (i := 256) (by decide +kernel)⟩
set_option maxRecDepth 100000 in
theorem lf_4_79 : pi_okF RX4 79 4 2 := ⟨RX4, TX4, 3, rfl, by decide, List.mem_of_getElem? (i := 259) (by decide +kernel)⟩
theorem lf_a4 : ∀ e ∈ ([(11, 4, 0, 254), (15, 4, 1, 256), (79, 4, 2, 259)] : List (Nat × Nat × Nat × Nat)), pi_okF RX4 e.1 e.2.1 e.2.2.1 := List.forall_mem_cons.mpr ⟨lf_4_11, List.forall_mem_cons.mpr ⟨lf_4_15, List.forall_mem_cons.mpr ⟨lf_4_79, fun _ h => absurd h List.not_mem_nil⟩⟩⟩
set_option maxRecDepth 100000 in
theorem lf_5_13 : pi_okF RX5 13 5 0 := ⟨RX5, TX5, 3, rfl, by decide, List.mem_of_getElem? (i := 273) (by decide +kernel)⟩
set_option maxRecDepth 100000 in
theorem lf_5_17 : pi_okF RX5 17 5 2 := ⟨RX5, TX5, 3, rfl, by decide, List.mem_of_getElem? (i := 275) (by decide +kernel)⟩
set_option maxRecDepth 100000 in
theorem lf_5_21 : pi_okF RX5 21 5 1 := ⟨RX5, TX5, 3, rfl, by decide, List.mem_of_getElem? (i := 274) (by decide +kernel)⟩
theorem lf_a5 : ∀ e ∈ ([(13, 5, 0, 273), (17, 5, 2, 275), (21, 5, 1, 274)] : List (Nat × Nat × Nat × Nat)), pi_okF RX5 e.1 e.2.1 e.2.2.1 := List.forall_mem_cons.mpr ⟨lf_5_13, List.forall_mem_cons.mpr ⟨lf_5_17, List.forall_mem_cons.mpr ⟨lf_5_21, fun _ h => absurd h List.not_mem_nil⟩⟩⟩
set_option maxRecDepth 100000 in
theorem lf_6_9 : pi_okF RX6 9 6 0 := ⟨RX6, TX6, 4, rfl, by decide, List.mem_of_getElem? (i := 360) (by decide +kernel)⟩
set_option maxRecDepth 100000 in
theorem lf_6_15 : pi_okF RX6 15 6 1 := ⟨RX6, TX6, 4, rfl, by decide, List.mem_of_getElem? (i := 361) (by decide +kernel)⟩
set_option maxRecDepth 100000 in
theorem lf_6_18 : pi_okF RX6 18 6 2 := ⟨RX6, TX6, 4, rfl, by decide, List.mem_of_getElem? (i := 363) (by decide +kernel)⟩
set_option maxRecDepth 100000 in
theorem lf_6_21 : pi_okF RX6 21 6 3 := ⟨RX6, TX6, 4, rfl, by decide, List.mem_of_getElem? (i := 364) (by decide +kernel)⟩
theorem lf_a6 : ∀ e ∈ ([(9, 6, 0, 360), (15, 6, 1, 361), (18, 6, 2, 363), (21, 6, 3, 364)] : List (Nat × Nat × Nat × Nat)), pi_okF RX6 e.1 e.2.1 e.2.2.1 := List.forall_mem_cons.mpr ⟨lf_6_9, List.forall_mem_cons.mpr ⟨lf_6_15, List.forall_mem_cons.mpr ⟨lf_6_18, List.forall_mem_cons.mpr ⟨lf_6_21, fun _ h => absurd h List.not_mem_nil⟩⟩⟩⟩
set_option maxRecDepth 100000 in
theorem lf_7_11 : pi_okF RX7 11 7 0 := ⟨RX7, TX7, 5, rfl, by decide, List.mem_of_getElem? (i := 289) (by decide +kernel)⟩
set_option maxRecDepth 100000 in
theorem lf_7_15 : pi_okF RX7 15 7 1 := ⟨RX7, TX7, 5, rfl, by decide, List.mem_of_getElem? (i := 290) (by decide +kernel)⟩
set_option maxRecDepth 100000 in
theorem lf_7_18 : pi_okF RX7 18 7 2 := ⟨RX7, TX7, 5, rfl, by decide, List.mem_of_getElem? (i := 291) (by decide +kernel)⟩
set_option maxRecDepth 100000 in
theorem lf_7_21 : pi_okF RX7 21 7 3 := ⟨RX7, TX7, 5, rfl, by decide, List.mem_of_getElem? (i := 292) (by decide +kernel)⟩
set_option maxRecDepth 100000 in
theorem lf_7_24 : pi_okF RX7 24 7 4 := ⟨RX7, TX7, 5, rfl, by decide, List.mem_of_getElem? (i := 293) (by decide +kernel)⟩
set_option maxRecDepth 100000 in
theorem lf_7_36 : pi_okF RX7 36 4 0 := ⟨RX4, TX4, 3, rfl, by decide, List.mem_of_getElem? (i := 255) (by decide +kernel)⟩
set_option maxRecDepth 100000 in
theorem lf_7_55 : pi_okF RX7 55 4 1 := ⟨RX4, TX4, 3, rfl, by decide, List.mem_of_getElem? (i := 258) (by decide +kernel)⟩
theorem lf_a7 : ∀ e ∈ ([(11, 7, 0, 289), (15, 7, 1, 290), (18, 7, 2, 291), (21, 7, 3, 292), (24, 7, 4, 293), (36, 4, 0, 255), (55, 4, 1, 258)] : List (Nat × Nat × Nat × Nat)), pi_okF RX7 e.1 e.2.1 e.2.2.1 := List.forall_mem_cons.mpr ⟨lf_7_11, List.forall_mem_cons.mpr ⟨lf_7_15, List.forall_mem_cons.mpr ⟨lf_7_18, List.forall_mem_cons.mpr ⟨lf_7_21, List.forall_mem_cons.mpr ⟨lf_7_24, List.forall_mem_cons.mpr ⟨lf_7_36, List.forall_mem_cons.mpr ⟨lf_7_55, fun _ h => absurd h List.not_mem_nil⟩⟩⟩⟩⟩⟩⟩
set_option maxRecDepth 100000 in
theorem lf_8_9 : pi_okF RX8 9 8 0 := ⟨RX8, TX8, 4, rfl, by decide, List.mem_of_getElem? (i := 312) (by decide +kernel)⟩
set_option maxRecDepth 100000 in
theorem lf_8_15 : pi_okF RX8 15 8 1 := ⟨RX8, TX8, 4, rfl, by decide, List.mem_of_getElem? (i := 313) (by decide +kernel)⟩
set_option maxRecDepth 100000 in
theorem lf_8_19 : pi_okF RX8 19 8 2 := ⟨RX8, TX8, 4, rfl, by decide, List.mem_of_getElem? (i := 314) (by decide +kernel)⟩
set_option maxRecDepth 100000 in
theorem lf_8_23 : pi_okF RX8 23 8 3 := ⟨RX8, TX8, 4, rfl, by decide, List.mem_of_getElem? (i := 315) (by decide +kernel)⟩
set_option maxRecDepth 100000 in
theorem lf_8_42 : pi_okF RX8 42 9 5 := ⟨RX9, TX9, 12, rfl, by decide, List.mem_of_getElem? (i := 176) (by decide +kernel)⟩
set_option maxRecDepth 100000 in
theorem lf_8_51 : pi_okF RX8 51 9 9 := ⟨RX9, TX9, 12, rfl, by decide, List.mem_of_getElem? (i := 185) (by decide +kernel)⟩
set_option maxRecDepth 100000 in
theorem lf_8_84 : pi_okF RX8 84 9 7 := ⟨RX9, TX9, 12, rfl, by decide, List.mem_of_getElem? (i := 180) (by decide +kernel)⟩
theorem lf_a8 : ∀ e ∈ ([(9, 8, 0, 312), (15, 8, 1, 313), (19, 8, 2, 314), (23, 8, 3, 315), (42, 9, 5, 176), (51, 9, 9, 185), (84, 9, 7, 180)] : List (Nat × Nat × Nat × Nat)), pi_okF RX8 e.1 e.2.1 e.2.2.1 := List.forall_mem_cons.mpr ⟨lf_8_9, List.forall_mem_cons.mpr ⟨lf_8_15, List.forall_mem_cons.mpr ⟨lf_8_19, List.forall_mem_cons.mpr ⟨lf_8_23, List.forall_mem_cons.mpr ⟨lf_8_42, List.forall_mem_cons.mpr ⟨lf_8_51, List.forall_mem_cons.mpr ⟨lf_8_84, fun _ h => absurd h List.not_mem_nil⟩⟩⟩⟩⟩⟩⟩
set_option maxRecDepth 100000 in
theorem lf_9_9 : pi_okF RX9 9 9 0 := ⟨RX9, TX9, 12, rfl, by decide, List.mem_of_getElem? (i := 168) (by decide +kernel)⟩
set_option maxRecDepth 100000 in
theorem lf_9_15 : pi_okF RX9 15 9 1 := ⟨RX9, TX9, 12, rfl, by decide, List.mem_of_getElem? (i := 169) (by decide +kernel)⟩
set_option maxRecDepth 100000 in
theorem lf_9_33 : pi_okF RX9 33 9 2 := ⟨RX9, TX9, 12, rfl, by decide, List.mem_of_getElem? (i := 171) (by decide +kernel)⟩
set_option maxRecDepth 100000 in
theorem lf_9_37 : pi_okF RX9 37 9 3 := ⟨RX9, TX9, 12, rfl, by decide, List.mem_of_getElem? (i := 172) (by decide +kernel)⟩
set_option maxRecDepth 100000 in
theorem lf_9_40 : pi_okF RX9 40 9 4 := ⟨RX9, TX9, 12, rfl, by decide, List.mem_of_getElem? (i := 173) (by decide +kernel)⟩
set_option maxRecDepth 100000 in
theorem lf_9_43 : pi_okF RX9 43 9 10 := ⟨RX9, TX9, 12, rfl, by decide, List.mem_of_getElem? (i := 187) (by decide +kernel)⟩
set_option maxRecDepth 100000 in
theorem lf_9_46 : pi_okF RX9 46 9 11 := ⟨RX9, TX9, 12, rfl, by decide, List.mem_of_getElem? (i := 189) (by decide +kernel)⟩
set_option maxRecDepth 100000 in
theorem lf_9_56 : pi_okF RX9 56 9 7 := ⟨RX9, TX9, 12, rfl, by decide, List.mem_of_getElem? (i := 179) (by decide +kernel)⟩
set_option maxRecDepth 100000 in
theorem lf_9_59 : pi_okF RX9 59 9 8 := ⟨RX9, TX9, 12, rfl, by decide, List.mem_of_getElem? (i := 182) (by decide +kernel)⟩
set_option maxRecDepth 100000 in
theorem lf_9_63 : pi_okF RX9 63 9 9 := ⟨RX9, TX9, 12, rfl, by decide, List.mem_of_getElem? (i := 186) (by decide +kernel)⟩
set_option maxRecDepth 100000 in
theorem lf_9_66 : pi_okF RX9 66 9 5 := ⟨RX9, TX9, 12, rfl, by decide, List.mem_of_getElem? (i := 177) (by decide +kernel)⟩
set_option maxRecDepth 100000 in
theorem lf_9_75 : pi_okF RX9 75 9 6 := ⟨RX9, TX9, 12, rfl, by decide, List.mem_of_getElem? (i := 178) (by decide +kernel)⟩
theorem lf_a9 : ∀ e ∈ ([(9, 9, 0, 168), (15, 9, 1, 169), (33, 9, 2, 171), (37, 9, 3, 172), (40, 9, 4, 173), (43, 9, 10, 187), (46, 9, 11, 189), (56, 9, 7, 179), (59, 9, 8, 182), (63, 9, 9, 186), (66, 9, 5, 177), (75, 9, 6, 178)] : List (Nat × Nat × Nat × Nat)), pi_okF RX9 e.1 e.2.1 e.2.2.1 := List.forall_mem_cons.mpr ⟨lf_9_9, List.forall_mem_cons.mpr ⟨lf_9_15, List.forall_mem_cons.mpr ⟨lf_9_33, List.forall_mem_cons.mpr ⟨lf_9_37, List.forall_mem_cons.mpr ⟨lf_9_40, List.forall_mem_cons.mpr ⟨lf_9_43, List.forall_mem_cons.mpr ⟨lf_9_46, List.forall_mem_cons.mpr ⟨lf_9_56, List.forall_mem_cons.mpr ⟨lf_9_59, List.forall_mem_cons.mpr ⟨lf_9_63, List.forall_mem_cons.mpr ⟨lf_9_66, List.forall_mem_cons.mpr ⟨lf_9_75, fun _ h => absurd h List.not_mem_nil⟩⟩⟩⟩⟩⟩⟩⟩⟩⟩⟩⟩
set_option maxRecDepth 100000 in
theorem lf_10_12 : pi_okF RX10 12 10 0 := ⟨RX10, TX10, 19, rfl, by decide, List.mem_of_getElem? (i := 401) (by decide +kernel)⟩
set_option maxRecDepth 100000 in
theorem lf_10_19 : pi_okF RX10 19 10 1 := ⟨RX10, TX10, 19, rfl, by decide, List.mem_of_getElem? (i := 402) (by decide +kernel)⟩
set_option maxRecDepth 100000 in
theorem lf_10_23 : pi_okF RX10 23 10 2 := ⟨RX10, TX10, 19, rfl, by decide, List.mem_of_getElem? (i := 403) (by decide +kernel)⟩
set_option maxRecDepth 100000 in
theorem lf_10_31 : pi_okF RX10 31 10 3 := ⟨RX10, TX10, 19, rfl, by decide, List.mem_of_getElem? (i := 404) (by decide +kernel)⟩
set_option maxRecDepth 100000 in
theorem lf_10_37 : pi_okF RX10 37 2 0 := ⟨RX2, TX2, 2, rfl, by decide, List.mem_of_getElem? (i := 226) (by decide +kernel)⟩
set_option maxRecDepth 100000 in
theorem lf_10_44 : pi_okF RX10 44 10 4 := ⟨RX10, TX10, 19, rfl, by decide, List.mem_of_getElem? (i := 405) (by decide +kernel)⟩
set_option maxRecDepth 100000 in
theorem lf_10_48 : pi_okF RX10 48 10 5 := ⟨RX10, TX10, 19, rfl, by decide, List.mem_of_getElem? (i := 406) (by decide +kernel)⟩
set_option maxRecDepth 100000 in
theorem lf_10_54 : pi_okF RX10 54 10 6 := ⟨RX10, TX10, 19, rfl, by decide, List.mem_of_getElem? (i := 407) (by decide +kernel)⟩
set_option maxRecDepth 100000 in
theorem lf_10_61 : pi_okF RX10 61 10 7 := ⟨RX10, TX10, 19, rfl, by decide, List.mem_of_getElem? (i := 408) (by decide +kernel)⟩
set_option maxRecDepth 100000 in
theorem lf_10_65 : pi_okF RX10 65 10 8 := ⟨RX10, TX10, 19, rfl, by decide, List.mem_of_getElem? (i := 409) (by decide +kernel)⟩
set_option maxRecDepth 100000 in
theorem lf_10_73 : pi_okF RX10 73 10 9 := ⟨RX10, TX10, 19, rfl, by decide, List.mem_of_getElem? (i := 410) (by decide +kernel)⟩
set_option maxRecDepth 100000 in
theorem lf_10_80 : pi_okF RX10 80 10 10 := ⟨RX10, TX10, 19, rfl, by decide, List.mem_of_getElem? (i := 411) (by decide +kernel)⟩
set_option maxRecDepth 100000 in
theorem lf_10_87 : pi_okF RX10 87 10 11 := ⟨RX10, TX10, 19, rfl, by decide, List.mem_of_getElem? (i := 412) (by decide +kernel)⟩
set_option maxRecDepth 100000 in
theorem lf_10_91 : pi_okF RX10 91 10 12 := ⟨RX10, TX10, 19, rfl, by decide, List.mem_of_getElem? (i := 413) (by decide +kernel)⟩
set_option maxRecDepth 100000 in
theorem lf_10_97 : pi_okF RX10 97 10 13 := ⟨RX10, TX10, 19, rfl, by decide, List.mem_of_getElem? (i := 414) (by decide +kernel)⟩
set_option maxRecDepth 100000 in
theorem lf_10_101 : pi_okF RX10 101 10 14 := ⟨RX10, TX10, 19, rfl, by decide, List.mem_of_getElem? (i := 415) (by decide +kernel)⟩
set_option maxRecDepth 100000 in
theorem lf_10_104 : pi_okF RX10 104 10 15 := ⟨RX10, TX10, 19, rfl, by decide, List.mem_of_getElem? (i := 416) (by decide +kernel)⟩
set_option maxRecDepth 100000 in
theorem lf_10_107 : pi_okF RX10 107 10 16 := ⟨RX10, TX10, 19, rfl, by decide, List.mem_of_getElem? (i := 417) (by decide +kernel)⟩
set_option maxRecDepth 100000 in
theorem lf_10_111 : pi_okF RX10 111 10 17 := ⟨RX10, TX10, 19, rfl, by decide, List.mem_of_getElem? (i := 418) (by decide +kernel)⟩
set_option maxRecDepth 100000 in
theorem lf_10_115 : pi_okF RX10 115 10 18 := ⟨RX10, TX10, 19, rfl, by decide, List.mem_of_getElem? (i := 419) (by decide +kernel)⟩
set_option maxRecDepth 100000 in
theorem lf_10_118 : pi_okF RX10 118 9 2 := ⟨RX9, TX9, 12, rfl, by decide, List.mem_of_getElem? (i := 170) (by decide +kernel)⟩
set_option maxRecDepth 100000 in
theorem lf_10_129 : pi_okF RX10 129 9 11 := ⟨RX9, TX9, 12, rfl, by decide, List.mem_of_getElem? (i := 190) (by decide +kernel)⟩
set_option maxRecDepth 100000 in
theorem lf_10_145 : pi_okF RX10 145 9 10 := ⟨RX9, TX9, 12, rfl, by decide, List.mem_of_getElem? (i := 188) (by decide +kernel)⟩
set_option maxRecDepth 100000 in
theorem lf_10_163 : pi_okF RX10 163 4 1 := ⟨RX4, TX4, 3, rfl, by decide, List.mem_of_getElem? (i := 257) (by decide +kernel)⟩
set_option maxRecDepth 100000 in
theorem lf_10_237 : pi_okF RX10 237 6 3 := ⟨RX6, TX6, 4, rfl, by decide, List.mem_of_getElem? (i := 365) (by decide +kernel)⟩
set_option maxRecDepth 100000 in
theorem lf_10_240 : pi_okF RX10 240 6 1 := ⟨RX6, TX6, 4, rfl, by decide, List.mem_of_getElem? (i := 362) (by decide +kernel)⟩
set_option maxRecDepth 100000 in
theorem lf_10_290 : pi_okF RX10 290 7 4 := ⟨RX7, TX7, 5, rfl, by decide, List.mem_of_getElem? (i := 294) (by decide +kernel)⟩
set_option maxRecDepth 100000 in
theorem lf_10_304 : pi_okF RX10 304 1 3 := ⟨RX1, TX1, 4, rfl, by decide, List.mem_of_getElem? (i := 391) (by decide +kernel)⟩
set_option maxRecDepth 100000 in
theorem lf_10_317 : pi_okF RX10 317 0 5 := ⟨RX0, TX0, 6, rfl, by decide, List.mem_of_getElem? (i := 340) (by decide +kernel)⟩
set_option maxRecDepth 100000 in
theorem lf_10_320 : pi_okF RX10 320 0 2 := ⟨RX0, TX0, 6, rfl, by decide, List.mem_of_getElem? (i := 334) (by decide +kernel)⟩
set_option maxRecDepth 100000 in
theorem lf_10_323 : pi_okF RX10 323 0 3 := ⟨RX0, TX0, 6, rfl, by decide, List.mem_of_getElem? (i := 336) (by decide +kernel)⟩
set_option maxRecDepth 100000 in
theorem lf_10_326 : pi_okF RX10 326 0 4 := ⟨RX0, TX0, 6, rfl, by decide, List.mem_of_getElem? (i := 338) (by decide +kernel)⟩
theorem lf_a10 : ∀ e ∈ ([(12, 10, 0, 401), (19, 10, 1, 402), (23, 10, 2, 403), (31, 10, 3, 404), (37, 2, 0, 226), (44, 10, 4, 405), (48, 10, 5, 406), (54, 10, 6, 407), (61, 10, 7, 408), (65, 10, 8, 409), (73, 10, 9, 410), (80, 10, 10, 411), (87, 10, 11, 412), (91, 10, 12, 413), (97, 10, 13, 414), (101, 10, 14, 415), (104, 10, 15, 416), (107, 10, 16, 417), (111, 10, 17, 418), (115, 10, 18, 419), (118, 9, 2, 170), (129, 9, 11, 190), (145, 9, 10, 188), (163, 4, 1, 257), (237, 6, 3, 365), (240, 6, 1, 362), (290, 7, 4, 294), (304, 1, 3, 391), (317, 0, 5, 340), (320, 0, 2, 334), (323, 0, 3, 336), (326, 0, 4, 338)] : List (Nat × Nat × Nat × Nat)), pi_okF RX10 e.1 e.2.1 e.2.2.1 := List.forall_mem_cons.mpr ⟨lf_10_12, List.forall_mem_cons.mpr ⟨lf_10_19, List.forall_mem_cons.mpr ⟨lf_10_23, List.forall_mem_cons.mpr ⟨lf_10_31, List.forall_mem_cons.mpr ⟨lf_10_37, List.forall_mem_cons.mpr ⟨lf_10_44, List.forall_mem_cons.mpr ⟨lf_10_48, List.forall_mem_cons.mpr ⟨lf_10_54, List.forall_mem_cons.mpr ⟨lf_10_61, List.forall_mem_cons.mpr ⟨lf_10_65, List.forall_mem_cons.mpr ⟨lf_10_73, List.forall_mem_cons.mpr ⟨lf_10_80, List.forall_mem_cons.mpr ⟨lf_10_87, List.forall_mem_cons.mpr ⟨lf_10_91, List.forall_mem_cons.mpr ⟨lf_10_97, List.forall_mem_cons.mpr ⟨lf_10_101, List.forall_mem_cons.mpr ⟨lf_10_104, List.forall_mem_cons.mpr ⟨lf_10_107, List.forall_mem_cons.mpr ⟨lf_10_111, List.forall_mem_cons.mpr ⟨lf_10_115, List.forall_mem_cons.mpr ⟨lf_10_118, List.forall_mem_cons.mpr ⟨lf_10_129, List.forall_mem_cons.mpr ⟨lf_10_145, List.forall_mem_cons.mpr ⟨lf_10_163, List.forall_mem_cons.mpr ⟨lf_10_237, List.forall_mem_cons.mpr ⟨lf_10_240, List.forall_mem_cons.mpr ⟨lf_10_290, List.forall_mem_cons.mpr ⟨lf_10_304, List.forall_mem_cons.mpr ⟨lf_10_317, List.forall_mem_cons.mpr ⟨lf_10_320, List.forall_mem_cons.mpr ⟨lf_10_323, List.forall_mem_cons.mpr ⟨lf_10_326, fun _ h => absurd h List.not_mem_nil⟩⟩⟩⟩⟩⟩⟩⟩⟩⟩⟩⟩⟩⟩⟩⟩⟩⟩⟩⟩⟩⟩⟩⟩⟩⟩⟩⟩⟩⟩⟩⟩
set_option maxRecDepth 100000 in
theorem lf_11_1 : pi_okF RX11 1 11 0 := ⟨RX11, TX11, 45, rfl, by decide, List.mem_of_getElem? (i := 1247) (by decide +kernel)⟩
set_option maxRecDepth 100000 in
theorem lf_11_7 : pi_okF RX11 7 11 2 := ⟨RX11, TX11, 45, rfl, by decide, List.mem_of_getElem? (i := 1249) (by decide +kernel)⟩
set_option maxRecDepth 100000 in
theorem lf_11_14 : pi_okF RX11 14 11 1 := ⟨RX11, TX11, 45, rfl, by decide, List.mem_of_getElem? (i := 1248) (by decide +kernel)⟩
set_option maxRecDepth 100000 in
theorem lf_11_18 : pi_okF RX11 18 11 3 := ⟨RX11, TX11, 45, rfl, by decide, List.mem_of_getElem? (i := 1250) (by decide +kernel)⟩
set_option maxRecDepth 100000 in
theorem lf_11_21 : pi_okF RX11 21 11 4 := ⟨RX11, TX11, 45, rfl, by decide, List.mem_of_getElem? (i := 1251) (by decide +kernel)⟩
set_option maxRecDepth 100000 in
theorem lf_11_24 : pi_okF RX11 24 11 5 := ⟨RX11, TX11, 45, rfl, by decide, List.mem_of_getElem? (i := 1252) (by decide +kernel)⟩
set_option maxRecDepth 100000 in
theorem lf_11_33 : pi_okF RX11 33 11 6 := ⟨RX11, TX11, 45, rfl, by decide, List.mem_of_getElem? (i := 1253) (by decide +kernel)⟩
set_option maxRecDepth 100000 in
theorem lf_11_37 : pi_okF RX11 37 11 7 := ⟨RX11, TX11, 45, rfl, by decide, List.mem_of_getElem? (i := 1254) (by decide +kernel)⟩
set_option maxRecDepth 100000 in
theorem lf_11_40 : pi_okF RX11 40 11 8 := ⟨RX11, TX11, 45, rfl, by decide, List.mem_of_getElem? (i := 1255) (by decide +kernel)⟩
set_option maxRecDepth 100000 in
theorem lf_11_43 : pi_okF RX11 43 11 9 := ⟨RX11, TX11, 45, rfl, by decide, List.mem_of_getElem? (i := 1256) (by decide +kernel)⟩
set_option maxRecDepth 100000 in
theorem lf_11_47 : pi_okF RX11 47 11 10 := ⟨RX11, TX11, 45, rfl, by decide, List.mem_of_getElem? (i := 1257) (by decide +kernel)⟩
set_option maxRecDepth 100000 in
theorem lf_11_50 : pi_okF RX11 50 11 20 := ⟨RX11, TX11, 45, rfl, by decide, List.mem_of_getElem? (i := 1267) (by decide +kernel)⟩
set_option maxRecDepth 100000 in
theorem lf_11_53 : pi_okF RX11 53 11 21 := ⟨RX11, TX11, 45, rfl, by decide, List.mem_of_getElem? (i := 1268) (by decide +kernel)⟩
set_option maxRecDepth 100000 in
theorem lf_11_56 : pi_okF RX11 56 11 23 := ⟨RX11, TX11, 45, rfl, by decide, List.mem_of_getElem? (i := 1270) (by decide +kernel)⟩
set_option maxRecDepth 100000 in
theorem lf_11_59 : pi_okF RX11 59 11 24 := ⟨RX11, TX11, 45, rfl, by decide, List.mem_of_getElem? (i := 1271) (by decide +kernel)⟩
set_option maxRecDepth 100000 in
theorem lf_11_62 : pi_okF RX11 62 11 25 := ⟨RX11, TX11, 45, rfl, by decide, List.mem_of_getElem? (i := 1272) (by decide +kernel)⟩
set_option maxRecDepth 100000 in
theorem lf_11_65 : pi_okF RX11 65 11 33 := ⟨RX11, TX11, 45, rfl, by decide, List.mem_of_getElem? (i := 1280) (by decide +kernel)⟩
set_option maxRecDepth 100000 in
theorem lf_11_68 : pi_okF RX11 68 11 35 := ⟨RX11, TX11, 45, rfl, by decide, List.mem_of_getElem? (i := 1282) (by decide +kernel)⟩
set_option maxRecDepth 100000 in
theorem lf_11_71 : pi_okF RX11 71 11 41 := ⟨RX11, TX11, 45, rfl, by decide, List.mem_of_getElem? (i := 1288) (by decide +kernel)⟩
set_option maxRecDepth 100000 in
theorem lf_11_75 : pi_okF RX11 75 11 42 := ⟨RX11, TX11, 45, rfl, by decide, List.mem_of_getElem? (i := 1289) (by decide +kernel)⟩
set_option maxRecDepth 100000 in
theorem lf_11_78 : pi_okF RX11 78 11 43 := ⟨RX11, TX11, 45, rfl, by decide, List.mem_of_getElem? (i := 1290) (by decide +kernel)⟩
set_option maxRecDepth 100000 in
theorem lf_11_81 : pi_okF RX11 81 11 44 := ⟨RX11, TX11, 45, rfl, by decide, List.mem_of_getElem? (i := 1291) (by decide +kernel)⟩
set_option maxRecDepth 100000 in
theorem lf_11_146 : pi_okF RX11 146 11 12 := ⟨RX11, TX11, 45, rfl, by decide, List.mem_of_getElem? (i := 1259) (by decide +kernel)⟩
set_option maxRecDepth 100000 in
theorem lf_11_149 : pi_okF RX11 149 11 13 := ⟨RX11, TX11, 45, rfl, by decide, List.mem_of_getElem? (i := 1260) (by decide +kernel)⟩
set_option maxRecDepth 100000 in
theorem lf_11_152 : pi_okF RX11 152 11 11 := ⟨RX11, TX11, 45, rfl, by decide, List.mem_of_getElem? (i := 1258) (by decide +kernel)⟩
set_option maxRecDepth 100000 in
theorem lf_11_162 : pi_okF RX11 162 11 14 := ⟨RX11, TX11, 45, rfl, by decide, List.mem_of_getElem? (i := 1261) (by decide +kernel)⟩
set_option maxRecDepth 100000 in
theorem lf_11_165 : pi_okF RX11 165 11 17 := ⟨RX11, TX11, 45, rfl, by decide, List.mem_of_getElem? (i := 1264) (by decide +kernel)⟩
set_option maxRecDepth 100000 in
theorem lf_11_169 : pi_okF RX11 169 11 15 := ⟨RX11, TX11, 45, rfl, by decide, List.mem_of_getElem? (i := 1262) (by decide +kernel)⟩
set_option maxRecDepth 100000 in
theorem lf_11_172 : pi_okF RX11 172 11 16 := ⟨RX11, TX11, 45, rfl, by decide, List.mem_of_getElem? (i := 1263) (by decide +kernel)⟩
set_option maxRecDepth 100000 in
theorem lf_11_188 : pi_okF RX11 188 11 18 := ⟨RX11, TX11, 45, rfl, by decide, List.mem_of_getElem? (i := 1265) (by decide +kernel)⟩
set_option maxRecDepth 100000 in
theorem lf_11_235 : pi_okF RX11 235 11 19 := ⟨RX11, TX11, 45, rfl, by decide, List.mem_of_getElem? (i := 1266) (by decide +kernel)⟩
set_option maxRecDepth 100000 in
theorem lf_11_247 : pi_okF RX11 247 11 22 := ⟨RX11, TX11, 45, rfl, by decide, List.mem_of_getElem? (i := 1269) (by decide +kernel)⟩
set_option maxRecDepth 100000 in
theorem lf_11_368 : pi_okF RX11 368 11 26 := ⟨RX11, TX11, 45, rfl, by decide, List.mem_of_getElem? (i := 1273) (by decide +kernel)⟩
set_option maxRecDepth 100000 in
theorem lf_11_383 : pi_okF RX11 383 11 28 := ⟨RX11, TX11, 45, rfl, by decide, List.mem_of_getElem? (i := 1275) (by decide +kernel)⟩
set_option maxRecDepth 100000 in
theorem lf_11_387 : pi_okF RX11 387 11 27 := ⟨RX11, TX11, 45, rfl, by decide, List.mem_of_getElem? (i := 1274) (by decide +kernel)⟩
set_option maxRecDepth 100000 in
theorem lf_11_390 : pi_okF RX11 390 11 30 := ⟨RX11, TX11, 45, rfl, by decide, List.mem_of_getElem? (i := 1277) (by decide +kernel)⟩
set_option maxRecDepth 100000 in
theorem lf_11_393 : pi_okF RX11 393 11 29 := ⟨RX11, TX11, 45, rfl, by decide, List.mem_of_getElem? (i := 1276) (by decide +kernel)⟩
set_option maxRecDepth 100000 in
theorem lf_11_396 : pi_okF RX11 396 11 31 := ⟨RX11, TX11, 45, rfl, by decide, List.mem_of_getElem? (i := 1278) (by decide +kernel)⟩
set_option maxRecDepth 100000 in
theorem lf_11_406 : pi_okF RX11 406 11 32 := ⟨RX11, TX11, 45, rfl, by decide, List.mem_of_getElem? (i := 1279) (by decide +kernel)⟩
set_option maxRecDepth 100000 in
theorem lf_11_421 : pi_okF RX11 421 11 34 := ⟨RX11, TX11, 45, rfl, by decide, List.mem_of_getElem? (i := 1281) (by decide +kernel)⟩
set_option maxRecDepth 100000 in
theorem lf_11_424 : pi_okF RX11 424 11 36 := ⟨RX11, TX11, 45, rfl, by decide, List.mem_of_getElem? (i := 1283) (by decide +kernel)⟩
set_option maxRecDepth 100000 in
theorem lf_11_427 : pi_okF RX11 427 11 38 := ⟨RX11, TX11, 45, rfl, by decide, List.mem_of_getElem? (i := 1285) (by decide +kernel)⟩
set_option maxRecDepth 100000 in
theorem lf_11_433 : pi_okF RX11 433 11 39 := ⟨RX11, TX11, 45, rfl, by decide, List.mem_of_getElem? (i := 1286) (by decide +kernel)⟩
set_option maxRecDepth 100000 in
theorem lf_11_439 : pi_okF RX11 439 11 37 := ⟨RX11, TX11, 45, rfl, by decide, List.mem_of_getElem? (i := 1284) (by decide +kernel)⟩
set_option maxRecDepth 100000 in
theorem lf_11_442 : pi_okF RX11 442 11 40 := ⟨RX11, TX11, 45, rfl, by decide, List.mem_of_getElem? (i := 1287) (by decide +kernel)⟩
theorem lf_a11 : ∀ e ∈ ([(1, 11, 0, 1247), (7, 11, 2, 1249), (14, 11, 1, 1248), (18, 11, 3, 1250), (21, 11, 4, 1251), (24, 11, 5, 1252), (33, 11, 6, 1253), (37, 11, 7, 1254), (40, 11, 8, 1255), (43, 11, 9, 1256), (47, 11, 10, 1257), (50, 11, 20, 1267), (53, 11, 21, 1268), (56, 11, 23, 1270), (59, 11, 24, 1271), (62, 11, 25, 1272), (65, 11, 33, 1280), (68, 11, 35, 1282), (71, 11, 41, 1288), (75, 11, 42, 1289), (78, 11, 43, 1290), (81, 11, 44, 1291), (146, 11, 12, 1259), (149, 11, 13, 1260), (152, 11, 11, 1258), (162, 11, 14, 1261), (165, 11, 17, 1264), (169, 11, 15, 1262), (172, 11, 16, 1263), (188, 11, 18, 1265), (235, 11, 19, 1266), (247, 11, 22, 1269), (368, 11, 26, 1273), (383, 11, 28, 1275), (387, 11, 27, 1274), (390, 11, 30, 1277), (393, 11, 29, 1276), (396, 11, 31, 1278), (406, 11, 32, 1279), (421, 11, 34, 1281), (424, 11, 36, 1283), (427, 11, 38, 1285), (433, 11, 39, 1286), (439, 11, 37, 1284), (442, 11, 40, 1287)] : List (Nat × Nat × Nat × Nat)), pi_okF RX11 e.1 e.2.1 e.2.2.1 := List.forall_mem_cons.mpr ⟨lf_11_1, List.forall_mem_cons.mpr ⟨lf_11_7, List.forall_mem_cons.mpr ⟨lf_11_14, List.forall_mem_cons.mpr ⟨lf_11_18, List.forall_mem_cons.mpr ⟨lf_11_21, List.forall_mem_cons.mpr ⟨lf_11_24, List.forall_mem_cons.mpr ⟨lf_11_33, List.forall_mem_cons.mpr ⟨lf_11_37, List.forall_mem_cons.mpr ⟨lf_11_40, List.forall_mem_cons.mpr ⟨lf_11_43, List.forall_mem_cons.mpr ⟨lf_11_47, List.forall_mem_cons.mpr ⟨lf_11_50, List.forall_mem_cons.mpr ⟨lf_11_53, List.forall_mem_cons.mpr ⟨lf_11_56, List.forall_mem_cons.mpr ⟨lf_11_59, List.forall_mem_cons.mpr ⟨lf_11_62, List.forall_mem_cons.mpr ⟨lf_11_65, List.forall_mem_cons.mpr ⟨lf_11_68, List.forall_mem_cons.mpr ⟨lf_11_71, List.forall_mem_cons.mpr ⟨lf_11_75, List.forall_mem_cons.mpr ⟨lf_11_78, List.forall_mem_cons.mpr ⟨lf_11_81, List.forall_mem_cons.mpr ⟨lf_11_146, List.forall_mem_cons.mpr ⟨lf_11_149, List.forall_mem_cons.mpr ⟨lf_11_152, List.forall_mem_cons.mpr ⟨lf_11_162, List.forall_mem_cons.mpr ⟨lf_11_165, List.forall_mem_cons.mpr ⟨lf_11_169, List.forall_mem_cons.mpr ⟨lf_11_172, List.forall_mem_cons.mpr ⟨lf_11_188, List.forall_mem_cons.mpr ⟨lf_11_235, List.forall_mem_cons.mpr ⟨lf_11_247, List.forall_mem_cons.mpr ⟨lf_11_368, List.forall_mem_cons.mpr ⟨lf_11_383, List.forall_mem_cons.mpr ⟨lf_11_387, List.forall_mem_cons.mpr ⟨lf_11_390, List.forall_mem_cons.mpr ⟨lf_11_393, List.forall_mem_cons.mpr ⟨lf_11_396, List.forall_mem_cons.mpr ⟨lf_11_406, List.forall_mem_cons.mpr ⟨lf_11_421, List.forall_mem_cons.mpr ⟨lf_11_424, List.forall_mem_cons.mpr ⟨lf_11_427, List.forall_mem_cons.mpr ⟨lf_11_433, List.forall_mem_cons.mpr ⟨lf_11_439, List.forall_mem_cons.mpr ⟨lf_11_442, fun _ h => absurd h List.not_mem_nil⟩⟩⟩⟩⟩⟩⟩⟩⟩⟩⟩⟩⟩⟩⟩⟩⟩⟩⟩⟩⟩⟩⟩⟩⟩⟩⟩⟩⟩⟩⟩⟩⟩⟩⟩⟩⟩⟩⟩⟩⟩⟩⟩⟩⟩
theorem lf_a12 : ∀ e ∈ ([] : List (Nat × Nat × Nat × Nat)), pi_okF "java/lang/Integer" e.1 e.2.1 e.2.2.1 := fun _ h => absurd h List.not_mem_nil
theorem lf_all {own : Nat} {C : String} {t : List (Nat × Nat × Nat × Nat)} (hc : pi_cn[own]? = some C) (ht : pi_fT[own]? = some t) : ∀ e ∈ t, pi_okF C e.1 e.2.1 e.2.2.1 := by
  match own, hc, ht with
  | 0, hc, ht => cases hc; cases ht; exact lf_a0
  | 1, hc, ht => cases hc; cases ht; exact lf_a1
  | 2, hc, ht => cases hc; cases ht; exact lf_a2
  | 3, hc, ht => cases hc; cases ht; exact lf_a3
  | 4, hc, ht => cases hc; cases ht; exact lf_a4
  | 5, hc, ht => cases hc; cases ht; exact lf_a5
  | 6, hc, ht => cases hc; cases ht; exact lf_a6
  | 7, hc, ht => cases hc; cases ht; exact lf_a7
  | 8, hc, ht => cases hc; cases ht; exact lf_a8
  | 9, hc, ht => cases hc; cases ht; exact lf_a9
  | 10, hc, ht => cases hc; cases ht; exact lf_a10
  | 11, hc, ht => cases hc; cases ht; exact lf_a11
  | 12, hc, ht => cases hc; cases ht; exact lf_a12
  | _ + 13, hc, _ => exact absurd hc (by simp [pi_cn])
theorem ln_a0 : ∀ e ∈ ([] : List (Nat × Nat × Nat)), pi_okN RX0 e.1 e.2.1 := fun _ h => absurd h List.not_mem_nil
set_option maxRecDepth 100000 in
theorem ln_1_7 : pi_okN RX1 7 2 := ⟨RX2, TX2, 2, rfl, List.mem_of_getElem? (i := 381) (by decide +kernel)⟩
set_option maxRecDepth 100000 in
theorem ln_1_16 : pi_okN RX1 16 4 := ⟨RX4, TX4, 3, rfl, List.mem_of_getElem? (i := 383) (by decide +kernel)⟩
set_option maxRecDepth 100000 in
theorem ln_1_29 : pi_okN RX1 29 7 := ⟨RX7, TX7, 5, rfl, List.mem_of_getElem? (i := 385) (by decide +kernel)⟩
theorem ln_a1 : ∀ e ∈ ([(7, 2, 381), (16, 4, 383), (29, 7, 385)] : List (Nat × Nat × Nat)), pi_okN RX1 e.1 e.2.1 := List.forall_mem_cons.mpr ⟨ln_1_7, List.forall_mem_cons.mpr ⟨ln_1_16, List.forall_mem_cons.mpr ⟨ln_1_29, fun _ h => absurd h List.not_mem_nil⟩⟩⟩
theorem ln_a2 : ∀ e ∈ ([] : List (Nat × Nat × Nat)), pi_okN RX2 e.1 e.2.1 := fun _ h => absurd h List.not_mem_nil
theorem ln_a3 : ∀ e ∈ ([] : List (Nat × Nat × Nat)), pi_okN RX3 e.1 e.2.1 := fun _ h => absurd h List.not_mem_nil
theorem ln_a4 : ∀ e ∈ ([] : List (Nat × Nat × Nat)), pi_okN RX4 e.1 e.2.1 := fun _ h => absurd h List.not_mem_nil
theorem ln_a5 : ∀ e ∈ ([] : List (Nat × Nat × Nat)), pi_okN RX5 e.1 e.2.1 := fun _ h => absurd h List.not_mem_nil
theorem ln_a6 : ∀ e ∈ ([] : List (Nat × Nat × Nat)), pi_okN RX6 e.1 e.2.1 := fun _ h => absurd h List.not_mem_nil
theorem ln_a7 : ∀ e ∈ ([] : List (Nat × Nat × Nat)), pi_okN RX7 e.1 e.2.1 := fun _ h => absurd h List.not_mem_nil
theorem ln_a8 : ∀ e ∈ ([] : List (Nat × Nat × Nat)), pi_okN RX8 e.1 e.2.1 := fun _ h => absurd h List.not_mem_nil
theorem ln_a9 : ∀ e ∈ ([] : List (Nat × Nat × Nat)), pi_okN RX9 e.1 e.2.1 := fun _ h => absurd h List.not_mem_nil
set_option maxRecDepth 100000 in
theorem ln_10_9 : pi_okN RX10 9 9 := ⟨RX9, TX9, 12, rfl, List.mem_of_getElem? (i := 112) (by decide +kernel)⟩
set_option maxRecDepth 100000 in
theorem ln_10_16 : pi_okN RX10 16 2 := ⟨RX2, TX2, 2, rfl, List.mem_of_getElem? (i := 218) (by decide +kernel)⟩
set_option maxRecDepth 100000 in
theorem ln_10_26 : pi_okN RX10 26 3 := ⟨RX3, TX3, 2, rfl, List.mem_of_getElem? (i := 235) (by decide +kernel)⟩
set_option maxRecDepth 100000 in
theorem ln_10_35 : pi_okN RX10 35 4 := ⟨RX4, TX4, 3, rfl, List.mem_of_getElem? (i := 248) (by decide +kernel)⟩
set_option maxRecDepth 100000 in
theorem ln_10_51 : pi_okN RX10 51 5 := ⟨RX5, TX5, 3, rfl, List.mem_of_getElem? (i := 267) (by decide +kernel)⟩
set_option maxRecDepth 100000 in
theorem ln_10_58 : pi_okN RX10 58 7 := ⟨RX7, TX7, 5, rfl, List.mem_of_getElem? (i := 283) (by decide +kernel)⟩
set_option maxRecDepth 100000 in
theorem ln_10_68 : pi_okN RX10 68 8 := ⟨RX8, TX8, 4, rfl, List.mem_of_getElem? (i := 306) (by decide +kernel)⟩
set_option maxRecDepth 100000 in
theorem ln_10_77 : pi_okN RX10 77 0 := ⟨RX0, TX0, 6, rfl, List.mem_of_getElem? (i := 325) (by decide +kernel)⟩
set_option maxRecDepth 100000 in
theorem ln_10_84 : pi_okN RX10 84 6 := ⟨RX6, TX6, 4, rfl, List.mem_of_getElem? (i := 354) (by decide +kernel)⟩
set_option maxRecDepth 100000 in
theorem ln_10_94 : pi_okN RX10 94 1 := ⟨RX1, TX1, 4, rfl, List.mem_of_getElem? (i := 375) (by decide +kernel)⟩
theorem ln_a10 : ∀ e ∈ ([(9, 9, 112), (16, 2, 218), (26, 3, 235), (35, 4, 248), (51, 5, 267), (58, 7, 283), (68, 8, 306), (77, 0, 325), (84, 6, 354), (94, 1, 375)] : List (Nat × Nat × Nat)), pi_okN RX10 e.1 e.2.1 := List.forall_mem_cons.mpr ⟨ln_10_9, List.forall_mem_cons.mpr ⟨ln_10_16, List.forall_mem_cons.mpr ⟨ln_10_26, List.forall_mem_cons.mpr ⟨ln_10_35, List.forall_mem_cons.mpr ⟨ln_10_51, List.forall_mem_cons.mpr ⟨ln_10_58, List.forall_mem_cons.mpr ⟨ln_10_68, List.forall_mem_cons.mpr ⟨ln_10_77, List.forall_mem_cons.mpr ⟨ln_10_84, List.forall_mem_cons.mpr ⟨ln_10_94, fun _ h => absurd h List.not_mem_nil⟩⟩⟩⟩⟩⟩⟩⟩⟩⟩
theorem ln_a11 : ∀ e ∈ ([] : List (Nat × Nat × Nat)), pi_okN RX11 e.1 e.2.1 := fun _ h => absurd h List.not_mem_nil
theorem ln_a12 : ∀ e ∈ ([] : List (Nat × Nat × Nat)), pi_okN "java/lang/Integer" e.1 e.2.1 := fun _ h => absurd h List.not_mem_nil
theorem ln_all {own : Nat} {C : String} {t : List (Nat × Nat × Nat)} (hc : pi_cn[own]? = some C) (ht : pi_nT[own]? = some t) : ∀ e ∈ t, pi_okN C e.1 e.2.1 := by
  match own, hc, ht with
  | 0, hc, ht => cases hc; cases ht; exact ln_a0
  | 1, hc, ht => cases hc; cases ht; exact ln_a1
  | 2, hc, ht => cases hc; cases ht; exact ln_a2
  | 3, hc, ht => cases hc; cases ht; exact ln_a3
  | 4, hc, ht => cases hc; cases ht; exact ln_a4
  | 5, hc, ht => cases hc; cases ht; exact ln_a5
  | 6, hc, ht => cases hc; cases ht; exact ln_a6
  | 7, hc, ht => cases hc; cases ht; exact ln_a7
  | 8, hc, ht => cases hc; cases ht; exact ln_a8
  | 9, hc, ht => cases hc; cases ht; exact ln_a9
  | 10, hc, ht => cases hc; cases ht; exact ln_a10
  | 11, hc, ht => cases hc; cases ht; exact ln_a11
  | 12, hc, ht => cases hc; cases ht; exact ln_a12
  | _ + 13, hc, _ => exact absurd hc (by simp [pi_cn])
theorem ll_a0 : ∀ e ∈ ([] : List (Nat × Int32 × Nat)), pi_okL RX0 e.1 e.2.1 := fun _ h => absurd h List.not_mem_nil
theorem ll_a1 : ∀ e ∈ ([] : List (Nat × Int32 × Nat)), pi_okL RX1 e.1 e.2.1 := fun _ h => absurd h List.not_mem_nil
theorem ll_a2 : ∀ e ∈ ([] : List (Nat × Int32 × Nat)), pi_okL RX2 e.1 e.2.1 := fun _ h => absurd h List.not_mem_nil
theorem ll_a3 : ∀ e ∈ ([] : List (Nat × Int32 × Nat)), pi_okL RX3 e.1 e.2.1 := fun _ h => absurd h List.not_mem_nil
set_option maxRecDepth 100000 in
theorem ll_4_100 : pi_okL RX4 100 1103515245 := List.mem_of_getElem? (i := 984) (by decide +kernel)
theorem ll_a4 : ∀ e ∈ ([(100, 1103515245, 984)] : List (Nat × Int32 × Nat)), pi_okL RX4 e.1 e.2.1 := List.forall_mem_cons.mpr ⟨ll_4_100, fun _ h => absurd h List.not_mem_nil⟩
theorem ll_a5 : ∀ e ∈ ([] : List (Nat × Int32 × Nat)), pi_okL RX5 e.1 e.2.1 := fun _ h => absurd h List.not_mem_nil
theorem ll_a6 : ∀ e ∈ ([] : List (Nat × Int32 × Nat)), pi_okL RX6 e.1 e.2.1 := fun _ h => absurd h List.not_mem_nil
theorem ll_a7 : ∀ e ∈ ([] : List (Nat × Int32 × Nat)), pi_okL RX7 e.1 e.2.1 := fun _ h => absurd h List.not_mem_nil
theorem ll_a8 : ∀ e ∈ ([] : List (Nat × Int32 × Nat)), pi_okL RX8 e.1 e.2.1 := fun _ h => absurd h List.not_mem_nil
theorem ll_a9 : ∀ e ∈ ([] : List (Nat × Int32 × Nat)), pi_okL RX9 e.1 e.2.1 := fun _ h => absurd h List.not_mem_nil
theorem ll_a10 : ∀ e ∈ ([] : List (Nat × Int32 × Nat)), pi_okL RX10 e.1 e.2.1 := fun _ h => absurd h List.not_mem_nil
set_option maxRecDepth 100000 in
theorem ll_11_399 : pi_okL RX11 399 1103515245 := List.mem_of_getElem? (i := 1772) (by decide +kernel)
theorem ll_a11 : ∀ e ∈ ([(399, 1103515245, 1772)] : List (Nat × Int32 × Nat)), pi_okL RX11 e.1 e.2.1 := List.forall_mem_cons.mpr ⟨ll_11_399, fun _ h => absurd h List.not_mem_nil⟩
set_option maxRecDepth 100000 in
theorem ll_12_265 : pi_okL "java/lang/Integer" 265 1431655765 := List.mem_of_getElem? (i := 708) (by decide +kernel)
set_option maxRecDepth 100000 in
theorem ll_12_266 : pi_okL "java/lang/Integer" 266 858993459 := List.mem_of_getElem? (i := 709) (by decide +kernel)
set_option maxRecDepth 100000 in
theorem ll_12_267 : pi_okL "java/lang/Integer" 267 252645135 := List.mem_of_getElem? (i := 710) (by decide +kernel)
theorem ll_a12 : ∀ e ∈ ([(265, 1431655765, 708), (266, 858993459, 709), (267, 252645135, 710)] : List (Nat × Int32 × Nat)), pi_okL "java/lang/Integer" e.1 e.2.1 := List.forall_mem_cons.mpr ⟨ll_12_265, List.forall_mem_cons.mpr ⟨ll_12_266, List.forall_mem_cons.mpr ⟨ll_12_267, fun _ h => absurd h List.not_mem_nil⟩⟩⟩
theorem ll_all {own : Nat} {C : String} {t : List (Nat × Int32 × Nat)} (hc : pi_cn[own]? = some C) (ht : pi_lT[own]? = some t) : ∀ e ∈ t, pi_okL C e.1 e.2.1 := by
  match own, hc, ht with
  | 0, hc, ht => cases hc; cases ht; exact ll_a0
  | 1, hc, ht => cases hc; cases ht; exact ll_a1
  | 2, hc, ht => cases hc; cases ht; exact ll_a2
  | 3, hc, ht => cases hc; cases ht; exact ll_a3
  | 4, hc, ht => cases hc; cases ht; exact ll_a4
  | 5, hc, ht => cases hc; cases ht; exact ll_a5
  | 6, hc, ht => cases hc; cases ht; exact ll_a6
  | 7, hc, ht => cases hc; cases ht; exact ll_a7
  | 8, hc, ht => cases hc; cases ht; exact ll_a8
  | 9, hc, ht => cases hc; cases ht; exact ll_a9
  | 10, hc, ht => cases hc; cases ht; exact ll_a10
  | 11, hc, ht => cases hc; cases ht; exact ll_a11
  | 12, hc, ht => cases hc; cases ht; exact ll_a12
  | _ + 13, hc, _ => exact absurd hc (by simp [pi_cn])
theorem lq_a0 : ∀ e ∈ ([] : List (Nat × Int64 × Nat)), pi_okQ RX0 e.1 e.2.1 := fun _ h => absurd h List.not_mem_nil
theorem lq_a1 : ∀ e ∈ ([] : List (Nat × Int64 × Nat)), pi_okQ RX1 e.1 e.2.1 := fun _ h => absurd h List.not_mem_nil
theorem lq_a2 : ∀ e ∈ ([] : List (Nat × Int64 × Nat)), pi_okQ RX2 e.1 e.2.1 := fun _ h => absurd h List.not_mem_nil
theorem lq_a3 : ∀ e ∈ ([] : List (Nat × Int64 × Nat)), pi_okQ RX3 e.1 e.2.1 := fun _ h => absurd h List.not_mem_nil
theorem lq_a4 : ∀ e ∈ ([] : List (Nat × Int64 × Nat)), pi_okQ RX4 e.1 e.2.1 := fun _ h => absurd h List.not_mem_nil
theorem lq_a5 : ∀ e ∈ ([] : List (Nat × Int64 × Nat)), pi_okQ RX5 e.1 e.2.1 := fun _ h => absurd h List.not_mem_nil
theorem lq_a6 : ∀ e ∈ ([] : List (Nat × Int64 × Nat)), pi_okQ RX6 e.1 e.2.1 := fun _ h => absurd h List.not_mem_nil
theorem lq_a7 : ∀ e ∈ ([] : List (Nat × Int64 × Nat)), pi_okQ RX7 e.1 e.2.1 := fun _ h => absurd h List.not_mem_nil
theorem lq_a8 : ∀ e ∈ ([] : List (Nat × Int64 × Nat)), pi_okQ RX8 e.1 e.2.1 := fun _ h => absurd h List.not_mem_nil
set_option maxRecDepth 100000 in
theorem lq_9_31 : pi_okQ RX9 31 (32 : Int64) := List.mem_of_getElem? (i := 167) (by decide +kernel)
theorem lq_a9 : ∀ e ∈ ([(31, (32 : Int64), 167)] : List (Nat × Int64 × Nat)), pi_okQ RX9 e.1 e.2.1 := List.forall_mem_cons.mpr ⟨lq_9_31, fun _ h => absurd h List.not_mem_nil⟩
theorem lq_a10 : ∀ e ∈ ([] : List (Nat × Int64 × Nat)), pi_okQ RX10 e.1 e.2.1 := fun _ h => absurd h List.not_mem_nil
set_option maxRecDepth 100000 in
theorem lq_11_84 : pi_okQ RX11 84 (482854658917 : Int64) := List.mem_of_getElem? (i := 1218) (by decide +kernel)
set_option maxRecDepth 100000 in
theorem lq_11_86 : pi_okQ RX11 86 (1919902052 : Int64) := List.mem_of_getElem? (i := 1219) (by decide +kernel)
set_option maxRecDepth 100000 in
theorem lq_11_88 : pi_okQ RX11 88 (1684366692 : Int64) := List.mem_of_getElem? (i := 1220) (by decide +kernel)
set_option maxRecDepth 100000 in
theorem lq_11_90 : pi_okQ RX11 90 (7102839 : Int64) := List.mem_of_getElem? (i := 1221) (by decide +kernel)
set_option maxRecDepth 100000 in
theorem lq_11_92 : pi_okQ RX11 92 (125780002955628 : Int64) := List.mem_of_getElem? (i := 1222) (by decide +kernel)
set_option maxRecDepth 100000 in
theorem lq_11_94 : pi_okQ RX11 94 (7168366 : Int64) := List.mem_of_getElem? (i := 1223) (by decide +kernel)
set_option maxRecDepth 100000 in
theorem lq_11_96 : pi_okQ RX11 96 (491496238692 : Int64) := List.mem_of_getElem? (i := 1224) (by decide +kernel)
set_option maxRecDepth 100000 in
theorem lq_11_98 : pi_okQ RX11 98 (427020350059 : Int64) := List.mem_of_getElem? (i := 1225) (by decide +kernel)
set_option maxRecDepth 100000 in
theorem lq_11_100 : pi_okQ RX11 100 (1886352244 : Int64) := List.mem_of_getElem? (i := 1226) (by decide +kernel)
set_option maxRecDepth 100000 in
theorem lq_11_102 : pi_okQ RX11 102 (1735353715 : Int64) := List.mem_of_getElem? (i := 1227) (by decide +kernel)
set_option maxRecDepth 100000 in
theorem lq_11_104 : pi_okQ RX11 104 (1685022067 : Int64) := List.mem_of_getElem? (i := 1228) (by decide +kernel)
set_option maxRecDepth 100000 in
theorem lq_11_106 : pi_okQ RX11 106 (512801993331 : Int64) := List.mem_of_getElem? (i := 1229) (by decide +kernel)
set_option maxRecDepth 100000 in
theorem lq_11_108 : pi_okQ RX11 108 (422541682035 : Int64) := List.mem_of_getElem? (i := 1230) (by decide +kernel)
set_option maxRecDepth 100000 in
theorem lq_11_110 : pi_okQ RX11 110 (112585964089971 : Int64) := List.mem_of_getElem? (i := 1231) (by decide +kernel)
set_option maxRecDepth 100000 in
theorem lq_11_112 : pi_okQ RX11 112 (482906174579 : Int64) := List.mem_of_getElem? (i := 1232) (by decide +kernel)
set_option maxRecDepth 100000 in
theorem lq_11_114 : pi_okQ RX11 114 (491260571251 : Int64) := List.mem_of_getElem? (i := 1233) (by decide +kernel)
set_option maxRecDepth 100000 in
theorem lq_11_116 : pi_okQ RX11 116 (6578553 : Int64) := List.mem_of_getElem? (i := 1234) (by decide +kernel)
set_option maxRecDepth 100000 in
theorem lq_11_118 : pi_okQ RX11 118 (28530 : Int64) := List.mem_of_getElem? (i := 1235) (by decide +kernel)
set_option maxRecDepth 100000 in
theorem lq_11_120 : pi_okQ RX11 120 (6385252 : Int64) := List.mem_of_getElem? (i := 1236) (by decide +kernel)
set_option maxRecDepth 100000 in
theorem lq_11_122 : pi_okQ RX11 122 (7237492 : Int64) := List.mem_of_getElem? (i := 1237) (by decide +kernel)
set_option maxRecDepth 100000 in
theorem lq_11_124 : pi_okQ RX11 124 (422725643876 : Int64) := List.mem_of_getElem? (i := 1238) (by decide +kernel)
set_option maxRecDepth 100000 in
theorem lq_11_126 : pi_okQ RX11 126 (1718773093 : Int64) := List.mem_of_getElem? (i := 1239) (by decide +kernel)
set_option maxRecDepth 100000 in
theorem lq_11_128 : pi_okQ RX11 128 (422776761956 : Int64) := List.mem_of_getElem? (i := 1240) (by decide +kernel)
set_option maxRecDepth 100000 in
theorem lq_11_130 : pi_okQ RX11 130 (7168377 : Int64) := List.mem_of_getElem? (i := 1241) (by decide +kernel)
set_option maxRecDepth 100000 in
theorem lq_11_132 : pi_okQ RX11 132 (26990 : Int64) := List.mem_of_getElem? (i := 1242) (by decide +kernel)
set_option maxRecDepth 100000 in
theorem lq_11_134 : pi_okQ RX11 134 (495689623668 : Int64) := List.mem_of_getElem? (i := 1243) (by decide +kernel)
set_option maxRecDepth 100000 in
theorem lq_11_136 : pi_okQ RX11 136 (512970876019 : Int64) := List.mem_of_getElem? (i := 1244) (by decide +kernel)
set_option maxRecDepth 100000 in
theorem lq_11_138 : pi_okQ RX11 138 (6580580 : Int64) := List.mem_of_getElem? (i := 1245) (by decide +kernel)
set_option maxRecDepth 100000 in
theorem lq_11_140 : pi_okQ RX11 140 (121450625394034 : Int64) := List.mem_of_getElem? (i := 1246) (by decide +kernel)
theorem lq_a11 : ∀ e ∈ ([(84, (482854658917 : Int64), 1218), (86, (1919902052 : Int64), 1219), (88, (1684366692 : Int64), 1220), (90, (7102839 : Int64), 1221), (92, (125780002955628 : Int64), 1222), (94, (7168366 : Int64), 1223), (96, (491496238692 : Int64), 1224), (98, (427020350059 : Int64), 1225), (100, (1886352244 : Int64), 1226), (102, (1735353715 : Int64), 1227), (104, (1685022067 : Int64), 1228), (106, (512801993331 : Int64), 1229), (108, (422541682035 : Int64), 1230), (110, (112585964089971 : Int64), 1231), (112, (482906174579 : Int64), 1232), (114, (491260571251 : Int64), 1233), (116, (6578553 : Int64), 1234), (118, (28530 : Int64), 1235), (120, (6385252 : Int64), 1236), (122, (7237492 : Int64), 1237), (124, (422725643876 : Int64), 1238), (126, (1718773093 : Int64), 1239), (128, (422776761956 : Int64), 1240), (130, (7168377 : Int64), 1241), (132, (26990 : Int64), 1242), (134, (495689623668 : Int64), 1243), (136, (512970876019 : Int64), 1244), (138, (6580580 : Int64), 1245), (140, (121450625394034 : Int64), 1246)] : List (Nat × Int64 × Nat)), pi_okQ RX11 e.1 e.2.1 := List.forall_mem_cons.mpr ⟨lq_11_84, List.forall_mem_cons.mpr ⟨lq_11_86, List.forall_mem_cons.mpr ⟨lq_11_88, List.forall_mem_cons.mpr ⟨lq_11_90, List.forall_mem_cons.mpr ⟨lq_11_92, List.forall_mem_cons.mpr ⟨lq_11_94, List.forall_mem_cons.mpr ⟨lq_11_96, List.forall_mem_cons.mpr ⟨lq_11_98, List.forall_mem_cons.mpr ⟨lq_11_100, List.forall_mem_cons.mpr ⟨lq_11_102, List.forall_mem_cons.mpr ⟨lq_11_104, List.forall_mem_cons.mpr ⟨lq_11_106, List.forall_mem_cons.mpr ⟨lq_11_108, List.forall_mem_cons.mpr ⟨lq_11_110, List.forall_mem_cons.mpr ⟨lq_11_112, List.forall_mem_cons.mpr ⟨lq_11_114, List.forall_mem_cons.mpr ⟨lq_11_116, List.forall_mem_cons.mpr ⟨lq_11_118, List.forall_mem_cons.mpr ⟨lq_11_120, List.forall_mem_cons.mpr ⟨lq_11_122, List.forall_mem_cons.mpr ⟨lq_11_124, List.forall_mem_cons.mpr ⟨lq_11_126, List.forall_mem_cons.mpr ⟨lq_11_128, List.forall_mem_cons.mpr ⟨lq_11_130, List.forall_mem_cons.mpr ⟨lq_11_132, List.forall_mem_cons.mpr ⟨lq_11_134, List.forall_mem_cons.mpr ⟨lq_11_136, List.forall_mem_cons.mpr ⟨lq_11_138, List.forall_mem_cons.mpr ⟨lq_11_140, fun _ h => absurd h List.not_mem_nil⟩⟩⟩⟩⟩⟩⟩⟩⟩⟩⟩⟩⟩⟩⟩⟩⟩⟩⟩⟩⟩⟩⟩⟩⟩⟩⟩⟩⟩
theorem lq_a12 : ∀ e ∈ ([] : List (Nat × Int64 × Nat)), pi_okQ "java/lang/Integer" e.1 e.2.1 := fun _ h => absurd h List.not_mem_nil
theorem lq_all {own : Nat} {C : String} {t : List (Nat × Int64 × Nat)} (hc : pi_cn[own]? = some C) (ht : pi_qT[own]? = some t) : ∀ e ∈ t, pi_okQ C e.1 e.2.1 := by
  match own, hc, ht with
  | 0, hc, ht => cases hc; cases ht; exact lq_a0
  | 1, hc, ht => cases hc; cases ht; exact lq_a1
  | 2, hc, ht => cases hc; cases ht; exact lq_a2
  | 3, hc, ht => cases hc; cases ht; exact lq_a3
  | 4, hc, ht => cases hc; cases ht; exact lq_a4
  | 5, hc, ht => cases hc; cases ht; exact lq_a5
  | 6, hc, ht => cases hc; cases ht; exact lq_a6
  | 7, hc, ht => cases hc; cases ht; exact lq_a7
  | 8, hc, ht => cases hc; cases ht; exact lq_a8
  | 9, hc, ht => cases hc; cases ht; exact lq_a9
  | 10, hc, ht => cases hc; cases ht; exact lq_a10
  | 11, hc, ht => cases hc; cases ht; exact lq_a11
  | 12, hc, ht => cases hc; cases ht; exact lq_a12
  | _ + 13, hc, _ => exact absurd hc (by simp [pi_cn])
set_option maxRecDepth 100000 in
theorem lc_0 : pi_okC 0 RX0 TX0 6 := ⟨rfl, inX0, tyX0_ok, nmX0, List.mem_of_getElem? (i := 326) (by decide +kernel), List.mem_of_getElem? (i := 93) (by decide +kernel), by decide +kernel⟩
set_option maxRecDepth 100000 in
theorem lc_1 : pi_okC 1 RX1 TX1 4 := ⟨rfl, inX1, tyX1_ok, nmX1, List.mem_of_getElem? (i := 376) (by decide +kernel), List.mem_of_getElem? (i := 95) (by decide +kernel), by decide +kernel⟩
set_option maxRecDepth 100000 in
theorem lc_2 : pi_okC 2 RX2 TX2 2 := ⟨rfl, inX2, tyX2_ok, nmX2, List.mem_of_getElem? (i := 219) (by decide +kernel), List.mem_of_getElem? (i := 87) (by decide +kernel), by decide +kernel⟩
set_option maxRecDepth 100000 in
theorem lc_3 : pi_okC 3 RX3 TX3 2 := ⟨rfl, inX3, tyX3_ok, nmX3, List.mem_of_getElem? (i := 236) (by decide +kernel), List.mem_of_getElem? (i := 88) (by decide +kernel), by decide +kernel⟩
set_option maxRecDepth 100000 in
theorem lc_4 : pi_okC 4 RX4 TX4 3 := ⟨rfl, inX4, tyX4_ok, nmX4, List.mem_of_getElem? (i := 249) (by decide +kernel), List.mem_of_getElem? (i := 89) (by decide +kernel), by decide +kernel⟩
set_option maxRecDepth 100000 in
theorem lc_5 : pi_okC 5 RX5 TX5 3 := ⟨rfl, inX5, tyX5_ok, nmX5, List.mem_of_getElem? (i := 268) (by decide +kernel), List.mem_of_getElem? (i := 90) (by decide +kernel), by decide +kernel⟩
set_option maxRecDepth 100000 in
theorem lc_6 : pi_okC 6 RX6 TX6 4 := ⟨rfl, inX6, tyX6_ok, nmX6, List.mem_of_getElem? (i := 355) (by decide +kernel), List.mem_of_getElem? (i := 94) (by decide +kernel), by decide +kernel⟩
set_option maxRecDepth 100000 in
theorem lc_7 : pi_okC 7 RX7 TX7 5 := ⟨rfl, inX7, tyX7_ok, nmX7, List.mem_of_getElem? (i := 284) (by decide +kernel), List.mem_of_getElem? (i := 91) (by decide +kernel), by decide +kernel⟩
set_option maxRecDepth 100000 in
theorem lc_8 : pi_okC 8 RX8 TX8 4 := ⟨rfl, inX8, tyX8_ok, nmX8, List.mem_of_getElem? (i := 307) (by decide +kernel), List.mem_of_getElem? (i := 92) (by decide +kernel), by decide +kernel⟩
set_option maxRecDepth 100000 in
theorem lc_9 : pi_okC 9 RX9 TX9 12 := ⟨rfl, inX9, tyX9_ok, nmX9, List.mem_of_getElem? (i := 113) (by decide +kernel), List.mem_of_getElem? (i := 82) (by decide +kernel), by decide +kernel⟩
set_option maxRecDepth 100000 in
theorem lc_10 : pi_okC 10 RX10 TX10 19 := ⟨rfl, inX10, tyX10_ok, nmX10, List.mem_of_getElem? (i := 105) (by decide +kernel), List.mem_of_getElem? (i := 81) (by decide +kernel), by decide +kernel⟩
set_option maxRecDepth 100000 in
theorem lc_11 : pi_okC 11 RX11 TX11 45 := ⟨rfl, inX11, tyX11_ok, nmX11, List.mem_of_getElem? (i := 1207) (by decide +kernel), List.mem_of_getElem? (i := 96) (by decide +kernel), by decide +kernel⟩
theorem lc_all {ci : Nat} {C : String} {T : u_T} {N : Nat} (h : vwCl[ci]? = some (C, T, N)) : pi_okC ci C T N := by
  match ci, h with
  | 0, h => cases h; exact lc_0
  | 1, h => cases h; exact lc_1
  | 2, h => cases h; exact lc_2
  | 3, h => cases h; exact lc_3
  | 4, h => cases h; exact lc_4
  | 5, h => cases h; exact lc_5
  | 6, h => cases h; exact lc_6
  | 7, h => cases h; exact lc_7
  | 8, h => cases h; exact lc_8
  | 9, h => cases h; exact lc_9
  | 10, h => cases h; exact lc_10
  | 11, h => cases h; exact lc_11
  | _ + 12, h => exact absurd h (by simp [vwCl])
set_option maxRecDepth 100000 in
theorem mo_all : ∀ q ∈ pi_mt.zip pi_mk, pi_okM q.1 q.2.1 q.2.2 := by
  intro q hq
  have e : pi_mt.zip pi_mk = pi_mt_0.zip pi_mk_0 ++ (pi_mt_1.zip pi_mk_1 ++ (pi_mt_2.zip pi_mk_2 ++ (pi_mt_3.zip pi_mk_3 ++ (pi_mt_4.zip pi_mk_4 ++ (pi_mt_5.zip pi_mk_5))))) := rfl
  rw [e] at hq
  simp only [List.mem_append] at hq
  rcases hq with h | h | h | h | h | h
  · exact mo_all_0 q h
  · exact mo_all_1 q h
  · exact mo_all_2 q h
  · exact mo_all_3 q h
  · exact mo_all_4 q h
  · exact mo_all_5 q h
theorem mo_of {z na : Nat} {st : Bool} {e : pi_ME} (h : pi_mt[z]? = some e) (h2 : pi_mk[z]? = some (na, st)) : pi_okM e na st := by
  refine mo_all (e, na, st) (List.mem_of_getElem? (i := z) ?_)
  rw [List.getElem?_zip_eq_some]
  exact ⟨h, h2⟩
