/-! ===== String.length and String.charAt of the constant ===== -/
def ky_len : MethodName := ⟨"java/lang/String", "length", "()I"⟩
def ky_cod : MethodName := ⟨"java/lang/String", "coder", "()B"⟩
def ky_chr : MethodName := ⟨"java/lang/String", "charAt", "(I)C"⟩
def ky_lat : MethodName := ⟨"java/lang/String", "isLatin1", "()Z"⟩
def ky_lch : MethodName := ⟨"java/lang/StringLatin1", "charAt", "([BI)C"⟩
def ky_chk : MethodName := ⟨"java/lang/String", "checkIndex", "(II)V"⟩
def ky_pre : MethodName := ⟨"jdk/internal/util/Preconditions", "checkIndex", "(IILjava/util/function/BiFunction;)I"⟩
theorem kw_iS : Cond.initialized "java/lang/String" ∈ lw_tbl := List.mem_of_getElem? (i := 83) (by decide +kernel)
theorem kw_iL : Cond.initialized "java/lang/StringLatin1" ∈ lw_tbl := List.mem_of_getElem? (i := 84) (by decide +kernel)
theorem kw_iP : Cond.initialized "jdk/internal/util/Preconditions" ∈ lw_tbl := List.mem_of_getElem? (i := 85) (by decide +kernel)
theorem kw_120 : Cond.instanceMethod ky_len ∈ lw_tbl := List.mem_of_getElem? (i := 120) (by decide +kernel)
theorem kw_121 : Cond.selects "java/lang/String" ky_len ky_len ∈ lw_tbl := List.mem_of_getElem? (i := 121) (by decide +kernel)
theorem kw_122 : Cond.code ky_len prog_21_method_54_code 1 (some .int) ∈ lw_tbl := List.mem_of_getElem? (i := 122) (by decide +kernel)
theorem kw_123 : Cond.methodLink "java/lang/String" 335 ky_cod ∈ lw_tbl := List.mem_of_getElem? (i := 123) (by decide +kernel)
theorem kw_124 : Cond.instanceMethod ky_cod ∈ lw_tbl := List.mem_of_getElem? (i := 124) (by decide +kernel)
theorem kw_125 : Cond.selects "java/lang/String" ky_cod ky_cod ∈ lw_tbl := List.mem_of_getElem? (i := 125) (by decide +kernel)
theorem kw_126 : Cond.code ky_cod prog_21_method_152_code 1 (some .byte) ∈ lw_tbl := List.mem_of_getElem? (i := 126) (by decide +kernel)
theorem kw_127 : Cond.fieldLink "java/lang/String" 38 "java/lang/String" "COMPACT_STRINGS" "Z" ∈ lw_tbl := List.mem_of_getElem? (i := 127) (by decide +kernel)
theorem kw_130 : Cond.instanceMethod ky_chr ∈ lw_tbl := List.mem_of_getElem? (i := 130) (by decide +kernel)
theorem kw_131 : Cond.selects "java/lang/String" ky_chr ky_chr ∈ lw_tbl := List.mem_of_getElem? (i := 131) (by decide +kernel)
theorem kw_132 : Cond.code ky_chr prog_21_method_56_code 2 (some .char) ∈ lw_tbl := List.mem_of_getElem? (i := 132) (by decide +kernel)
theorem kw_133 : Cond.methodLink "java/lang/String" 492 ky_lat ∈ lw_tbl := List.mem_of_getElem? (i := 133) (by decide +kernel)
theorem kw_134 : Cond.instanceMethod ky_lat ∈ lw_tbl := List.mem_of_getElem? (i := 134) (by decide +kernel)
theorem kw_135 : Cond.selects "java/lang/String" ky_lat ky_lat ∈ lw_tbl := List.mem_of_getElem? (i := 135) (by decide +kernel)
theorem kw_136 : Cond.code ky_lat prog_21_method_154_code 1 (some .boolean) ∈ lw_tbl := List.mem_of_getElem? (i := 136) (by decide +kernel)
theorem kw_137 : Cond.methodLink "java/lang/String" 495 ky_lch ∈ lw_tbl := List.mem_of_getElem? (i := 137) (by decide +kernel)
theorem kw_138 : Cond.static ky_lch ∈ lw_tbl := List.mem_of_getElem? (i := 138) (by decide +kernel)
theorem kw_139 : Cond.code ky_lch prog_22_method_2_code 2 (some .char) ∈ lw_tbl := List.mem_of_getElem? (i := 139) (by decide +kernel)
theorem kw_140 : Cond.methodLink "java/lang/StringLatin1" 9 ky_chk ∈ lw_tbl := List.mem_of_getElem? (i := 140) (by decide +kernel)
theorem kw_141 : Cond.static ky_chk ∈ lw_tbl := List.mem_of_getElem? (i := 141) (by decide +kernel)
theorem kw_142 : Cond.code ky_chk prog_21_method_155_code 2 none ∈ lw_tbl := List.mem_of_getElem? (i := 142) (by decide +kernel)
theorem kw_143 : Cond.fieldLink "java/lang/String" 1053 "jdk/internal/util/Preconditions" "SIOOBE_FORMATTER" "Ljava/util/function/BiFunction;" ∈ lw_tbl := List.mem_of_getElem? (i := 143) (by decide +kernel)
theorem kw_145 : Cond.methodLink "java/lang/String" 1059 ky_pre ∈ lw_tbl := List.mem_of_getElem? (i := 145) (by decide +kernel)
theorem kw_146 : Cond.static ky_pre ∈ lw_tbl := List.mem_of_getElem? (i := 146) (by decide +kernel)
theorem kw_147 : Cond.code ky_pre prog_29_method_11_code 3 (some .int) ∈ lw_tbl := List.mem_of_getElem? (i := 147) (by decide +kernel)
theorem kw_val : Cond.fieldLink "java/lang/String" 9 "java/lang/String" "value" "[B" ∈ lw_tbl := List.mem_of_getElem? (i := 1869) (by decide +kernel)
theorem kw_cod : Cond.fieldLink "java/lang/String" 15 "java/lang/String" "coder" "B" ∈ lw_tbl := List.mem_of_getElem? (i := 1870) (by decide +kernel)
theorem kp_pre : (parseMethodDescriptor ky_pre.desc).map (fun d => d.parameters.length) = some 3 := by decide +kernel
theorem kp_chk : (parseMethodDescriptor ky_chk.desc).map (fun d => d.parameters.length) = some 2 := by decide +kernel
theorem kp_lch : (parseMethodDescriptor ky_lch.desc).map (fun d => d.parameters.length) = some 2 := by decide +kernel
theorem kp_chr : (parseMethodDescriptor ky_chr.desc).map (fun d => d.parameters.length) = some 1 := by decide +kernel
theorem kp_lat : (parseMethodDescriptor ky_lat.desc).map (fun d => d.parameters.length) = some 0 := by decide +kernel
theorem kp_cod : (parseMethodDescriptor ky_cod.desc).map (fun d => d.parameters.length) = some 0 := by decide +kernel
theorem kp_len : (parseMethodDescriptor ky_len.desc).map (fun d => d.parameters.length) = some 0 := by decide +kernel
def kt_54 : List (Nat × Instr × Nat) := [(0, .aload_n 0, 1), (1, .getfield 9, 3), (4, .arraylength, 1), (5, .aload_n 0, 1), (6, .invokevirtual 335, 3), (9, .ishr, 1), (10, .ireturn, 1)]
def kt_152 : List (Nat × Instr × Nat) := [(0, .getstatic 38, 3), (3, .ifCond .eq 10, 3), (6, .aload_n 0, 1), (7, .getfield 15, 3), (10, .goto 4, 3), (13, .iconst 1, 1), (14, .ireturn, 1)]
def kt_56 : List (Nat × Instr × Nat) := [(0, .aload_n 0, 1), (1, .invokevirtual 492, 3), (4, .ifCond .eq 12, 3), (7, .aload_n 0, 1), (8, .getfield 9, 3), (11, .iload_n 1, 1), (12, .invokestatic 495, 3), (15, .ireturn, 1)]
def kt_154 : List (Nat × Instr × Nat) := [(0, .getstatic 38, 3), (3, .ifCond .eq 14, 3), (6, .aload_n 0, 1), (7, .getfield 15, 3), (10, .ifCond .ne 7, 3), (13, .iconst 1, 1), (14, .goto 4, 3), (18, .ireturn, 1)]
def kt_2 : List (Nat × Instr × Nat) := [(0, .iload_n 1, 1), (1, .aload_n 0, 1), (2, .arraylength, 1), (3, .invokestatic 9, 3), (6, .aload_n 0, 1), (7, .iload_n 1, 1), (8, .baload, 1), (9, .sipush 255, 3), (12, .iand, 1), (13, .i2c, 1), (14, .ireturn, 1)]
def kt_155 : List (Nat × Instr × Nat) := [(0, .iload_n 0, 1), (1, .iload_n 1, 1), (2, .getstatic 1053, 3), (5, .invokestatic 1059, 3), (8, .pop, 1), (9, .return_, 1)]
def kt_11 : List (Nat × Instr × Nat) := [(0, .iload_n 0, 1), (1, .ifCond .lt 8, 3), (4, .iload_n 0, 1), (5, .iload_n 1, 1), (6, .if_icmp .lt 10, 3), (16, .iload_n 0, 1), (17, .ireturn, 1)]
theorem kd_54 : (kt_54.all fun q => decide (decode prog_21_method_54_code q.1 = .ok (q.2.1, q.2.2))) = true := by decide +kernel
theorem kd_152 : (kt_152.all fun q => decide (decode prog_21_method_152_code q.1 = .ok (q.2.1, q.2.2))) = true := by decide +kernel
theorem kd_56 : (kt_56.all fun q => decide (decode prog_21_method_56_code q.1 = .ok (q.2.1, q.2.2))) = true := by decide +kernel
theorem kd_154 : (kt_154.all fun q => decide (decode prog_21_method_154_code q.1 = .ok (q.2.1, q.2.2))) = true := by decide +kernel
theorem kd_2 : (kt_2.all fun q => decide (decode prog_22_method_2_code q.1 = .ok (q.2.1, q.2.2))) = true := by decide +kernel
theorem kd_155 : (kt_155.all fun q => decide (decode prog_21_method_155_code q.1 = .ok (q.2.1, q.2.2))) = true := by decide +kernel
theorem kd_11 : (kt_11.all fun q => decide (decode prog_29_method_11_code q.1 = .ok (q.2.1, q.2.2))) = true := by decide +kernel
theorem kd_at {tab : List (Nat × Instr × Nat)} {cc : ByteArray} (h : (tab.all fun q => decide (decode cc q.1 = .ok (q.2.1, q.2.2))) = true) (k : Nat) {pc len : Nat} {i : Instr} (hk : tab[k]? = some (pc, i, len)) : decode cc pc = .ok (i, len) := by
  have h1 := List.all_eq_true.mp h _ (List.mem_of_getElem? hk)
  exact of_decide_eq_true h1
def ks_B (sa sv : Nat) (A : Nat → Prop) (U : State) : Prop := vk_S 1 [pi_bytes.length] [pi_bytes] (fun _ => sa) (fun _ => sv) A U U.heap ∧ va_Z "java/lang/String" "COMPACT_STRINGS" "Z" (.int 1) A U U.heap ∧ va_Zq "jdk/internal/util/Preconditions" "SIOOBE_FORMATTER" "Ljava/util/function/BiFunction;" A U U.heap
theorem ks_T {n sa sv : Nat} {b : List Int32} {A : Nat → Prop} {U : State} {H : Heap} (h : vk_S 1 [n] [b] (fun _ => sa) (fun _ => sv) A U H) : va_T .byte sv n (fun j => .int (b.getD j 0)) A U H := (h.1 0 (by decide)).2.2.2
def ks_n : Nat → Prop := fun _ => False
def ks_P (av : List Value) (sa sv : Nat) : Array Value → State → Prop := va_Pc av (fun U => ks_B sa sv ks_n U)
def ks_Q (r : Option Value) : Array Value → State → Outcome → State → Prop := fun _ st o t => o = .returned r ∧ va_F ks_n st t
theorem ks_P.blind {av : List Value} {sa sv : Nat} : FrameBlind (ks_P av sa sv) := by
  intro a U g mk h
  obtain ⟨h1, h2, h3, h4⟩ := h
  exact ⟨h1, vk_S.moved (Vm.Alike.refl _) h2, va_Z.moved (Vm.Alike.refl _) h3, va_Zq.moved (Vm.Alike.refl _) h4⟩
theorem ks_B.call {sa sv : Nat} {A : Nat → Prop} {s U : State} {H : Heap} {locs : List Loc} (h : ks_B sa sv A s) (hW : s.WarmedH U.vm) (hS : va_S A s.heap H locs) (hU : U.heap = H) : ks_B sa sv ks_n U := by
  obtain ⟨h4, h5, h6⟩ := h
  refine ⟨?_, ?_, ?_⟩
  · rw [hU]; exact vk_S.moved hW.alike ((h4.kept hS.2.1).narrow (fun _ q => q.elim))
  · rw [hU]; exact va_Z.moved hW.alike ((h5.kept hS.2.1).narrow (fun _ q => q.elim))
  · rw [hU]; exact va_Zq.moved hW.alike ((h6.kept hS.2.1).narrow (fun _ q => q.elim))
section KS
variable {p : Program} {l : Launch} {e : Env} {R : Room} {s : State} {m : MethodId} {args : Array Value} {below : List Frame} {meth : Method} {c : Code} {Q : State → Prop} {A : Nat → Prop} {H : Heap} {locs : List Loc} {ls : Array Slot} {pc : Nat} {cu su : Nat}
theorem ks_behind {st0 rest : List Value} {r : Option Value} {aa : Array Value} (hS : va_S A s.heap H locs) (hr : va_Run p l e R s m args below meth c H locs cu su 0 0 (F0 m pc ls st0) rest (ks_Q r aa) ks_n) (k : ∀ (H1 : Heap) (locs1 : List Loc), (∀ q : Nat, q < H.size → H1[q]? = H[q]?) → va_S A s.heap H1 locs1 → W p l e R s m args below meth c H1 locs1 cu su Q (F0 m (pc + 3) ls (r.toList ++ rest))) : W p l e R s m args below meth c H locs cu su Q (F0 m pc ls st0) := by
  intro T hT X
  obtain ⟨v, st₀, t, T', L, h0, X', hL, e1, e2, ⟨hv, hz, hkk⟩, stp⟩ := hr T hT X
  have hv : v = r := Outcome.returned.inj hv
  subst hv
  rw [h0] at hz hkk
  have hS2 : va_S A s.heap t.heap (locs ++ L) := ⟨Nat.le_trans hS.1 hz, fun q h1 h2 => by rw [hkk q (Nat.lt_of_lt_of_le h1 hS.1) (fun z => z)]; exact hS.2.1 q h1 h2, fun q hq => by
    rcases List.mem_append.mp hq with h | h
    · exact hS.2.2 q h
    · exact (hL q h).elim⟩
  obtain ⟨t2, a1, b1⟩ := k t.heap (locs ++ L) (fun q hq => hkk q hq (fun z => z)) hS2 T' e1 X'
  exact ⟨t2, stp t2 a1, b1⟩
theorem ks_cB {Ts : List Cond} {cp n : Nat} {own : String} {y : MethodName} {cc : ByteArray} {nL d : Nat} {ret : Option FieldType} (hts : ∀ w ∈ pi_good, w.before args s = true) (h1 : Cond.code y cc nL ret ∈ lw_tbl) (h2 : Cond.initialized y.cls ∈ lw_tbl) (h3 : Cond.methodLink own cp y ∈ lw_tbl) (h4 : y.cls ≠ "java/lang/invoke/MethodHandle" ∧ y.cls ≠ "java/lang/invoke/VarHandle" ∧ (parseMethodDescriptor y.desc).map (fun d => d.parameters.length) = some n) (h5 : d + 1 + 1 ≤ R.frames ∧ 8 + (nL + 11) + 60 * (d + 1) ≤ R.locals) : CallB R s args own cp y cc nL ret (Cond.code y cc nL ret :: pi_good) (pi_rm d 0 0) 0 0 n :=
  callB_of (R := R) (index := cp) (own := own) n hts (pi_ws_good h1) rfl rfl rfl (hts _ (pi_good_of h2 rfl)) (hts _ (pi_good_of h3 rfl)) h4 h5
end KS
section KM
variable {l : Launch} {sa sv : Nat}
theorem ks_arg {ls : Array Slot} {nL : Nat} {L : List (Nat × Value)} (h : lv_has ls nL L) (k : Nat) {i : Nat} {v : Value} (hk : L[k]? = some (i, v)) : ls[i]? = some (.val v) := lv_at h k hk
/-- String.coder -/
theorem ks_coder : Met l ky_cod (Cond.code ky_cod prog_21_method_152_code 1 (some .byte) :: pi_good) (pi_rm 0 0 0) (ks_P [.ref sa] sa sv) (ks_Q (some (.int 0))) 0 0 ks_n := by
  refine Met.ofW (cc := prog_21_method_152_code) (maxL := 1) (ret := some .byte) rfl rfl ?_
  intro p e s m args below meth c s₁ B hml hv
  obtain ⟨rfl, hS4, hZ, hZq⟩ := hv
  have hts := atoms_spec (ws := Cond.code ky_cod prog_21_method_152_code 1 (some .byte) :: pi_good) B.pre
  have hg : ∀ {w : Cond}, w ∈ lw_tbl → goodWord w = true → w.before _ s = true := fun h1 h2 => hts _ (List.mem_cons_of_mem _ (pi_good_of h1 h2))
  have hl := lv_entry [Value.ref sa] (n := 1) (Nat.le_of_ble_eq_true rfl)
  rw [lg_entry_eq]
  generalize (lg_sl [Value.ref sa] ++ List.replicate (1 - (lg_sl [Value.ref sa]).length) Slot.unset).toArray = ls at hl ⊢
  have hown := findClass_of_methodNamed B.named
  have hS : va_S ks_n s.heap s.heap [] := va_S.rf
  refine va_gets B.exec B.bytes hZ hS hown (hg kw_127 rfl) (fun x h => h) (kd_at kd_152 0 rfl) ?_
  refine lv_if_eq B.exec B.bytes (kd_at kd_152 1 rfl) (tgt := 13) rfl (fun h => absurd h (by decide)) (fun _ => ?_)
  refine lv_aload_n B.exec B.bytes (kd_at kd_152 2 rfl) rfl (ks_arg hl 0 rfl) ?_
  refine vk_getf B.exec B.bytes (hS4.1 0 (by decide)).2.1 hS hown (hg kw_cod rfl) (fun x h => h) (kd_at kd_152 3 rfl) ?_
  refine lv_goto B.exec B.bytes (kd_at kd_152 4 rfl) (tgt := 14) rfl ?_
  exact W.zret B.exec B.bytes B.returns rfl (fun t ht _ => ⟨rfl, hS.F ht⟩) (fun q hq => hS.2.2 q hq) (kd_at kd_152 6 rfl) B.notSynchronized
/-- String.isLatin1 -/
theorem ks_latin : Met l ky_lat (Cond.code ky_lat prog_21_method_154_code 1 (some .boolean) :: pi_good) (pi_rm 0 0 0) (ks_P [.ref sa] sa sv) (ks_Q (some (.int 1))) 0 0 ks_n := by
  refine Met.ofW (cc := prog_21_method_154_code) (maxL := 1) (ret := some .boolean) rfl rfl ?_
  intro p e s m args below meth c s₁ B hml hv
  obtain ⟨rfl, hS4, hZ, hZq⟩ := hv
  have hts := atoms_spec (ws := Cond.code ky_lat prog_21_method_154_code 1 (some .boolean) :: pi_good) B.pre
  have hg : ∀ {w : Cond}, w ∈ lw_tbl → goodWord w = true → w.before _ s = true := fun h1 h2 => hts _ (List.mem_cons_of_mem _ (pi_good_of h1 h2))
  have hl := lv_entry [Value.ref sa] (n := 1) (Nat.le_of_ble_eq_true rfl)
  rw [lg_entry_eq]
  generalize (lg_sl [Value.ref sa] ++ List.replicate (1 - (lg_sl [Value.ref sa]).length) Slot.unset).toArray = ls at hl ⊢
  have hown := findClass_of_methodNamed B.named
  have hS : va_S ks_n s.heap s.heap [] := va_S.rf
  refine va_gets B.exec B.bytes hZ hS hown (hg kw_127 rfl) (fun x h => h) (kd_at kd_154 0 rfl) ?_
  refine lv_if_eq B.exec B.bytes (kd_at kd_154 1 rfl) (tgt := 17) rfl (fun h => absurd h (by decide)) (fun _ => ?_)
  refine lv_aload_n B.exec B.bytes (kd_at kd_154 2 rfl) rfl (ks_arg hl 0 rfl) ?_
  refine vk_getf B.exec B.bytes (hS4.1 0 (by decide)).2.1 hS hown (hg kw_cod rfl) (fun x h => h) (kd_at kd_154 3 rfl) ?_
  refine lv_if_ne B.exec B.bytes (kd_at kd_154 4 rfl) (tgt := 17) rfl (fun h => absurd rfl h) (fun _ => ?_)
  refine lv_iconst B.exec B.bytes (kd_at kd_154 5 rfl) rfl ?_
  refine lv_goto B.exec B.bytes (kd_at kd_154 6 rfl) (tgt := 18) rfl ?_
  exact W.zret B.exec B.bytes B.returns rfl (fun t ht _ => ⟨rfl, hS.F ht⟩) (fun q hq => hS.2.2 q hq) (kd_at kd_154 7 rfl) B.notSynchronized
/-- Preconditions.checkIndex -/
theorem ks_pre {i n : Int32} {v : Value} (hv1 : v.category = 1) (hi : ¬ i < 0) (hn : i < n) : Met l ky_pre (Cond.code ky_pre prog_29_method_11_code 3 (some .int) :: pi_good) (pi_rm 0 0 0) (ks_P [.int i, .int n, v] sa sv) (ks_Q (some (.int i))) 0 0 ks_n := by
  have hlen : (lg_sl [Value.int i, Value.int n, v]).length ≤ 3 := by
    cases v <;> first | exact Nat.le_of_ble_eq_true rfl | (exact absurd hv1 (show ¬ ((2 : Nat) = 1) by decide))
  refine Met.ofW (cc := prog_29_method_11_code) (maxL := 3) (ret := some .int) rfl rfl ?_
  intro p e s m args below meth c s₁ B hml hv
  obtain ⟨rfl, hS4, hZ, hZq⟩ := hv
  have hts := atoms_spec (ws := Cond.code ky_pre prog_29_method_11_code 3 (some .int) :: pi_good) B.pre
  have hgs : ∀ w ∈ pi_good, w.before ([Value.int i, Value.int n, v]).toArray s = true := fun w hw => hts _ (List.mem_cons_of_mem _ hw)
  have hg : ∀ {w : Cond}, w ∈ lw_tbl → goodWord w = true → w.before ([Value.int i, Value.int n, v]).toArray s = true := fun h1 h2 => hgs _ (pi_good_of h1 h2)
  have hl := lv_entry [Value.int i, Value.int n, v] (n := 3) hlen
  rw [lg_entry_eq]
  generalize (lg_sl [Value.int i, Value.int n, v] ++ List.replicate (3 - (lg_sl [Value.int i, Value.int n, v]).length) Slot.unset).toArray = ls at hl ⊢
  have hown := findClass_of_methodNamed B.named
  have hS : va_S ks_n s.heap s.heap [] := va_S.rf
  refine lv_iload_n B.exec B.bytes (kd_at kd_11 0 rfl) rfl (ks_arg hl 0 rfl) ?_
  refine lv_if_lt B.exec B.bytes (kd_at kd_11 1 rfl) (tgt := 9) rfl (fun h => absurd h hi) (fun _ => ?_)
  refine lv_iload_n B.exec B.bytes (kd_at kd_11 2 rfl) rfl (ks_arg hl 0 rfl) ?_
  refine lv_iload_n B.exec B.bytes (kd_at kd_11 3 rfl) rfl (ks_arg hl 1 rfl) ?_
  refine lv_icmp_lt B.exec B.bytes (kd_at kd_11 4 rfl) (tgt := 16) rfl (fun _ => ?_) (fun h => absurd hn h)
  refine lv_iload_n B.exec B.bytes (kd_at kd_11 5 rfl) rfl (ks_arg hl 0 rfl) ?_
  exact W.zret B.exec B.bytes B.returns rfl (fun t ht _ => ⟨rfl, hS.F ht⟩) (fun q hq => hS.2.2 q hq) (kd_at kd_11 6 rfl) B.notSynchronized
/-- String.checkIndex -/
theorem ks_chk {i n : Int32} (hi : ¬ i < 0) (hn : i < n) : Met l ky_chk (Cond.code ky_chk prog_21_method_155_code 2 none :: pi_good) (pi_rm 1 0 0) (ks_P [.int i, .int n] sa sv) (ks_Q none) 0 0 ks_n := by
  refine Met.ofW (cc := prog_21_method_155_code) (maxL := 2) (ret := none) rfl rfl ?_
  intro p e s m args below meth c s₁ B hml hv
  obtain ⟨rfl, hS4, hZ, hZq⟩ := hv
  have hts := atoms_spec (ws := Cond.code ky_chk prog_21_method_155_code 2 none :: pi_good) B.pre
  have hgs : ∀ w ∈ pi_good, w.before ([Value.int i, Value.int n]).toArray s = true := fun w hw => hts _ (List.mem_cons_of_mem _ hw)
  have hg : ∀ {w : Cond}, w ∈ lw_tbl → goodWord w = true → w.before ([Value.int i, Value.int n]).toArray s = true := fun h1 h2 => hgs _ (pi_good_of h1 h2)
  have hl := lv_entry [Value.int i, Value.int n] (n := 2) (Nat.le_of_ble_eq_true rfl)
  rw [lg_entry_eq]
  generalize (lg_sl [Value.int i, Value.int n] ++ List.replicate (2 - (lg_sl [Value.int i, Value.int n]).length) Slot.unset).toArray = ls at hl ⊢
  have hown := findClass_of_methodNamed B.named
  have hS : va_S ks_n s.heap s.heap [] := va_S.rf
  have hfix : CallFix p m c prog_21_method_155_code 2 s ([Value.int i, Value.int n]).toArray pi_good "java/lang/String" := ⟨B.exec, B.bytes, hml, hown, hgs⟩
  refine lv_iload_n B.exec B.bytes (kd_at kd_155 0 rfl) rfl (ks_arg hl 0 rfl) ?_
  refine lv_iload_n B.exec B.bytes (kd_at kd_155 1 rfl) rfl (ks_arg hl 1 rfl) ?_
  have hgo : ∀ v : Value, v.category = 1 → va_Z "jdk/internal/util/Preconditions" "SIOOBE_FORMATTER" "Ljava/util/function/BiFunction;" v ks_n s s.heap → W p l e (pi_rm 1 0 0) s m ([Value.int i, Value.int n]).toArray below meth c s.heap [] 0 0 (MQ below (ks_Q none) ([Value.int i, Value.int n]).toArray s 0 0 ks_n) (F0 m 2 ls [.int n, .int i]) := by
    intro v hv1 hZ1
    refine va_gets B.exec B.bytes hZ1 hS hown (hg kw_143 rfl) (fun x h => h) (kd_at kd_155 2 rfl) ?_
    refine ks_behind (aa := [Value.int i, Value.int n, v].toArray) (rest := []) (r := some (.int i)) hS (va_runS (As := [Value.int i, Value.int n, v]) hfix (ks_pre (sa := sa) (sv := sv) hv1 hi hn) ⟨ks_cB (Ts := []) hgs kw_147 kw_iP kw_145 ⟨by decide, by decide, kp_pre⟩ (by show (2 ≤ 2 ∧ 8 + (3 + 11) + 60 ≤ 120); decide), hg kw_146 rfl⟩ ⟨ks_P.blind, fun U hU hW => ⟨rfl, ks_B.call ⟨hS4, hZ, hZq⟩ hW hS hU⟩⟩ rfl rfl hl.1 rfl (lv_room (by decide)) (kd_at kd_155 3 rfl) ⟨Nat.le_refl _, Nat.le_refl _⟩) ?_
    intro H1 locs1 hq1 hS1
    refine lv_pop B.exec B.bytes (kd_at kd_155 4 rfl) rfl ?_
    exact W.vret B.exec B.bytes B.returns (fun t ht _ => ⟨rfl, hS1.F ht⟩) (fun q hq => hS1.2.2 q hq) (kd_at kd_155 5 rfl) B.notSynchronized
  rcases hZq with h | ⟨t, h⟩
  · exact hgo .null rfl h
  · exact hgo (.ref t) rfl h
theorem ks_lt {i : Int32} (hi : ¬ (i < 0 ∨ pi_bytes.length ≤ i.toNatClampNeg)) : ¬ i < 0 ∧ i < Int32.ofNat pi_bytes.length := by
  refine ⟨fun h => hi (Or.inl h), ?_⟩
  have h0 : ¬ i < 0 := fun h => hi (Or.inl h)
  have h1 : i.toNatClampNeg < pi_bytes.length := by
    apply Classical.byContradiction
    intro h
    exact hi (Or.inr (by omega))
  have e : (Int32.ofNat pi_bytes.length).toInt = (pi_bytes.length : Int) := by decide +kernel
  rw [Int32.lt_iff_toInt_lt, e]
  rw [Int32.lt_iff_toInt_lt] at h0
  have z : (0 : Int32).toInt = 0 := rfl
  have h2 : i.toNatClampNeg = i.toInt.toNat := rfl
  omega
theorem ks_byt : ∀ k, k < pi_bytes.length → ((pi_bytes.getD k 0 &&& (Int16.ofInt 255).toInt32).toUInt32 % 65536).toInt32 = pi_bytes.getD k 0 ∧ narrow .char (.int (pi_bytes.getD k 0)) = .int (pi_bytes.getD k 0) := by decide +kernel
/-- StringLatin1.charAt -/
theorem ks_lch {i : Int32} (hi : ¬ (i < 0 ∨ pi_bytes.length ≤ i.toNatClampNeg)) : Met l ky_lch (Cond.code ky_lch prog_22_method_2_code 2 (some .char) :: pi_good) (pi_rm 2 0 0) (ks_P [.ref sv, .int i] sa sv) (ks_Q (some (.int (pi_bytes.getD i.toNatClampNeg 0)))) 0 0 ks_n := by
  have hk : i.toNatClampNeg < pi_bytes.length := by
    apply Classical.byContradiction
    intro h
    exact hi (Or.inr (by omega))
  obtain ⟨hb1, hb2⟩ := ks_byt i.toNatClampNeg hk
  refine Met.ofW (cc := prog_22_method_2_code) (maxL := 2) (ret := some .char) rfl rfl ?_
  intro p e s m args below meth c s₁ B hml hv
  obtain ⟨rfl, hS4, hZ, hZq⟩ := hv
  have hts := atoms_spec (ws := Cond.code ky_lch prog_22_method_2_code 2 (some .char) :: pi_good) B.pre
  have hgs : ∀ w ∈ pi_good, w.before ([Value.ref sv, Value.int i]).toArray s = true := fun w hw => hts _ (List.mem_cons_of_mem _ hw)
  have hg : ∀ {w : Cond}, w ∈ lw_tbl → goodWord w = true → w.before ([Value.ref sv, Value.int i]).toArray s = true := fun h1 h2 => hgs _ (pi_good_of h1 h2)
  have hl := lv_entry [Value.ref sv, Value.int i] (n := 2) (Nat.le_of_ble_eq_true rfl)
  rw [lg_entry_eq]
  generalize (lg_sl [Value.ref sv, Value.int i] ++ List.replicate (2 - (lg_sl [Value.ref sv, Value.int i]).length) Slot.unset).toArray = ls at hl ⊢
  have hown := findClass_of_methodNamed B.named
  have hS : va_S ks_n s.heap s.heap [] := va_S.rf
  have hfix : CallFix p m c prog_22_method_2_code 2 s ([Value.ref sv, Value.int i]).toArray pi_good "java/lang/StringLatin1" := ⟨B.exec, B.bytes, hml, hown, hgs⟩
  have hT : va_T .byte sv pi_bytes.length (fun j => .int (pi_bytes.getD j 0)) ks_n s s.heap := ks_T hS4
  refine lv_iload_n B.exec B.bytes (kd_at kd_2 0 rfl) rfl (ks_arg hl 1 rfl) ?_
  refine lv_aload_n B.exec B.bytes (kd_at kd_2 1 rfl) rfl (ks_arg hl 0 rfl) ?_
  refine va_tlen B.exec B.bytes hT hS (v := Int32.ofNat pi_bytes.length) rfl (kd_at kd_2 2 rfl) ?_
  refine ks_behind (aa := [Value.int i, Value.int (Int32.ofNat pi_bytes.length)].toArray) (rest := []) (r := none) hS (va_runS (As := [Value.int i, Value.int (Int32.ofNat pi_bytes.length)]) hfix (ks_chk (sa := sa) (sv := sv) (ks_lt hi).1 (ks_lt hi).2) ⟨ks_cB (Ts := []) hgs kw_142 kw_iS kw_140 ⟨by decide, by decide, kp_chk⟩ (by show (3 ≤ 3 ∧ 8 + (2 + 11) + 120 ≤ 180); decide), hg kw_141 rfl⟩ ⟨ks_P.blind, fun U hU hW => ⟨rfl, ks_B.call ⟨hS4, hZ, hZq⟩ hW hS hU⟩⟩ rfl rfl hl.1 rfl (lv_room (by decide)) (kd_at kd_2 3 rfl) ⟨Nat.le_refl _, Nat.le_refl _⟩) ?_
  intro H1 locs1 hq1 hS1
  refine lv_aload_n B.exec B.bytes (kd_at kd_2 4 rfl) rfl (ks_arg hl 0 rfl) ?_
  refine lv_iload_n B.exec B.bytes (kd_at kd_2 5 rfl) rfl (ks_arg hl 1 rfl) ?_
  refine va_tb B.exec B.bytes hT hS1 hi (v := .int (pi_bytes.getD i.toNatClampNeg 0)) rfl (kd_at kd_2 6 rfl) ?_
  refine lv_sipush B.exec B.bytes (kd_at kd_2 7 rfl) rfl ?_
  refine lv_iand B.exec B.bytes (kd_at kd_2 8 rfl) ?_
  refine lv_i2c B.exec B.bytes (kd_at kd_2 9 rfl) hb1 ?_
  exact W.zret B.exec B.bytes B.returns hb2 (fun t ht _ => ⟨rfl, hS1.F ht⟩) (fun q hq => hS1.2.2 q hq) (kd_at kd_2 10 rfl) B.notSynchronized
/-- String.charAt -/
theorem ks_chr {i : Int32} (hi : ¬ (i < 0 ∨ pi_bytes.length ≤ i.toNatClampNeg)) : Met l ky_chr (Cond.code ky_chr prog_21_method_56_code 2 (some .char) :: pi_good) (pi_rm 3 0 0) (ks_P [.ref sa, .int i] sa sv) (ks_Q (some (.int (pi_bytes.getD i.toNatClampNeg 0)))) 0 0 ks_n := by
  have hk : i.toNatClampNeg < pi_bytes.length := by
    apply Classical.byContradiction
    intro h
    exact hi (Or.inr (by omega))
  obtain ⟨hb1, hb2⟩ := ks_byt i.toNatClampNeg hk
  refine Met.ofW (cc := prog_21_method_56_code) (maxL := 2) (ret := some .char) rfl rfl ?_
  intro p e s m args below meth c s₁ B hml hv
  obtain ⟨rfl, hS4, hZ, hZq⟩ := hv
  have hts := atoms_spec (ws := Cond.code ky_chr prog_21_method_56_code 2 (some .char) :: pi_good) B.pre
  have hgs : ∀ w ∈ pi_good, w.before ([Value.ref sa, Value.int i]).toArray s = true := fun w hw => hts _ (List.mem_cons_of_mem _ hw)
  have hg : ∀ {w : Cond}, w ∈ lw_tbl → goodWord w = true → w.before ([Value.ref sa, Value.int i]).toArray s = true := fun h1 h2 => hgs _ (pi_good_of h1 h2)
  have hl := lv_entry [Value.ref sa, Value.int i] (n := 2) (Nat.le_of_ble_eq_true rfl)
  rw [lg_entry_eq]
  generalize (lg_sl [Value.ref sa, Value.int i] ++ List.replicate (2 - (lg_sl [Value.ref sa, Value.int i]).length) Slot.unset).toArray = ls at hl ⊢
  have hown := findClass_of_methodNamed B.named
  have hS : va_S ks_n s.heap s.heap [] := va_S.rf
  have hfix : CallFix p m c prog_21_method_56_code 2 s ([Value.ref sa, Value.int i]).toArray pi_good "java/lang/String" := ⟨B.exec, B.bytes, hml, hown, hgs⟩
  refine lv_aload_n B.exec B.bytes (kd_at kd_56 0 rfl) rfl (ks_arg hl 0 rfl) ?_
  refine ks_behind (aa := [Value.ref sa].toArray) (rest := []) (r := some (.int 1)) hS (va_runV (C := "java/lang/String") (b := sa) (As := []) hfix (ks_latin (sa := sa) (sv := sv)) ⟨ks_cB (Ts := []) hgs kw_136 kw_iS kw_133 ⟨by decide, by decide, kp_lat⟩ (by show (2 ≤ 4 ∧ 8 + (1 + 11) + 60 ≤ 240); decide), hg kw_134 rfl, hg kw_135 rfl⟩ ⟨ks_P.blind, vk_recv hS4 (by decide : 0 < 1) hS, fun U hU hW => ⟨rfl, ks_B.call ⟨hS4, hZ, hZq⟩ hW hS hU⟩⟩ rfl rfl hl.1 rfl (lv_room (by decide)) (kd_at kd_56 1 rfl) ⟨Nat.le_refl _, Nat.le_refl _⟩) ?_
  intro H1 locs1 hq1 hS1
  refine lv_if_eq B.exec B.bytes (kd_at kd_56 2 rfl) (tgt := 16) rfl (fun h => absurd h (by decide)) (fun _ => ?_)
  refine lv_aload_n B.exec B.bytes (kd_at kd_56 3 rfl) rfl (ks_arg hl 0 rfl) ?_
  refine vk_getf B.exec B.bytes (hS4.1 0 (by decide)).2.2.1 hS1 hown (hg kw_val rfl) (fun x h => h) (kd_at kd_56 4 rfl) ?_
  refine lv_iload_n B.exec B.bytes (kd_at kd_56 5 rfl) rfl (ks_arg hl 1 rfl) ?_
  refine ks_behind (aa := [Value.ref sv, Value.int i].toArray) (rest := []) (r := some (.int (pi_bytes.getD i.toNatClampNeg 0))) hS1 (va_runS (As := [Value.ref sv, Value.int i]) hfix (ks_lch (sa := sa) (sv := sv) hi) ⟨ks_cB (Ts := []) hgs kw_139 kw_iL kw_137 ⟨by decide, by decide, kp_lch⟩ (by show (4 ≤ 4 ∧ 8 + (2 + 11) + 180 ≤ 240); decide), hg kw_138 rfl⟩ ⟨ks_P.blind, fun U hU hW => ⟨rfl, ks_B.call ⟨hS4, hZ, hZq⟩ hW hS1 hU⟩⟩ rfl rfl hl.1 rfl (lv_room (by decide)) (kd_at kd_56 6 rfl) ⟨Nat.le_refl _, Nat.le_refl _⟩) ?_
  intro H2 locs2 hq2 hS2
  exact W.zret B.exec B.bytes B.returns hb2 (fun t ht _ => ⟨rfl, hS2.F ht⟩) (fun q hq => hS2.2.2 q hq) (kd_at kd_56 7 rfl) B.notSynchronized
theorem ks_shr : Int32.ofNat pi_bytes.length >>> ((0 : Int32) &&& 31) = Int32.ofNat pi_bytes.length := by decide +kernel
/-- String.length -/
theorem ks_len : Met l ky_len (Cond.code ky_len prog_21_method_54_code 1 (some .int) :: pi_good) (pi_rm 1 0 0) (ks_P [.ref sa] sa sv) (ks_Q (some (.int (Int32.ofNat pi_bytes.length)))) 0 0 ks_n := by
  refine Met.ofW (cc := prog_21_method_54_code) (maxL := 1) (ret := some .int) rfl rfl ?_
  intro p e s m args below meth c s₁ B hml hv
  obtain ⟨rfl, hS4, hZ, hZq⟩ := hv
  have hts := atoms_spec (ws := Cond.code ky_len prog_21_method_54_code 1 (some .int) :: pi_good) B.pre
  have hgs : ∀ w ∈ pi_good, w.before ([Value.ref sa]).toArray s = true := fun w hw => hts _ (List.mem_cons_of_mem _ hw)
  have hg : ∀ {w : Cond}, w ∈ lw_tbl → goodWord w = true → w.before ([Value.ref sa]).toArray s = true := fun h1 h2 => hgs _ (pi_good_of h1 h2)
  have hl := lv_entry [Value.ref sa] (n := 1) (Nat.le_of_ble_eq_true rfl)
  rw [lg_entry_eq]
  generalize (lg_sl [Value.ref sa] ++ List.replicate (1 - (lg_sl [Value.ref sa]).length) Slot.unset).toArray = ls at hl ⊢
  have hown := findClass_of_methodNamed B.named
  have hS : va_S ks_n s.heap s.heap [] := va_S.rf
  have hfix : CallFix p m c prog_21_method_54_code 1 s ([Value.ref sa]).toArray pi_good "java/lang/String" := ⟨B.exec, B.bytes, hml, hown, hgs⟩
  have hT : va_T .byte sv pi_bytes.length (fun j => .int (pi_bytes.getD j 0)) ks_n s s.heap := ks_T hS4
  refine lv_aload_n B.exec B.bytes (kd_at kd_54 0 rfl) rfl (ks_arg hl 0 rfl) ?_
  refine vk_getf B.exec B.bytes (hS4.1 0 (by decide)).2.2.1 hS hown (hg kw_val rfl) (fun x h => h) (kd_at kd_54 1 rfl) ?_
  refine va_tlen B.exec B.bytes hT hS (v := Int32.ofNat pi_bytes.length) rfl (kd_at kd_54 2 rfl) ?_
  refine lv_aload_n B.exec B.bytes (kd_at kd_54 3 rfl) rfl (ks_arg hl 0 rfl) ?_
  refine ks_behind (aa := [Value.ref sa].toArray) (rest := [.int (Int32.ofNat pi_bytes.length)]) (r := some (.int 0)) hS (va_runV (C := "java/lang/String") (b := sa) (As := []) hfix (ks_coder (sa := sa) (sv := sv)) ⟨ks_cB (Ts := []) hgs kw_126 kw_iS kw_123 ⟨by decide, by decide, kp_cod⟩ (by show (2 ≤ 2 ∧ 8 + (1 + 11) + 60 ≤ 120); decide), hg kw_124 rfl, hg kw_125 rfl⟩ ⟨ks_P.blind, vk_recv hS4 (by decide : 0 < 1) hS, fun U hU hW => ⟨rfl, ks_B.call ⟨hS4, hZ, hZq⟩ hW hS hU⟩⟩ rfl rfl hl.1 rfl (lv_room (by show 1 ≤ 8; decide)) (kd_at kd_54 4 rfl) ⟨Nat.le_refl _, Nat.le_refl _⟩) ?_
  intro H1 locs1 hq1 hS1
  refine lv_ishr B.exec B.bytes (kd_at kd_54 5 rfl) ?_
  rw [ks_shr]
  exact W.zret B.exec B.bytes B.returns rfl (fun t ht _ => ⟨rfl, hS1.F ht⟩) (fun q hq => hS1.2.2 q hq) (kd_at kd_54 6 rfl) B.notSynchronized
end KM
section PIX0
variable {p : Program} {l : Launch} {e : Env} {R : Room} {s : State} {m : MethodId} {args : Array Value} {below : List Frame} {meth : Method} {c : Code} {Q : State → Prop} {D : va_G} {cA : Nat → ClassId} {sa sv : Nat} {A : Nat → Prop} {y : MethodName} {cc : ByteArray} {mi : pi_M} {ad : Nat → Nat} {cu su : Nat}
theorem qs_len (C : pi_Cx p s m args meth c y cc mi D cA sa sv A) (hsa : ad pi_str = sa) {pc cp : Nat} {lv : pi_L} {r : List Value} {w : pi_W} (hlk : Cond.methodLink y.cls cp ⟨"java/lang/String", "length", "()I"⟩ ∈ lw_tbl) (hr : pi_cats r ≤ 8) (hfr : 3 ≤ R.frames) (hlo : 180 ≤ R.locals) (hcu : cu ≤ R.cells) (hsu : su ≤ R.slots) (hd : decode cc pc = .ok (.invokevirtual cp, 3)) (k : pi_Wat p l e R s m args below meth c Q D cA A mi.2.1 ad (pc + 3, lv, .int (Int32.ofNat pi_bytes.length) :: r, w) cu su) : pi_Wat p l e R s m args below meth c Q D cA A mi.2.1 ad (pc, lv, .ref pi_str :: r, w) cu su := by
  intro H locs ls hP hD hS hl
  have hts := C.2.2.2.1
  have hB : ks_B sa sv A s := C.2.2.2.2.1.2.2.2
  have hfix : CallFix p m c cc mi.2.1 s args pi_good y.cls := ⟨C.1, C.2.1, C.2.2.2.2.2.1, C.2.2.1, hts⟩
  have hst : (Value.ref pi_str :: r).map (pi_rv ad) = [].reverse ++ .ref sa :: r.map (pi_rv ad) := by
    show pi_rv ad (.ref pi_str) :: _ = _
    have : pi_rv ad (.ref pi_str) = .ref sa := by show Value.ref (ad pi_str) = _; rw [hsa]
    rw [this]
    rfl
  refine ks_behind (aa := [Value.ref sa].toArray) (rest := r.map (pi_rv ad)) (r := some (.int (Int32.ofNat pi_bytes.length))) hS (va_runV (C := "java/lang/String") (b := sa) (As := []) hfix (ks_len (sa := sa) (sv := sv)) ⟨ks_cB (Ts := []) hts kw_122 kw_iS hlk ⟨by decide, by decide, kp_len⟩ (by constructor <;> omega), hts _ (pi_good_of kw_120 rfl), hts _ (pi_good_of kw_121 rfl)⟩ ⟨ks_P.blind, vk_recv hB.1 (by decide : 0 < 1) hS, fun U hU hW => ⟨rfl, hB.call hW hS hU⟩⟩ rfl rfl hl.1 hst (lv_room (by rw [pi_cats_rv]; exact hr)) hd ⟨hcu, hsu⟩) ?_
  intro H1 locs1 hq1 hS1
  exact k H1 locs1 ls (hP.kept (fun k q hk => hq1 _ (hP k q hk).lt)) hD hS1 hl
theorem qs_chr (C : pi_Cx p s m args meth c y cc mi D cA sa sv A) (hsa : ad pi_str = sa) {pc cp : Nat} {lv : pi_L} {r : List Value} {w : pi_W} {i : Int32} (hi : ¬ (i < 0 ∨ pi_bytes.length ≤ i.toNatClampNeg)) (hlk : Cond.methodLink y.cls cp ⟨"java/lang/String", "charAt", "(I)C"⟩ ∈ lw_tbl) (hr : pi_cats r ≤ 8) (hfr : 5 ≤ R.frames) (hlo : 300 ≤ R.locals) (hcu : cu ≤ R.cells) (hsu : su ≤ R.slots) (hd : decode cc pc = .ok (.invokevirtual cp, 3)) (k : pi_Wat p l e R s m args below meth c Q D cA A mi.2.1 ad (pc + 3, lv, .int (pi_bytes.getD i.toNatClampNeg 0) :: r, w) cu su) : pi_Wat p l e R s m args below meth c Q D cA A mi.2.1 ad (pc, lv, .int i :: .ref pi_str :: r, w) cu su := by
  intro H locs ls hP hD hS hl
  have hts := C.2.2.2.1
  have hB : ks_B sa sv A s := C.2.2.2.2.1.2.2.2
  have hfix : CallFix p m c cc mi.2.1 s args pi_good y.cls := ⟨C.1, C.2.1, C.2.2.2.2.2.1, C.2.2.1, hts⟩
  have hst : (Value.int i :: Value.ref pi_str :: r).map (pi_rv ad) = [Value.int i].reverse ++ .ref sa :: r.map (pi_rv ad) := by
    show pi_rv ad (.int i) :: pi_rv ad (.ref pi_str) :: _ = _
    have : pi_rv ad (.ref pi_str) = .ref sa := by show Value.ref (ad pi_str) = _; rw [hsa]
    rw [this]
    rfl
  refine ks_behind (aa := [Value.ref sa, Value.int i].toArray) (rest := r.map (pi_rv ad)) (r := some (.int (pi_bytes.getD i.toNatClampNeg 0))) hS (va_runV (C := "java/lang/String") (b := sa) (As := [Value.int i]) hfix (ks_chr (sa := sa) (sv := sv) hi) ⟨ks_cB (Ts := []) hts kw_132 kw_iS hlk ⟨by decide, by decide, kp_chr⟩ (by constructor <;> omega), hts _ (pi_good_of kw_130 rfl), hts _ (pi_good_of kw_131 rfl)⟩ ⟨ks_P.blind, vk_recv hB.1 (by decide : 0 < 1) hS, fun U hU hW => ⟨rfl, hB.call hW hS hU⟩⟩ rfl rfl hl.1 hst (lv_room (by rw [pi_cats_rv]; exact hr)) hd ⟨hcu, hsu⟩) ?_
  intro H1 locs1 hq1 hS1
  exact k H1 locs1 ls (hP.kept (fun k q hk => hq1 _ (hP k q hk).lt)) hD hS1 hl
end PIX0
