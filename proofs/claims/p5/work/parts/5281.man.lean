/-! ===== ReadBound.man: its words, its code, what it does from 26 on ===== -/
def mn_286 : MethodName := ⟨"ReadBound", "man", "(II)I"⟩
def mc_286 : List (Nat × Instr × Nat) := [(0, .aload_n 0, 1), (1, .iconst 4, 1), (2, .iload_n 1, 1), (3, .invokevirtual 148, 3), (6, .ifCond .eq 12, 3), (9, .iload_n 2, 1), (10, .ifCond .lt 8, 3), (13, .iload_n 2, 1), (14, .iconst 5, 1), (15, .if_icmp .le 11, 3), (26, .iload_n 2, 1), (27, .tableswitch 107 0 4 #[33, 47, 62, 77, 92], 33), (60, .aload_n 0, 1), (61, .getfield 44, 3), (64, .getfield 163, 3), (67, .iconst 2, 1), (68, .iload_n 1, 1), (69, .iadd, 1), (70, .invokestatic 152, 3), (73, .ireturn, 1), (74, .aload_n 0, 1), (75, .getfield 19, 3), (78, .getfield 37, 3), (81, .bipush 50, 2), (83, .iload_n 1, 1), (84, .iadd, 1), (85, .invokestatic 152, 3), (88, .ireturn, 1), (89, .aload_n 0, 1), (90, .getfield 44, 3), (93, .getfield 163, 3), (96, .bipush 8, 2), (98, .iload_n 1, 1), (99, .iadd, 1), (100, .invokestatic 152, 3), (103, .ireturn, 1), (104, .aload_n 0, 1), (105, .getfield 19, 3), (108, .getfield 37, 3), (111, .bipush 56, 2), (113, .iload_n 1, 1), (114, .iadd, 1), (115, .invokestatic 152, 3), (118, .ireturn, 1), (119, .aload_n 0, 1), (120, .getfield 44, 3), (123, .getfield 163, 3), (126, .bipush 14, 2), (128, .iload_n 1, 1), (129, .iadd, 1), (130, .invokestatic 152, 3), (133, .ireturn, 1), (134, .aload_n 0, 1), (135, .getfield 44, 3), (138, .getfield 163, 3), (141, .bipush 20, 2), (143, .iload_n 1, 1), (144, .iadd, 1), (145, .invokestatic 152, 3), (148, .ireturn, 1)]
def mn_G : af_G := ((10, 3, (some .int), mc_286), aw_Sh, [ak_108, ak_109], 2, [], [(3, [.inl (0, [2])], [], ([(2, (-2147483648), 2147483647)], [], [])), (2, [.inl (0, [])], [], ([], [], []))], [], [], [])
def mn_s : af_S := (2, [(0, .inr (.inl 0)), (1, .inl (0, [0])), (2, .inl (0, [1]))], [], [], ([(0, (-2147483648), 2147483647), (1, 0, 5)], [], []))
set_option maxRecDepth 1000000 in
theorem mn_r : af_run 16 mn_G none (26, mn_s) = true := by decide +kernel
set_option maxRecDepth 1000000 in
theorem mn_l : (mn_G.2.2.2.2.2.2.1.take 0).all (fun q => af_pos q.2.1.2.2.2.2 q.2.2 && af_run 16 mn_G (some q.2.2) (q.1, q.2.1)) = true := by decide +kernel
theorem mn_w : ax_wf mn_G.2.2.2.1 mn_G.2.2.2.2.2.1 mn_G.2.2.2.2.2.2.1 = true := by decide +kernel
theorem mn_h : ∀ K ∈ mn_G.2.2.1, af_Holds mn_G.2.1 1 K := (af_HC ah_108 (by decide) (af_HC ah_109 (by decide) af_HN))
def hm286 : pi_M := (10, 3, (some .int), false, mc_286)
theorem wm_code : Cond.code mn_286 prog_1_method_7_code 3 (some .int) ∈ lw_tbl := by decide +kernel
theorem wm_im : Cond.instanceMethod mn_286 ∈ lw_tbl := by decide +kernel
theorem wm_sel : Cond.selects "ReadBound" mn_286 mn_286 ∈ lw_tbl := by decide +kernel
theorem wm_lk : Cond.methodLink "ReadBoundLaw" 7 mn_286 ∈ lw_tbl := by decide +kernel
theorem wm_uS : Cond.laysStatic Bundle.tN "UNASSIGNED_STACK" Bundle.steD ∈ lw_tbl := by decide +kernel
theorem wm_uL : Cond.laysStatic Bundle.tN "SUPPRESSED_SENTINEL" Bundle.listD ∈ lw_tbl := by decide +kernel
theorem wm_iT : Cond.initialized Bundle.tN ∈ lw_tbl := by decide +kernel
theorem wm_iN : Cond.initialized "java/util/NoSuchElementException" ∈ lw_tbl := by decide +kernel
theorem wm_ck : Cond.classLink "ReadBound" 160 "java/util/NoSuchElementException" ∈ lw_tbl := by decide +kernel
set_option maxRecDepth 100000 in
theorem wm_dec : (mc_286.all fun q => decide (decode prog_1_method_7_code q.1 = .ok (q.2.1, q.2.2))) = true := by decide +kernel
set_option maxRecDepth 100000 in
theorem mo_286 : pi_okM (mn_286, prog_1_method_7_code, hm286) 2 false := ⟨by decide, rfl, wm_code, (mo_of pz_111 lk_x0).2.2.2.1, (fun h => by cases h), fun _ => wm_im, fun _ _ => wm_sel, by decide, by decide, by decide +kernel, (fun h => by cases h), wm_dec⟩
theorem lx_5 {w : pi_W} (hI : lw_I w) (a b : Int32) (hb : 0 ≤ b.toInt ∧ b.toInt ≤ 5) : hq_F 24 hm286 (fun r w' => (lw_I w' ∧ lw_q lw_pr w w') ∧ ∃ v : Int32, r = some (.int v)) (26, [(0, .ref 0), (1, .int a), (2, .int b)], [], w) := by
  have ia : (-2147483648 : Int) ≤ a.toInt ∧ a.toInt ≤ 2147483647 := af_i32 a
  have hSat : af_Sat aw_Sh (fun v => if v = 0 then a.toInt else b.toInt) mn_s (26, [(0, .ref 0), (1, .int a), (2, .int b)], [], w) := by
    refine ⟨?_, trivial, hI.1, (fun e he => by cases he), ?_, (fun e he => by cases he), (fun e he => by cases he)⟩
    · intro e he
      simp only [mn_s, List.mem_cons, List.not_mem_nil, or_false] at he
      rcases he with rfl | rfl | rfl
      · exact ⟨_, rfl, rfl⟩
      · exact ⟨_, rfl, (fun v hv => by simp at hv; subst hv; decide), a, rfl, by simp [af_ev]⟩
      · exact ⟨_, rfl, (fun v hv => by simp at hv; subst hv; decide), b, rfl, by simp [af_ev]⟩
    · intro e he
      simp only [mn_s, List.mem_cons, List.not_mem_nil, or_false] at he
      rcases he with rfl | rfl <;> refine ⟨by decide, ?_⟩ <;> simp <;> omega
  refine ax_seg (Φ := hq_F 24 hm286 (fun r w' => (lw_I w' ∧ lw_q lw_pr w w') ∧ ∃ v : Int32, r = some (.int v))) (G := mn_G) (d := 23) (mi := hm286) (nl := 0) rfl (fun K hK => (mn_h K hK).mono (by omega)) mn_w mn_l mn_r rfl hSat (fun s s' h1 h2 => hq_F.to h1 h2) (fun s hfin => hq_fin hfin (fun r w' hC' hF' hP' => ?_)) (fun s' q ρ' hq => absurd hq (by simp [mn_G]))
  obtain ⟨P, hPm, ρ2, -, hst, -⟩ := hP'
  exact ⟨⟨hI.fr hC' hF' rfl, lw_q.of hF' (by decide)⟩, hd_r1 (Ps := mn_G.2.2.2.2.2.1) rfl ⟨P, hPm, _, ρ2, hst⟩⟩
/-- words that are kept over calls, though they are no good ones -/
theorem mm_cst {w : Cond} {args args' : Array Value} {s U : State} (hw : w.faceAtom = true ∧ w.onTables = true) (h : s.vm.Alike U.vm) (hh : w.before args s = true) : w.before args' U = true := by
  have e := Cond.onTables_vm (A := args') (A' := args) (U := U) (U' := s) U.vm w hw.2
  have e2 := Cond.faceAtom_setVm (args := args) h w hw.1 hh
  rw [← e] at e2
  exact e2
def mm_at : List Cond := vx_at0 "ReadBound" 162 "java/util/NoSuchElementException" ["java/lang/RuntimeException", "java/lang/Exception"]
set_option maxRecDepth 100000 in
theorem mm_atT : ∀ w ∈ mm_at, w ∈ lw_tbl := by decide +kernel
def mm_B : List Cond := mm_at.filter (fun w => !goodWord w)
theorem mm_Bf : ∀ w ∈ mm_B, w.faceAtom = true ∧ w.onTables = true := by decide +kernel
theorem mm_Bc : Cond.castable "java/util/NoSuchElementException" "java/util/NoSuchElementException" ∈ mm_B := by decide +kernel
/-- the two statics that a thrown thing is made of, and the words -/
def mm_Z (A : Nat → Prop) (U : State) : Prop := vx_Zq Bundle.tN "UNASSIGNED_STACK" Bundle.steD A U U.heap ∧ vx_Zq Bundle.tN "SUPPRESSED_SENTINEL" Bundle.listD A U U.heap ∧ ∀ w ∈ mm_B, w.before #[] U = true
theorem lw_Z0 {p : Program} {s : State} {m : MethodId} {meth : Method} {c : Code} {b L : Nat} {xs : Nat → Int32} (C0 : lw_At p s m meth c b L xs) : mm_Z (fun q => s.heap.size ≤ q) s := by
  obtain ⟨hx, hb, hr, hml, hown, hts, hX, hbl, hlocks, hgv⟩ := C0
  have hA : ∀ a : Nat, a < s.heap.size → ¬ (fun q => s.heap.size ≤ q) a := fun a h => Nat.not_le.mpr h
  have hs := flat_of_before _ hgv
  exact ⟨vx_Zqof (hts _ wm_uS) (hts _ wm_iT) (hs _ (by decide +kernel)) hA, vx_Zqof (hts _ wm_uL) (hts _ wm_iT) (hs _ (by decide +kernel)) hA, fun w hw => mm_cst (mm_Bf w hw) (Vm.Alike.refl s.vm) (hts _ (mm_atT w (List.mem_filter.mp hw).1))⟩
theorem lw_st {l : Launch} (h : l.flags = flags0) : l.stackTraces = false := by
  unfold Launch.stackTraces
  rw [h]
  decide
