/-! ===== ReadBound.man at the machine ===== -/
def mm_L (a b : Int32) : pi_L := [(0, .ref 0), (1, .int a), (2, .int b)]
def mm_t : List (Nat × Instr × Nat) := [(18, .new 160, 3), (21, .dup, 1), (22, .invokespecial 162, 3), (25, .athrow, 1)]
set_option maxRecDepth 100000 in
theorem mm_td : (mm_t.all fun q => decide (decode prog_1_method_7_code q.1 = .ok (q.2.1, q.2.2))) = true := by decide +kernel
theorem mm_atO : ∀ w ∈ Cond.classLink "ReadBound" 160 "java/util/NoSuchElementException" :: Cond.initialized "java/util/NoSuchElementException" :: mm_at, vx_ot w = true := by decide +kernel
theorem mm_args {w : pi_W} {a : Int32} {lv : pi_L} (hC : af_Conf aw_Sh w) : pi_args 2 2 (10, 3, (some .boolean), false, mc_152) (3, lv, [.int a, .int 4, .ref 0], w) = some ([.ref 0, .int 4, .int a], []) := by
  obtain ⟨e, he, fs, rfl, -, -⟩ := hC.at (a := 0) (c := .inr (10, _)) rfl
  have hr : pi_recv 2 10 [.ref 0, .int 4, .int a] w = true := by simp [pi_recv, he]
  unfold pi_args
  dsimp only
  exact if_pos ⟨rfl, Nat.le_of_ble_eq_true rfl, hr, Nat.le_of_ble_eq_true rfl, rfl, Or.inl (by decide), by decide⟩
section MM
variable {p : Program} {l : Launch} {e : Env} {R : Room} {s : State} {m : MethodId} {args : Array Value} {below : List Frame} {meth : Method} {c : Code} {Q Q' : State → Prop} {D : va_G} {cA : Nat → ClassId} {sa sv : Nat} {A B : Nat → Prop} {ad : Nat → Nat} {cu su : Nat}
set_option maxRecDepth 100000 in
theorem mm_wat (C : pi_Cx p s m args meth c mn_286 prog_1_method_7_code hm286 D cA sa sv A) (hsa : ad pi_str = sa) {w : pi_W} (hI : lw_I w) (a b : Int32) (hfr : 26 ≤ R.frames) (hlo : 1560 ≤ R.locals) (hcu : cu ≤ R.cells) (hsu : su ≤ R.slots)
    (k18 : ∀ w', lw_I w' → lw_q lw_pr w w' → pi_Wat p l e R s m args below meth c Q D cA A 3 ad (18, mm_L a b, [], w') cu su)
    (k26 : ∀ w', lw_I w' → lw_q lw_pr w w' → 0 ≤ b.toInt ∧ b.toInt ≤ 5 → pi_Wat p l e R s m args below meth c Q D cA A 3 ad (26, mm_L a b, [], w') cu su) : pi_Wat p l e R s m args below meth c Q D cA A 3 ad (0, mm_L a b, [], w) cu su := by
  refine (ps_step (mi := hm286) C hsa (i := .aload_n 0) (len := 1) (σ := (0, mm_L a b, [], w)) (σ' := (1, mm_L a b, [.ref 0], w)) rfl (pi_dec mo_286 rfl)).2 ?_
  refine (ps_step (mi := hm286) C hsa (i := .iconst 4) (len := 1) (σ := (1, mm_L a b, [.ref 0], w)) (σ' := (2, mm_L a b, [.int 4, .ref 0], w)) rfl (pi_dec mo_286 rfl)).2 ?_
  refine (ps_step (mi := hm286) C hsa (i := .iload_n 1) (len := 1) (σ := (2, mm_L a b, [.int 4, .ref 0], w)) (σ' := (3, mm_L a b, [.int a, .int 4, .ref 0], w)) rfl (pi_dec mo_286 rfl)).2 ?_
  obtain ⟨n, r, w1, hrun, ⟨hI1, hq1⟩, v, rfl⟩ := lpub_2 (d := 24) ah_117 rfl pz_152 rfl (by decide) (by decide) (by decide) (by decide) hI 4 a
  have hln : w1.length = w.length := by rw [hI1.1.1, hI.1.1]
  refine ps_call (pi_sim n) (mi := hm286) C hsa (i := .invokevirtual 148) (cp := 148) (kind := 2) (z := 152) (na := 2) (q := 672) (kinds := [2, 6, 7]) (d' := 24) (σ := (3, mm_L a b, [.int a, .int 4, .ref 0], w)) (As := [.ref 0, .int 4, .int a]) (rest := []) rfl rfl rfl (by decide) pz_152 (mm_args hI.1) hrun (by simp [pi_keep, hln]) (pi_dec mo_286 rfl) (by omega) (by omega) (by omega) (by omega) ?_
  intro ad' hx
  have e1 := hx.2.2 hln
  subst e1
  show pi_Wat p l e R s m args below meth c Q D cA A 3 ad' (6, mm_L a b, [.int v], w1) cu su
  by_cases hv : v = 0
  · refine (ps_step (mi := hm286) C hsa (i := .ifCond .eq 12) (len := 3) (σ := (6, mm_L a b, [.int v], w1)) (σ' := (18, mm_L a b, [], w1)) ?_ (pi_dec mo_286 rfl)).2 (k18 w1 hI1 hq1)
    have ht : pi_tgt 6 12 = some 18 := rfl
    have hc : pi_cmp .eq v 0 = true := by simp [pi_cmp, hv]
    simp [pi_step, ht, hc]
  · refine (ps_step (mi := hm286) C hsa (i := .ifCond .eq 12) (len := 3) (σ := (6, mm_L a b, [.int v], w1)) (σ' := (9, mm_L a b, [], w1)) ?_ (pi_dec mo_286 rfl)).2 ?_
    · have ht : pi_tgt 6 12 = some 18 := rfl
      have hc : pi_cmp .eq v 0 = false := by simp [pi_cmp, hv]
      simp [pi_step, ht, hc]
    refine (ps_step (mi := hm286) C hsa (i := .iload_n 2) (len := 1) (σ := (9, mm_L a b, [], w1)) (σ' := (10, mm_L a b, [.int b], w1)) rfl (pi_dec mo_286 rfl)).2 ?_
    by_cases hb0 : b < 0
    · refine (ps_step (mi := hm286) C hsa (i := .ifCond .lt 8) (len := 3) (σ := (10, mm_L a b, [.int b], w1)) (σ' := (18, mm_L a b, [], w1)) ?_ (pi_dec mo_286 rfl)).2 (k18 w1 hI1 hq1)
      have ht : pi_tgt 10 8 = some 18 := rfl
      have hc : pi_cmp .lt b 0 = true := by simp [pi_cmp, hb0]
      simp [pi_step, ht, hc]
    · refine (ps_step (mi := hm286) C hsa (i := .ifCond .lt 8) (len := 3) (σ := (10, mm_L a b, [.int b], w1)) (σ' := (13, mm_L a b, [], w1)) ?_ (pi_dec mo_286 rfl)).2 ?_
      · have ht : pi_tgt 10 8 = some 18 := rfl
        have hc : pi_cmp .lt b 0 = false := by simp only [pi_cmp, hb0, decide_false]
        simp [pi_step, ht, hc]
      refine (ps_step (mi := hm286) C hsa (i := .iload_n 2) (len := 1) (σ := (13, mm_L a b, [], w1)) (σ' := (14, mm_L a b, [.int b], w1)) rfl (pi_dec mo_286 rfl)).2 ?_
      refine (ps_step (mi := hm286) C hsa (i := .iconst 5) (len := 1) (σ := (14, mm_L a b, [.int b], w1)) (σ' := (15, mm_L a b, [.int 5, .int b], w1)) rfl (pi_dec mo_286 rfl)).2 ?_
      have h0 : 0 ≤ b.toInt := by
        rw [Int32.lt_iff_toInt_lt] at hb0
        have e0 : (0 : Int32).toInt = 0 := by decide
        omega
      by_cases hb5 : b ≤ 5
      · refine (ps_step (mi := hm286) C hsa (i := .if_icmp .le 11) (len := 3) (σ := (15, mm_L a b, [.int 5, .int b], w1)) (σ' := (26, mm_L a b, [], w1)) ?_ (pi_dec mo_286 rfl)).2 (k26 w1 hI1 hq1 ⟨h0, ?_⟩)
        · have ht : pi_tgt 15 11 = some 26 := rfl
          have hc : pi_cmp .le b 5 = true := by simp only [pi_cmp, hb5, decide_true]
          simp [pi_step, ht, hc]
        · rw [Int32.le_iff_toInt_le] at hb5
          have e5 : (5 : Int32).toInt = 5 := by decide
          omega
      · refine (ps_step (mi := hm286) C hsa (i := .if_icmp .le 11) (len := 3) (σ := (15, mm_L a b, [.int 5, .int b], w1)) (σ' := (18, mm_L a b, [], w1)) ?_ (pi_dec mo_286 rfl)).2 (k18 w1 hI1 hq1)
        have ht : pi_tgt 15 11 = some 26 := rfl
        have hc : pi_cmp .le b 5 = false := by simp only [pi_cmp, hb5, decide_false]
        simp [pi_step, ht, hc]
theorem mm_MQ {Qc : Array Value → State → Outcome → State → Prop} {mc ms mc' ms' : Nat} {free : Addr → Prop} {t : State} (h1 : mc ≤ mc') (h2 : ms ≤ ms') (h : MQ below Qc args s mc ms free t) : MQ below Qc args s mc' ms' free t := by
  obtain ⟨o, b1, b2, b3, L, ⟨f1, f2, f3⟩, b4⟩ := h
  exact ⟨o, b1, b2, b3, L, ⟨f1, f2, f3.mono h1 h2⟩, b4⟩
theorem mm_imp {H : Heap} {locs : List Loc} {g : JFrame} (h : ∀ t, Q t → Q' t) (k : W p l e R s m args below meth c H locs cu su Q g) : W p l e R s m args below meth c H locs cu su Q' g := by
  intro T hT X
  obtain ⟨t, a1, b1⟩ := k T hT X
  exact ⟨t, a1, h t b1⟩
theorem mm_Z.same {U U' : State} (h : mm_Z A U) (hv : U.vm = U'.vm) (hh : U'.heap = U.heap) : mm_Z A U' := by
  have ha : U.vm.Alike U'.vm := by rw [hv]; exact Vm.Alike.refl U'.vm
  unfold mm_Z
  rw [hh]
  exact ⟨vx_Zq.moved ha h.1, vx_Zq.moved ha h.2.1, fun w hw => mm_cst (mm_Bf w hw) ha (h.2.2 w hw)⟩
theorem mm_Z.call {U : State} {H : Heap} {locs : List Loc} (h : mm_Z A s) (hW : s.WarmedH U.vm) (hS : va_S A s.heap H locs) (hU : U.heap = H) (hB : ∀ q, B q → A q) : mm_Z B U := by
  unfold mm_Z
  rw [hU]
  exact ⟨vx_Zq.moved hW.alike ((h.1.kept hS.2.1).narrow hB), vx_Zq.moved hW.alike ((h.2.1.kept hS.2.1).narrow hB), fun w hw => mm_cst (mm_Bf w hw) hW.alike (h.2.2 w hw)⟩
end MM
def mm_Pc (D : va_G) (cA : Nat → ClassId) (sa sv : Nat) (ad : Nat → Nat) (w : pi_W) (sz : Nat) (As : List Value) : Array Value → State → Prop := fun a U => pi_Pc D cA sa sv ad w sz As a U ∧ mm_Z (va_A (pi_rW cA ad w) sz) U
theorem mm_blind {D : va_G} {cA : Nat → ClassId} {sa sv : Nat} {ad : Nat → Nat} {w : pi_W} {sz : Nat} {As : List Value} : FrameBlind (mm_Pc D cA sa sv ad w sz As) := fun a U g mk h => ⟨pi_Pc.blind a U g mk h.1, h.2.same rfl rfl⟩
def mm_Qc (D : va_G) (cA : Nat → ClassId) (ad : Nat → Nat) (w : pi_W) (sz : Nat) : Array Value → State → Outcome → State → Prop := fun _ st o t => (∃ (v : Int32) (w' : pi_W), o = .returned (some (.int v)) ∧ (lw_I w' ∧ lw_q lw_pr w w') ∧ va_P D vwCl (pi_rW cA ad w') t.heap ∧ va_D (va_A (pi_rW cA ad w) sz) (pi_rW cA ad w')) ∧ va_F (va_A (pi_rW cA ad w) sz) st t
def mm_XC (D : va_G) (cA : Nat → ClassId) (ad : Nat → Nat) (w : pi_W) (sz : Nat) : String → State → State → Prop := fun E st t => E = "java/util/NoSuchElementException" ∧ (∃ w' : pi_W, (lw_I w' ∧ lw_q lw_pr w w') ∧ va_P D vwCl (pi_rW cA ad w') t.heap ∧ va_D (va_A (pi_rW cA ad w) sz) (pi_rW cA ad w')) ∧ va_F (va_A (pi_rW cA ad w) sz) st t
set_option maxRecDepth 100000 in
theorem mm_met (l : Launch) (hst : l.stackTraces = false) (D : va_G) (cA : Nat → ClassId) (sa sv : Nat) (ad : Nat → Nat) (sz : Nat) (hsa : ad pi_str = sa) {w : pi_W} (hI : lw_I w) (a b : Int32) :
    vx_Met l mn_286 (Cond.code mn_286 prog_1_method_7_code 3 (some .int) :: pi_good) (pi_rm 25 1 6) (mm_Pc D cA sa sv ad w sz [.ref 0, .int a, .int b]) (mm_Qc D cA ad w sz) (mm_XC D cA ad w sz) 1 6 (va_A (pi_rW cA ad w) sz) := by
  refine vx_ofW (cc := prog_1_method_7_code) (maxL := 3) (ret := some .int) (by decide) rfl ?_
  intro p e s m args below meth c s₁ B hml htab hv
  obtain ⟨⟨rfl, hsz, hP, hD, hK⟩, hZ⟩ := hv
  have hts := atoms_spec (ws := Cond.code mn_286 prog_1_method_7_code 3 (some .int) :: pi_good) B.pre
  have htg : ∀ w ∈ pi_good, w.before (([.ref 0, .int a, .int b] : List Value).map (pi_rv ad)).toArray s = true := fun w hw => hts w (List.mem_cons_of_mem _ hw)
  have hl := lv_entry (([.ref 0, .int a, .int b] : List Value).map (pi_rv ad)) (n := 3) (by rw [pi_lg_sl]; exact Nat.le_of_ble_eq_true rfl)
  rw [lg_entry_eq]
  generalize (lg_sl (([.ref 0, .int a, .int b] : List Value).map (pi_rv ad)) ++ List.replicate (3 - (lg_sl (([.ref 0, .int a, .int b] : List Value).map (pi_rv ad))).length) Slot.unset).toArray = ls at hl ⊢
  rw [pi_lv_args] at hl
  have hC : pi_Cx p s m (([.ref 0, .int a, .int b] : List Value).map (pi_rv ad)).toArray meth c mn_286 prog_1_method_7_code hm286 D cA sa sv (va_A (pi_rW cA ad w) sz) :=
    ⟨B.exec, B.bytes, findClass_of_methodNamed B.named, htg, hK, hml, B.returns, B.notSynchronized, (name_of_methodNamed B.named B.method).1, (fun h => by cases h), rfl, fun q hq => Or.inr (by rw [← hsz]; exact hq)⟩
  refine mm_wat hC hsa hI a b (Nat.le_refl 26) (Nat.le_refl 1560) (Nat.zero_le _) (Nat.zero_le _) ?_ ?_ s.heap [] ls hP hD va_S.rf hl
  · intro w' hI' hq' H locs ls' hP' hD' hS' hl'
    refine vx_throw0 (A := va_A (pi_rW cA ad w) sz) (own := "ReadBound") (cls := "java/util/NoSuchElementException") (names := ["java/lang/RuntimeException", "java/lang/Exception"]) (ik := 160) (ic := 162) hC.1 hC.2.1 hst hC.2.2.1 (by decide) (by decide) (htg _ (pi_good_of wm_ck rfl)) (htg _ (pi_good_of wm_iN rfl)) (vx_hat (fun w hw => htg w (pi_good_of (mm_atT w (List.mem_filter.mp hw).1) (List.mem_filter.mp hw).2)) (fun w hw => hw) (fun w hw => mm_cst (mm_Bf w hw) (Vm.Alike.refl s.vm) (hZ.2.2 w hw))) mm_atO hZ.1 hZ.2.1 hS' (hl'.1.trans hml.symm) (kd_at mm_td 0 rfl) (kd_at mm_td 1 rfl) (kd_at mm_td 2 rfl) (kd_at mm_td 3 rfl) (fun x hx => (htab x hx).elim) (Nat.le_of_ble_eq_true rfl) (Nat.le_of_ble_eq_true rfl) (Nat.le_refl 1) (Nat.le_refl 6) B.notSynchronized ?_ (fun z hz => hS'.2.2 z hz) (Nat.le_refl 1) (Nat.le_refl 6)
    intro t _ hz hk
    refine ⟨rfl, ⟨w', ⟨hI', hq'⟩, hP'.kept (fun k q hq => hk _ (hP' k q hq).lt), hD'⟩, Nat.le_trans hS'.1 hz, fun q h1 h2 => ?_⟩
    rw [hk q (Nat.lt_of_lt_of_le h1 hS'.1)]
    exact hS'.2.1 q h1 h2
  · intro w' hI' hq' hb' H locs ls' hP' hD' hS' hl'
    obtain ⟨n, r, w2, hrun, ⟨hI2, hq2⟩, v, rfl⟩ := lx_5 hI' a b hb'
    refine vx_ret (mm_imp (fun t h => mm_MQ (Nat.zero_le 1) (Nat.zero_le 6) h) ?_)
    refine pi_sim n 24 mn_286 prog_1_method_7_code hm286 2 false mo_286 (26, mm_L a b, [], w') 0 0 (some (.int v)) w2 0 0 hrun p l e (pi_rm 25 1 6) s m _ below meth c D cA sa sv (va_A (pi_rW cA ad w) sz) (mm_Qc D cA ad w sz) (va_A (pi_rW cA ad w) sz) ad hC (by decide) (by decide) (Nat.zero_le _) (Nat.zero_le _) hsa ?_ (fun q h => h) H locs ls' hP' hD' hS' hl'
    intro ad' t locs' h1 h2 h3 h4 h5
    have e1 : ad' = ad := h1.2.2 (by show w2.length = w'.length; rw [hI2.1.1, hI'.1.1])
    subst e1
    exact ⟨⟨v, w2, rfl, ⟨hI2, hq'.tr hq2⟩, h2, h3⟩, h4.1, h4.2.1⟩
section MR
variable {p : Program} {l : Launch} {e : Env} {R : Room} {s : State} {m : MethodId} {args : Array Value} {below : List Frame} {meth : Method} {c : Code} {D : va_G} {cA : Nat → ClassId} {sa sv : Nat} {A : Nat → Prop} {ad : Nat → Nat} {cu su : Nat} {cc : ByteArray} {nL : Nat} {H : Heap} {locs : List Loc} {ls : Array Slot} {pc : Nat} {restM : List Value}
theorem mm_runV (hfix : CallFix p m c cc nL s args pi_good "ReadBoundLaw") (hK : pi_K D cA sa sv A s) (hZ : mm_Z A s) (hA : ∀ q, s.heap.size ≤ q → A q) (hst : l.stackTraces = false) (hsa : ad pi_str = sa) {w : pi_W} (hI : lw_I w) (a b : Int32) (hP : va_P D vwCl (pi_rW cA ad w) H) (hD : va_D A (pi_rW cA ad w)) (hS : va_S A s.heap H locs) (hls : ls.size = nL) (hfr : 27 ≤ R.frames) (hlo : 1582 ≤ R.locals) (hcc : cu + 1 ≤ R.cells) (huu : su + 6 ≤ R.slots) (hcat : (restM.map fun v => v.category).sum ≤ 8) (hd : decode cc pc = .ok (.invokevirtual 7, 3)) :
    vx_Run p l e R s m args below meth c H locs cu su 1 6 (F0 m pc ls (.int b :: .int a :: .ref (ad 0) :: restM)) restM (mm_Qc D cA ad w H.size ([.ref (ad 0), .int a, .int b] : List Value).toArray) (mm_XC D cA ad w H.size) (va_A (pi_rW cA ad w) H.size) := by
  have hM := mm_met l hst D cA sa sv ad H.size hsa hI a b
  have hts := hfix.2.2.2.2
  obtain ⟨o1, o2, o3, o4, -, o6, o7, o8, o9, o10, -, -⟩ := mo_286
  have o2 : pi_cn[10]? = some "ReadBound" := rfl
  obtain ⟨e0, he0, fs, rfl, -, -⟩ := hI.1.at (a := 0) (c := .inr (10, _)) rfl
  have he : (pi_rW cA ad w)[0]? = some (ad 0, .inr (10, fs.map (pi_rv ad))) := by rw [pi_rW_get, he0]; rfl
  obtain ⟨q9, hq9, -⟩ := hP 0 _ he
  dsimp only at hq9
  have hCn : q9.1 = "ReadBound" := by
    have h5 := (lc_all (C := q9.1) (T := q9.2.1) (N := q9.2.2) hq9).1
    rw [o2] at h5
    exact (Option.some.inj h5).symm
  have hrc := va_recv hK.1 hP hq9 he
  rw [hCn] at hrc
  have hroom : (pi_rm 25 1 6).frames + 1 ≤ R.frames ∧ 8 + (3 + 11) + (pi_rm 25 1 6).locals ≤ R.locals := ⟨hfr, hlo⟩
  have hCB := callB_of (R := R) (index := 7) (own := "ReadBoundLaw") 2 hts (pi_ws_good wm_code) rfl rfl rfl (hts _ (pi_good_of o4 rfl)) (hts _ (pi_good_of wm_lk rfl)) ⟨o8, o9, o10⟩ hroom
  have hB : ∀ q, va_A (pi_rW cA ad w) H.size q → A q := by
    rintro q (⟨k, e, h⟩ | h)
    · exact hD.2 k _ h
    · exact hA q (Nat.le_trans hS.1 h)
  have hpp : ∀ U : State, U.heap = H → s.WarmedH U.vm → mm_Pc D cA sa sv ad w H.size [.ref 0, .int a, .int b] (([.ref 0, .int a, .int b] : List Value).map (pi_rv ad)).toArray U := by
    intro U hU hW
    exact ⟨⟨rfl, by rw [hU], by rw [hU]; exact hP, ⟨hD.1, fun k q h => Or.inl ⟨k, q.2, h⟩⟩, hK.call hW hS hU hB⟩, hZ.call hW hS hU hB⟩
  exact vx_runV (C := "ReadBound") (b := ad 0) (As := [.int a, .int b]) hfix hM ⟨hCB, hts _ (pi_good_of wm_im rfl), hts _ (pi_good_of wm_sel rfl)⟩ ⟨mm_blind, hrc, hpp⟩ rfl rfl hls rfl (lv_room hcat) hd ⟨hcc, huu⟩
end MR
