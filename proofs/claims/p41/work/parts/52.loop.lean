/-! ===== the law's loop; by program ===== -/
def lw_G (p : Program) (s : State) (m : MethodId) (c : Code) (meth : Method) (D : va_G) (cA : Nat → ClassId) (sa sv : Nat) (ad : Nat → Nat) (b N oq : Nat) (xs : Nat → Int32) : Prop := lw_Cx p s m #[Value.ref b] c D cA sa sv (fun q => s.heap.size ≤ q) ∧ ad pi_str = sa ∧ va_X b N xs s s.heap ∧ b < s.heap.size ∧ N ≤ 3072 ∧ (∀ k, k < 79 → ad k ≠ oq) ∧ meth.sig.returnType = ret ∧ meth.locks = false
def lw_H (s : State) (D : va_G) (cA : Nat → ClassId) (ad : Nat → Nat) (oq : Nat) (w : pi_W) (H : Heap) (locs : List Loc) : Prop := lw_I w ∧ va_P D vwCl (pi_rW cA ad w) H ∧ va_D (fun q => s.heap.size ≤ q) (pi_rW cA ad w) ∧ va_S (fun q => s.heap.size ≤ q) s.heap H locs ∧ oq < H.size ∧ s.heap.size ≤ oq ∧ ∃ f : Nat → Int64, H[oq]? = some (vp_cell (cA 2) (1, .inr (.inl f)))
def lw_L (ad : Nat → Nat) (b oq i : Nat) : List (Nat × Value) := [(0, .ref b), (1, .ref (ad 0)), (2, .ref (ad 61)), (3, .ref oq), (4, .int (Int32.ofNat i))]
section LP
variable {p : Program} {l : Launch} {e : Env} {s : State} {m : MethodId} {below : List Frame} {meth : Method} {c : Code} {Q : State → Prop} {D : va_G} {cA : Nat → ClassId} {sa sv : Nat} {ad : Nat → Nat} {b N oq : Nat} {xs : Nat → Int32} {cu su : Nat} {H : Heap} {locs : List Loc} {ls : Array Slot} {w : pi_W} {i : Nat}
theorem lw_oq {w w' : pi_W} {H H1 : Heap} {locs1 : List Loc} (hG : lw_G p s m c meth D cA sa sv ad b N oq xs) (hH : lw_H s D cA ad oq w H locs) (hI : lw_I w') (hP : va_P D vwCl (pi_rW cA ad w') H1) (hD : va_D (fun q => s.heap.size ≤ q) (pi_rW cA ad w')) (hS : va_S (fun q => s.heap.size ≤ q) s.heap H1 locs1) (hz : H.size ≤ H1.size) (hk : ∀ q : Nat, q < H.size → ¬ va_A (pi_rW cA ad w) H.size q → H1[q]? = H[q]?) : lw_H s D cA ad oq w' H1 locs1 := by
  obtain ⟨h1, -, -, -, h5, h6, f, h7⟩ := hH
  refine ⟨hI, hP, hD, hS, Nat.lt_of_lt_of_le h5 hz, h6, f, ?_⟩
  rw [hk oq h5, h7]
  rintro (⟨k, e, h⟩ | h)
  · rw [pi_rW_get] at h
    cases hw : w[k]? with
    | none =>
      rw [hw] at h
      cases h
    | some e' =>
      rw [hw] at h
      have h2 : ad k = oq := congrArg Prod.fst (Option.some.inj h)
      have hlt : k < 79 := by
        have h3 := (List.getElem?_eq_some_iff.mp hw).1
        have h4 := h1.1.1
        have h5 : aw_Sh.length = 79 := by decide
        omega
      exact hG.2.2.2.2.2.1 k hlt h2
  · omega
theorem lw_push {j : Nat} {jj : Int} {pc : Nat} {st : List Value} (hG : lw_G p s m c meth D cA sa sv ad b N oq xs) (hS : va_S (fun q => s.heap.size ≤ q) s.heap H locs) (hl : lv_has ls 7 (lw_L ad b oq i)) (hj : i + j < N) (ej : Int32.ofInt jj = Int32.ofNat j) (d0 : decode code pc = .ok (.aload_n 0, 1)) (d1 : decode code (pc + 1) = .ok (.iload 4, 2)) (d2 : decode code (pc + 1 + 2) = .ok (.iconst jj, 1)) (d3 : decode code (pc + 1 + 2 + 1) = .ok (.iadd, 1)) (d4 : decode code (pc + 1 + 2 + 1 + 1) = .ok (.iaload, 1)) (k : W p l e room_1 s m #[Value.ref b] below meth c H locs cu su Q (F0 m (pc + 1 + 2 + 1 + 1 + 1) ls (.int (xs (i + j)) :: st))) : W p l e room_1 s m #[Value.ref b] below meth c H locs cu su Q (F0 m pc ls st) := by
  obtain ⟨⟨hx, hb, hml, hown, hts, hK, hA⟩, hsa, hX, hbl, hN, -⟩ := hG
  have hbA : ¬ (fun q : Nat => s.heap.size ≤ q) b := Nat.not_le.mpr hbl
  refine lv_aload_n hx hb d0 rfl (lv_at hl 0 rfl) ?_
  refine lv_iload hx hb d1 (lv_at hl 4 rfl) ?_
  refine lv_iconst hx hb d2 ej ?_
  refine lv_iadd hx hb d3 ?_
  have ei : Int32.ofNat i + Int32.ofNat j = Int32.ofNat (i + j) := (Int32.ofNat_add i j).symm
  have et : (Int32.ofNat (i + j)).toInt = ((i + j : Nat) : Int) := Int32.toInt_ofNat_of_lt (by omega)
  have ec := af_cl (x := Int32.ofNat (i + j)) (by rw [et]; omega)
  have en : (Int32.ofNat (i + j)).toNatClampNeg = i + j := by
    have := ec.2
    rw [et] at this
    omega
  rw [ei]
  refine va_sld hx hb hX hbl hbA hS (i := Int32.ofNat (i + j)) (by
    rintro (q | q)
    · exact ec.1 q
    · rw [en] at q
      omega) d4 ?_
  rw [en]
  exact k
end LP
def lt_0 : List (Nat × Instr × Nat) := [(224, .aload_n 1, 1), (225, .aload_n 0, 1), (226, .iload 4, 2), (228, .iconst 1, 1), (229, .iadd, 1), (230, .iaload, 1), (231, .aload_n 0, 1), (232, .iload 4, 2), (234, .iconst 2, 1), (235, .iadd, 1), (236, .iaload, 1), (237, .aload_n 0, 1), (238, .iload 4, 2), (240, .iconst 3, 1), (241, .iadd, 1), (242, .iaload, 1), (243, .aload_n 0, 1), (244, .iload 4, 2), (246, .iconst 4, 1), (247, .iadd, 1), (248, .iaload, 1), (249, .aload_n 0, 1), (250, .iload 4, 2), (252, .iconst 5, 1), (253, .iadd, 1), (254, .iaload, 1), (255, .invokevirtual 19, 3), (258, .pop, 1), (259, .aload_n 2, 1), (260, .aload_n 0, 1), (261, .iload 4, 2), (263, .iconst 1, 1), (264, .iadd, 1), (265, .iaload, 1), (266, .aload_n 0, 1), (267, .iload 4, 2), (269, .iconst 2, 1), (270, .iadd, 1), (271, .iaload, 1), (272, .aload_n 0, 1), (273, .iload 4, 2), (275, .iconst 3, 1), (276, .iadd, 1), (277, .iaload, 1), (278, .aload_n 0, 1), (279, .iload 4, 2), (281, .iconst 4, 1), (282, .iadd, 1), (283, .iaload, 1), (284, .aload_n 0, 1), (285, .iload 4, 2), (287, .iconst 5, 1), (288, .iadd, 1), (289, .iaload, 1), (290, .invokevirtual 23, 3), (293, .pop, 1), (294, .goto 1211, 3)]
set_option maxRecDepth 100000 in
theorem lt_0_d : (lt_0.all fun q => decide (decode code q.1 = .ok (q.2.1, q.2.2))) = true := by decide +kernel
theorem ll_x0 : Cond.methodLink "ReadBoundLaw" 19 mn_111 ∈ lw_tbl := List.mem_of_getElem? (i := 459) (by decide +kernel)
theorem ll_m0 : Cond.methodLink "ReadBoundLaw" 23 mn_163 ∈ lw_tbl := List.mem_of_getElem? (i := 1200) (by decide +kernel)
set_option maxRecDepth 100000 in
theorem lc_case0 {p : Program} {l : Launch} {e : Env} {s : State} {m : MethodId} {below : List Frame} {meth : Method} {c : Code} {Q : State → Prop} {D : va_G} {cA : Nat → ClassId} {sa sv : Nat} {ad : Nat → Nat} {b N oq : Nat} {xs : Nat → Int32} {cu su : Nat} {H : Heap} {locs : List Loc} {ls : Array Slot} {w : pi_W} {i : Nat} (hG : lw_G p s m c meth D cA sa sv ad b N oq xs) (hH : lw_H s D cA ad oq w H locs) (hl : lv_has ls 7 (lw_L ad b oq i)) (hi : i + 6 ≤ N) (hcu : cu + 6 ≤ 601024) (hsu : su + 36 ≤ 7293034) (kend : ∀ (H1 : Heap) (locs1 : List Loc) (w1 : pi_W) (ls1 : Array Slot), lw_H s D cA ad oq w1 H1 locs1 → lv_has ls1 7 (lw_L ad b oq i) → W p l e room_1 s m #[Value.ref b] below meth c H1 locs1 (cu + 6) (su + 36) Q (F0 m 1505 ls1 [])) : W p l e room_1 s m #[Value.ref b] below meth c H locs cu su Q (F0 m 224 ls []) := by
  obtain ⟨hI, hP, hD, hS, ho1, ho2, hof⟩ := id hH
  have C := hG.1
  have hsa := hG.2.1
  have hx := C.1
  have hb := C.2.1
  obtain ⟨e0, he0, fs0, rfl, -, -⟩ := hI.1.at (a := 0) (c := .inr (10, _)) rfl
  refine lv_aload_n hx hb (kd_at lt_0_d 0 rfl) rfl (lv_at hl 1 rfl) ?_
  refine lw_push (j := 1) (jj := 1) hG hS hl (by omega) rfl (kd_at lt_0_d 1 rfl) (kd_at lt_0_d 2 rfl) (kd_at lt_0_d 3 rfl) (kd_at lt_0_d 4 rfl) (kd_at lt_0_d 5 rfl) ?_
  refine lw_push (j := 2) (jj := 2) hG hS hl (by omega) rfl (kd_at lt_0_d 6 rfl) (kd_at lt_0_d 7 rfl) (kd_at lt_0_d 8 rfl) (kd_at lt_0_d 9 rfl) (kd_at lt_0_d 10 rfl) ?_
  refine lw_push (j := 3) (jj := 3) hG hS hl (by omega) rfl (kd_at lt_0_d 11 rfl) (kd_at lt_0_d 12 rfl) (kd_at lt_0_d 13 rfl) (kd_at lt_0_d 14 rfl) (kd_at lt_0_d 15 rfl) ?_
  refine lw_push (j := 4) (jj := 4) hG hS hl (by omega) rfl (kd_at lt_0_d 16 rfl) (kd_at lt_0_d 17 rfl) (kd_at lt_0_d 18 rfl) (kd_at lt_0_d 19 rfl) (kd_at lt_0_d 20 rfl) ?_
  refine lw_push (j := 5) (jj := 5) hG hS hl (by omega) rfl (kd_at lt_0_d 21 rfl) (kd_at lt_0_d 22 rfl) (kd_at lt_0_d 23 rfl) (kd_at lt_0_d 24 rfl) (kd_at lt_0_d 25 rfl) ?_
  refine lw_hq C hsa (z := 111) (na := 5) (cp := 19) (a := 0) (As := [.int (xs (i + 1)), .int (xs (i + 2)), .int (xs (i + 3)), .int (xs (i + 4)), .int (xs (i + 5))]) (d := 24) (restM := []) pz_111 lk_x0 ll_x0 rfl he0 (Nat.le_of_ble_eq_true rfl) (by decide) rfl (lx_0 hI (xs (i + 1)) (xs (i + 2)) (xs (i + 3)) (xs (i + 4)) (xs (i + 5))) (fun r w' q => by rw [q.1.1.1, hI.1.1]) hP hD hS hl.1 (by decide) (by decide) (by show cu ≤ 601024; omega) (by show su ≤ 7293034; omega) (by decide) (kd_at lt_0_d 26 rfl) ?_
  rintro r1 w1 H1 locs1 ⟨hI1, v1, rfl⟩ hP1 hD1 hS1 hz1 hk1
  have hH1 := lw_oq hG hH hI1 hP1 hD1 hS1 hz1 hk1
  obtain ⟨e1, he1, fs1, rfl, -, -⟩ := hI1.1.at (a := 61) (c := .inr (11, _)) rfl
  refine lv_pop hx hb (kd_at lt_0_d 27 rfl) rfl ?_
  refine lv_aload_n hx hb (kd_at lt_0_d 28 rfl) rfl (lv_at hl 2 rfl) ?_
  refine lw_push (j := 1) (jj := 1) hG hS1 hl (by omega) rfl (kd_at lt_0_d 29 rfl) (kd_at lt_0_d 30 rfl) (kd_at lt_0_d 31 rfl) (kd_at lt_0_d 32 rfl) (kd_at lt_0_d 33 rfl) ?_
  refine lw_push (j := 2) (jj := 2) hG hS1 hl (by omega) rfl (kd_at lt_0_d 34 rfl) (kd_at lt_0_d 35 rfl) (kd_at lt_0_d 36 rfl) (kd_at lt_0_d 37 rfl) (kd_at lt_0_d 38 rfl) ?_
  refine lw_push (j := 3) (jj := 3) hG hS1 hl (by omega) rfl (kd_at lt_0_d 39 rfl) (kd_at lt_0_d 40 rfl) (kd_at lt_0_d 41 rfl) (kd_at lt_0_d 42 rfl) (kd_at lt_0_d 43 rfl) ?_
  refine lw_push (j := 4) (jj := 4) hG hS1 hl (by omega) rfl (kd_at lt_0_d 44 rfl) (kd_at lt_0_d 45 rfl) (kd_at lt_0_d 46 rfl) (kd_at lt_0_d 47 rfl) (kd_at lt_0_d 48 rfl) ?_
  refine lw_push (j := 5) (jj := 5) hG hS1 hl (by omega) rfl (kd_at lt_0_d 49 rfl) (kd_at lt_0_d 50 rfl) (kd_at lt_0_d 51 rfl) (kd_at lt_0_d 52 rfl) (kd_at lt_0_d 53 rfl) ?_
  refine lw_hq C hsa (z := 163) (na := 5) (cp := 23) (a := 61) (As := [.int (xs (i + 1)), .int (xs (i + 2)), .int (xs (i + 3)), .int (xs (i + 4)), .int (xs (i + 5))]) (d := 24) (restM := []) pz_163 lk_m0 ll_m0 rfl he1 (Nat.le_of_ble_eq_true rfl) (by decide) rfl (lm_0 hI1 (xs (i + 1)) (xs (i + 2)) (xs (i + 3)) (xs (i + 4)) (xs (i + 5))) (fun r w' q => by rw [q.1.1.1, hI1.1.1]) hP1 hD1 hS1 hl.1 (by decide) (by decide) (by show cu ≤ 601024; omega) (by show su ≤ 7293034; omega) (by decide) (kd_at lt_0_d 54 rfl) ?_
  rintro r2 w2 H2 locs2 ⟨hI2, v2, rfl⟩ hP2 hD2 hS2 hz2 hk2
  have hH2 := lw_oq hG hH1 hI2 hP2 hD2 hS2 hz2 hk2
  refine lv_pop hx hb (kd_at lt_0_d 55 rfl) rfl ?_
  refine lv_goto (tgt := 1505) hx hb (kd_at lt_0_d 56 rfl) rfl ?_
  exact W.widen (by omega) (by omega) (kend H2 locs2 w2 ls hH2 hl)
def lt_1 : List (Nat × Instr × Nat) := [(297, .aload_n 1, 1), (298, .aload_n 0, 1), (299, .iload 4, 2), (301, .iconst 1, 1), (302, .iadd, 1), (303, .iaload, 1), (304, .invokevirtual 24, 3), (307, .pop, 1), (308, .aload_n 2, 1), (309, .aload_n 0, 1), (310, .iload 4, 2), (312, .iconst 1, 1), (313, .iadd, 1), (314, .iaload, 1), (315, .invokevirtual 28, 3), (318, .pop, 1), (319, .goto 1186, 3)]
set_option maxRecDepth 100000 in
theorem lt_1_d : (lt_1.all fun q => decide (decode code q.1 = .ok (q.2.1, q.2.2))) = true := by decide +kernel
theorem ll_x1 : Cond.methodLink "ReadBoundLaw" 24 mn_112 ∈ lw_tbl := List.mem_of_getElem? (i := 467) (by decide +kernel)
theorem ll_m1 : Cond.methodLink "ReadBoundLaw" 28 mn_165 ∈ lw_tbl := List.mem_of_getElem? (i := 1209) (by decide +kernel)
set_option maxRecDepth 100000 in
theorem lc_case1 {p : Program} {l : Launch} {e : Env} {s : State} {m : MethodId} {below : List Frame} {meth : Method} {c : Code} {Q : State → Prop} {D : va_G} {cA : Nat → ClassId} {sa sv : Nat} {ad : Nat → Nat} {b N oq : Nat} {xs : Nat → Int32} {cu su : Nat} {H : Heap} {locs : List Loc} {ls : Array Slot} {w : pi_W} {i : Nat} (hG : lw_G p s m c meth D cA sa sv ad b N oq xs) (hH : lw_H s D cA ad oq w H locs) (hl : lv_has ls 7 (lw_L ad b oq i)) (hi : i + 6 ≤ N) (hcu : cu + 6 ≤ 601024) (hsu : su + 36 ≤ 7293034) (kend : ∀ (H1 : Heap) (locs1 : List Loc) (w1 : pi_W) (ls1 : Array Slot), lw_H s D cA ad oq w1 H1 locs1 → lv_has ls1 7 (lw_L ad b oq i) → W p l e room_1 s m #[Value.ref b] below meth c H1 locs1 (cu + 6) (su + 36) Q (F0 m 1505 ls1 [])) : W p l e room_1 s m #[Value.ref b] below meth c H locs cu su Q (F0 m 297 ls []) := by
  obtain ⟨hI, hP, hD, hS, ho1, ho2, hof⟩ := id hH
  have C := hG.1
  have hsa := hG.2.1
  have hx := C.1
  have hb := C.2.1
  obtain ⟨e0, he0, fs0, rfl, -, -⟩ := hI.1.at (a := 0) (c := .inr (10, _)) rfl
  refine lv_aload_n hx hb (kd_at lt_1_d 0 rfl) rfl (lv_at hl 1 rfl) ?_
  refine lw_push (j := 1) (jj := 1) hG hS hl (by omega) rfl (kd_at lt_1_d 1 rfl) (kd_at lt_1_d 2 rfl) (kd_at lt_1_d 3 rfl) (kd_at lt_1_d 4 rfl) (kd_at lt_1_d 5 rfl) ?_
  refine lw_hq C hsa (z := 112) (na := 1) (cp := 24) (a := 0) (As := [.int (xs (i + 1))]) (d := 24) (restM := []) pz_112 lk_x1 ll_x1 rfl he0 (Nat.le_of_ble_eq_true rfl) (by decide) rfl (lx_1 hI (xs (i + 1))) (fun r w' q => by rw [q.1.1.1, hI.1.1]) hP hD hS hl.1 (by decide) (by decide) (by show cu ≤ 601024; omega) (by show su ≤ 7293034; omega) (by decide) (kd_at lt_1_d 6 rfl) ?_
  rintro r1 w1 H1 locs1 ⟨hI1, v1, rfl⟩ hP1 hD1 hS1 hz1 hk1
  have hH1 := lw_oq hG hH hI1 hP1 hD1 hS1 hz1 hk1
  obtain ⟨e1, he1, fs1, rfl, -, -⟩ := hI1.1.at (a := 61) (c := .inr (11, _)) rfl
  refine lv_pop hx hb (kd_at lt_1_d 7 rfl) rfl ?_
  refine lv_aload_n hx hb (kd_at lt_1_d 8 rfl) rfl (lv_at hl 2 rfl) ?_
  refine lw_push (j := 1) (jj := 1) hG hS1 hl (by omega) rfl (kd_at lt_1_d 9 rfl) (kd_at lt_1_d 10 rfl) (kd_at lt_1_d 11 rfl) (kd_at lt_1_d 12 rfl) (kd_at lt_1_d 13 rfl) ?_
  refine lw_hq C hsa (z := 165) (na := 1) (cp := 28) (a := 61) (As := [.int (xs (i + 1))]) (d := 24) (restM := []) pz_165 lk_m1 ll_m1 rfl he1 (Nat.le_of_ble_eq_true rfl) (by decide) rfl (lm_1 hI1 (xs (i + 1))) (fun r w' q => by rw [q.1.1.1, hI1.1.1]) hP1 hD1 hS1 hl.1 (by decide) (by decide) (by show cu ≤ 601024; omega) (by show su ≤ 7293034; omega) (by decide) (kd_at lt_1_d 14 rfl) ?_
  rintro r2 w2 H2 locs2 ⟨hI2, v2, rfl⟩ hP2 hD2 hS2 hz2 hk2
  have hH2 := lw_oq hG hH1 hI2 hP2 hD2 hS2 hz2 hk2
  refine lv_pop hx hb (kd_at lt_1_d 15 rfl) rfl ?_
  refine lv_goto (tgt := 1505) hx hb (kd_at lt_1_d 16 rfl) rfl ?_
  exact W.widen (by omega) (by omega) (kend H2 locs2 w2 ls hH2 hl)
def lt_2 : List (Nat × Instr × Nat) := [(322, .aload_n 1, 1), (323, .invokevirtual 29, 3), (326, .pop, 1), (327, .aload_n 2, 1), (328, .invokevirtual 33, 3), (331, .pop, 1), (332, .goto 1173, 3)]
set_option maxRecDepth 100000 in
theorem lt_2_d : (lt_2.all fun q => decide (decode code q.1 = .ok (q.2.1, q.2.2))) = true := by decide +kernel
theorem ll_x2 : Cond.methodLink "ReadBoundLaw" 29 mn_113 ∈ lw_tbl := List.mem_of_getElem? (i := 471) (by decide +kernel)
theorem ll_m2 : Cond.methodLink "ReadBoundLaw" 33 mn_192 ∈ lw_tbl := List.mem_of_getElem? (i := 1384) (by decide +kernel)
set_option maxRecDepth 100000 in
theorem lc_case2 {p : Program} {l : Launch} {e : Env} {s : State} {m : MethodId} {below : List Frame} {meth : Method} {c : Code} {Q : State → Prop} {D : va_G} {cA : Nat → ClassId} {sa sv : Nat} {ad : Nat → Nat} {b N oq : Nat} {xs : Nat → Int32} {cu su : Nat} {H : Heap} {locs : List Loc} {ls : Array Slot} {w : pi_W} {i : Nat} (hG : lw_G p s m c meth D cA sa sv ad b N oq xs) (hH : lw_H s D cA ad oq w H locs) (hl : lv_has ls 7 (lw_L ad b oq i)) (hi : i + 6 ≤ N) (hcu : cu + 6 ≤ 601024) (hsu : su + 36 ≤ 7293034) (kend : ∀ (H1 : Heap) (locs1 : List Loc) (w1 : pi_W) (ls1 : Array Slot), lw_H s D cA ad oq w1 H1 locs1 → lv_has ls1 7 (lw_L ad b oq i) → W p l e room_1 s m #[Value.ref b] below meth c H1 locs1 (cu + 6) (su + 36) Q (F0 m 1505 ls1 [])) : W p l e room_1 s m #[Value.ref b] below meth c H locs cu su Q (F0 m 322 ls []) := by
  obtain ⟨hI, hP, hD, hS, ho1, ho2, hof⟩ := id hH
  have C := hG.1
  have hsa := hG.2.1
  have hx := C.1
  have hb := C.2.1
  obtain ⟨e0, he0, fs0, rfl, -, -⟩ := hI.1.at (a := 0) (c := .inr (10, _)) rfl
  refine lv_aload_n hx hb (kd_at lt_2_d 0 rfl) rfl (lv_at hl 1 rfl) ?_
  refine lw_hq C hsa (z := 113) (na := 0) (cp := 29) (a := 0) (As := []) (d := 24) (restM := []) pz_113 lk_x2 ll_x2 rfl he0 (Nat.le_of_ble_eq_true rfl) (by decide) rfl (lx_2 hI) (fun r w' q => by rw [q.1.1.1, hI.1.1]) hP hD hS hl.1 (by decide) (by decide) (by show cu ≤ 601024; omega) (by show su ≤ 7293034; omega) (by decide) (kd_at lt_2_d 1 rfl) ?_
  rintro r1 w1 H1 locs1 ⟨hI1, v1, rfl⟩ hP1 hD1 hS1 hz1 hk1
  have hH1 := lw_oq hG hH hI1 hP1 hD1 hS1 hz1 hk1
  obtain ⟨e1, he1, fs1, rfl, -, -⟩ := hI1.1.at (a := 61) (c := .inr (11, _)) rfl
  refine lv_pop hx hb (kd_at lt_2_d 2 rfl) rfl ?_
  refine lv_aload_n hx hb (kd_at lt_2_d 3 rfl) rfl (lv_at hl 2 rfl) ?_
  refine lw_hq C hsa (z := 192) (na := 0) (cp := 33) (a := 61) (As := []) (d := 24) (restM := []) pz_192 lk_m2 ll_m2 rfl he1 (Nat.le_of_ble_eq_true rfl) (by decide) rfl (lm_2 hI1) (fun r w' q => by rw [q.1.1.1, hI1.1.1]) hP1 hD1 hS1 hl.1 (by decide) (by decide) (by show cu ≤ 601024; omega) (by show su ≤ 7293034; omega) (by decide) (kd_at lt_2_d 4 rfl) ?_
  rintro r2 w2 H2 locs2 ⟨hI2, v2, rfl⟩ hP2 hD2 hS2 hz2 hk2
  have hH2 := lw_oq hG hH1 hI2 hP2 hD2 hS2 hz2 hk2
  refine lv_pop hx hb (kd_at lt_2_d 5 rfl) rfl ?_
  refine lv_goto (tgt := 1505) hx hb (kd_at lt_2_d 6 rfl) rfl ?_
  exact W.widen (by omega) (by omega) (kend H2 locs2 w2 ls hH2 hl)
def lt_3 : List (Nat × Instr × Nat) := [(335, .aload_n 1, 1), (336, .invokevirtual 34, 3), (339, .pop, 1), (340, .aload_n 2, 1), (341, .invokevirtual 37, 3), (344, .pop, 1), (345, .goto 1160, 3)]
set_option maxRecDepth 100000 in
theorem lt_3_d : (lt_3.all fun q => decide (decode code q.1 = .ok (q.2.1, q.2.2))) = true := by decide +kernel
theorem ll_x3 : Cond.methodLink "ReadBoundLaw" 34 mn_114 ∈ lw_tbl := List.mem_of_getElem? (i := 664) (by decide +kernel)
theorem ll_m3 : Cond.methodLink "ReadBoundLaw" 37 mn_193 ∈ lw_tbl := List.mem_of_getElem? (i := 1493) (by decide +kernel)
set_option maxRecDepth 100000 in
theorem lc_case3 {p : Program} {l : Launch} {e : Env} {s : State} {m : MethodId} {below : List Frame} {meth : Method} {c : Code} {Q : State → Prop} {D : va_G} {cA : Nat → ClassId} {sa sv : Nat} {ad : Nat → Nat} {b N oq : Nat} {xs : Nat → Int32} {cu su : Nat} {H : Heap} {locs : List Loc} {ls : Array Slot} {w : pi_W} {i : Nat} (hG : lw_G p s m c meth D cA sa sv ad b N oq xs) (hH : lw_H s D cA ad oq w H locs) (hl : lv_has ls 7 (lw_L ad b oq i)) (hi : i + 6 ≤ N) (hcu : cu + 6 ≤ 601024) (hsu : su + 36 ≤ 7293034) (kend : ∀ (H1 : Heap) (locs1 : List Loc) (w1 : pi_W) (ls1 : Array Slot), lw_H s D cA ad oq w1 H1 locs1 → lv_has ls1 7 (lw_L ad b oq i) → W p l e room_1 s m #[Value.ref b] below meth c H1 locs1 (cu + 6) (su + 36) Q (F0 m 1505 ls1 [])) : W p l e room_1 s m #[Value.ref b] below meth c H locs cu su Q (F0 m 335 ls []) := by
  obtain ⟨hI, hP, hD, hS, ho1, ho2, hof⟩ := id hH
  have C := hG.1
  have hsa := hG.2.1
  have hx := C.1
  have hb := C.2.1
  obtain ⟨e0, he0, fs0, rfl, -, -⟩ := hI.1.at (a := 0) (c := .inr (10, _)) rfl
  refine lv_aload_n hx hb (kd_at lt_3_d 0 rfl) rfl (lv_at hl 1 rfl) ?_
  refine lw_hq C hsa (z := 114) (na := 0) (cp := 34) (a := 0) (As := []) (d := 24) (restM := []) pz_114 lk_x3 ll_x3 rfl he0 (Nat.le_of_ble_eq_true rfl) (by decide) rfl (lx_3 hI) (fun r w' q => by rw [q.1.1.1, hI.1.1]) hP hD hS hl.1 (by decide) (by decide) (by show cu ≤ 601024; omega) (by show su ≤ 7293034; omega) (by decide) (kd_at lt_3_d 1 rfl) ?_
  rintro r1 w1 H1 locs1 ⟨hI1, v1, rfl⟩ hP1 hD1 hS1 hz1 hk1
  have hH1 := lw_oq hG hH hI1 hP1 hD1 hS1 hz1 hk1
  obtain ⟨e1, he1, fs1, rfl, -, -⟩ := hI1.1.at (a := 61) (c := .inr (11, _)) rfl
  refine lv_pop hx hb (kd_at lt_3_d 2 rfl) rfl ?_
  refine lv_aload_n hx hb (kd_at lt_3_d 3 rfl) rfl (lv_at hl 2 rfl) ?_
  refine lw_hq C hsa (z := 193) (na := 0) (cp := 37) (a := 61) (As := []) (d := 24) (restM := []) pz_193 lk_m3 ll_m3 rfl he1 (Nat.le_of_ble_eq_true rfl) (by decide) rfl (lm_3 hI1) (fun r w' q => by rw [q.1.1.1, hI1.1.1]) hP1 hD1 hS1 hl.1 (by decide) (by decide) (by show cu ≤ 601024; omega) (by show su ≤ 7293034; omega) (by decide) (kd_at lt_3_d 4 rfl) ?_
  rintro r2 w2 H2 locs2 ⟨hI2, v2, rfl⟩ hP2 hD2 hS2 hz2 hk2
  have hH2 := lw_oq hG hH1 hI2 hP2 hD2 hS2 hz2 hk2
  refine lv_pop hx hb (kd_at lt_3_d 5 rfl) rfl ?_
  refine lv_goto (tgt := 1505) hx hb (kd_at lt_3_d 6 rfl) rfl ?_
  exact W.widen (by omega) (by omega) (kend H2 locs2 w2 ls hH2 hl)
def lt_4 : List (Nat × Instr × Nat) := [(348, .aload_n 1, 1), (349, .aload_n 0, 1), (350, .iload 4, 2), (352, .iconst 1, 1), (353, .iadd, 1), (354, .iaload, 1), (355, .aload_n 0, 1), (356, .iload 4, 2), (358, .iconst 2, 1), (359, .iadd, 1), (360, .iaload, 1), (361, .invokevirtual 38, 3), (364, .pop, 1), (365, .aload_n 2, 1), (366, .aload_n 0, 1), (367, .iload 4, 2), (369, .iconst 1, 1), (370, .iadd, 1), (371, .iaload, 1), (372, .aload_n 0, 1), (373, .iload 4, 2), (375, .iconst 2, 1), (376, .iadd, 1), (377, .iaload, 1), (378, .invokevirtual 41, 3), (381, .pop, 1), (382, .goto 1123, 3)]
set_option maxRecDepth 100000 in
theorem lt_4_d : (lt_4.all fun q => decide (decode code q.1 = .ok (q.2.1, q.2.2))) = true := by decide +kernel
theorem ll_x4 : Cond.methodLink "ReadBoundLaw" 38 mn_115 ∈ lw_tbl := List.mem_of_getElem? (i := 668) (by decide +kernel)
theorem ll_m4 : Cond.methodLink "ReadBoundLaw" 41 mn_209 ∈ lw_tbl := List.mem_of_getElem? (i := 1497) (by decide +kernel)
set_option maxRecDepth 100000 in
theorem lc_case4 {p : Program} {l : Launch} {e : Env} {s : State} {m : MethodId} {below : List Frame} {meth : Method} {c : Code} {Q : State → Prop} {D : va_G} {cA : Nat → ClassId} {sa sv : Nat} {ad : Nat → Nat} {b N oq : Nat} {xs : Nat → Int32} {cu su : Nat} {H : Heap} {locs : List Loc} {ls : Array Slot} {w : pi_W} {i : Nat} (hG : lw_G p s m c meth D cA sa sv ad b N oq xs) (hH : lw_H s D cA ad oq w H locs) (hl : lv_has ls 7 (lw_L ad b oq i)) (hi : i + 6 ≤ N) (hcu : cu + 6 ≤ 601024) (hsu : su + 36 ≤ 7293034) (kend : ∀ (H1 : Heap) (locs1 : List Loc) (w1 : pi_W) (ls1 : Array Slot), lw_H s D cA ad oq w1 H1 locs1 → lv_has ls1 7 (lw_L ad b oq i) → W p l e room_1 s m #[Value.ref b] below meth c H1 locs1 (cu + 6) (su + 36) Q (F0 m 1505 ls1 [])) : W p l e room_1 s m #[Value.ref b] below meth c H locs cu su Q (F0 m 348 ls []) := by
  obtain ⟨hI, hP, hD, hS, ho1, ho2, hof⟩ := id hH
  have C := hG.1
  have hsa := hG.2.1
  have hx := C.1
  have hb := C.2.1
  obtain ⟨e0, he0, fs0, rfl, -, -⟩ := hI.1.at (a := 0) (c := .inr (10, _)) rfl
  refine lv_aload_n hx hb (kd_at lt_4_d 0 rfl) rfl (lv_at hl 1 rfl) ?_
  refine lw_push (j := 1) (jj := 1) hG hS hl (by omega) rfl (kd_at lt_4_d 1 rfl) (kd_at lt_4_d 2 rfl) (kd_at lt_4_d 3 rfl) (kd_at lt_4_d 4 rfl) (kd_at lt_4_d 5 rfl) ?_
  refine lw_push (j := 2) (jj := 2) hG hS hl (by omega) rfl (kd_at lt_4_d 6 rfl) (kd_at lt_4_d 7 rfl) (kd_at lt_4_d 8 rfl) (kd_at lt_4_d 9 rfl) (kd_at lt_4_d 10 rfl) ?_
  refine lw_hq C hsa (z := 115) (na := 2) (cp := 38) (a := 0) (As := [.int (xs (i + 1)), .int (xs (i + 2))]) (d := 24) (restM := []) pz_115 lk_x4 ll_x4 rfl he0 (Nat.le_of_ble_eq_true rfl) (by decide) rfl (lx_4 hI (xs (i + 1)) (xs (i + 2))) (fun r w' q => by rw [q.1.1.1, hI.1.1]) hP hD hS hl.1 (by decide) (by decide) (by show cu ≤ 601024; omega) (by show su ≤ 7293034; omega) (by decide) (kd_at lt_4_d 11 rfl) ?_
  rintro r1 w1 H1 locs1 ⟨hI1, v1, rfl⟩ hP1 hD1 hS1 hz1 hk1
  have hH1 := lw_oq hG hH hI1 hP1 hD1 hS1 hz1 hk1
  obtain ⟨e1, he1, fs1, rfl, -, -⟩ := hI1.1.at (a := 61) (c := .inr (11, _)) rfl
  refine lv_pop hx hb (kd_at lt_4_d 12 rfl) rfl ?_
  refine lv_aload_n hx hb (kd_at lt_4_d 13 rfl) rfl (lv_at hl 2 rfl) ?_
  refine lw_push (j := 1) (jj := 1) hG hS1 hl (by omega) rfl (kd_at lt_4_d 14 rfl) (kd_at lt_4_d 15 rfl) (kd_at lt_4_d 16 rfl) (kd_at lt_4_d 17 rfl) (kd_at lt_4_d 18 rfl) ?_
  refine lw_push (j := 2) (jj := 2) hG hS1 hl (by omega) rfl (kd_at lt_4_d 19 rfl) (kd_at lt_4_d 20 rfl) (kd_at lt_4_d 21 rfl) (kd_at lt_4_d 22 rfl) (kd_at lt_4_d 23 rfl) ?_
  refine lw_hq C hsa (z := 209) (na := 2) (cp := 41) (a := 61) (As := [.int (xs (i + 1)), .int (xs (i + 2))]) (d := 24) (restM := []) pz_209 lk_m4 ll_m4 rfl he1 (Nat.le_of_ble_eq_true rfl) (by decide) rfl (lm_4 hI1 (xs (i + 1)) (xs (i + 2))) (fun r w' q => by rw [q.1.1.1, hI1.1.1]) hP1 hD1 hS1 hl.1 (by decide) (by decide) (by show cu ≤ 601024; omega) (by show su ≤ 7293034; omega) (by decide) (kd_at lt_4_d 24 rfl) ?_
  rintro r2 w2 H2 locs2 ⟨hI2, v2, rfl⟩ hP2 hD2 hS2 hz2 hk2
  have hH2 := lw_oq hG hH1 hI2 hP2 hD2 hS2 hz2 hk2
  refine lv_pop hx hb (kd_at lt_4_d 25 rfl) rfl ?_
  refine lv_goto (tgt := 1505) hx hb (kd_at lt_4_d 26 rfl) rfl ?_
  exact W.widen (by omega) (by omega) (kend H2 locs2 w2 ls hH2 hl)
def lt_6 : List (Nat × Instr × Nat) := [(425, .aload_n 1, 1), (426, .aload_n 0, 1), (427, .iload 4, 2), (429, .iconst 1, 1), (430, .iadd, 1), (431, .iaload, 1), (432, .aload_n 0, 1), (433, .iload 4, 2), (435, .iconst 2, 1), (436, .iadd, 1), (437, .iaload, 1), (438, .invokevirtual 48, 3), (441, .pop, 1), (442, .aload_n 2, 1), (443, .aload_n 0, 1), (444, .iload 4, 2), (446, .iconst 1, 1), (447, .iadd, 1), (448, .iaload, 1), (449, .aload_n 0, 1), (450, .iload 4, 2), (452, .iconst 2, 1), (453, .iadd, 1), (454, .iaload, 1), (455, .invokevirtual 51, 3), (458, .pop, 1), (459, .goto 1046, 3)]
set_option maxRecDepth 100000 in
theorem lt_6_d : (lt_6.all fun q => decide (decode code q.1 = .ok (q.2.1, q.2.2))) = true := by decide +kernel
theorem ll_x6 : Cond.methodLink "ReadBoundLaw" 48 mn_116 ∈ lw_tbl := List.mem_of_getElem? (i := 685) (by decide +kernel)
theorem ll_m6 : Cond.methodLink "ReadBoundLaw" 51 mn_211 ∈ lw_tbl := List.mem_of_getElem? (i := 1517) (by decide +kernel)
set_option maxRecDepth 100000 in
theorem lc_case6 {p : Program} {l : Launch} {e : Env} {s : State} {m : MethodId} {below : List Frame} {meth : Method} {c : Code} {Q : State → Prop} {D : va_G} {cA : Nat → ClassId} {sa sv : Nat} {ad : Nat → Nat} {b N oq : Nat} {xs : Nat → Int32} {cu su : Nat} {H : Heap} {locs : List Loc} {ls : Array Slot} {w : pi_W} {i : Nat} (hG : lw_G p s m c meth D cA sa sv ad b N oq xs) (hH : lw_H s D cA ad oq w H locs) (hl : lv_has ls 7 (lw_L ad b oq i)) (hi : i + 6 ≤ N) (hcu : cu + 6 ≤ 601024) (hsu : su + 36 ≤ 7293034) (kend : ∀ (H1 : Heap) (locs1 : List Loc) (w1 : pi_W) (ls1 : Array Slot), lw_H s D cA ad oq w1 H1 locs1 → lv_has ls1 7 (lw_L ad b oq i) → W p l e room_1 s m #[Value.ref b] below meth c H1 locs1 (cu + 6) (su + 36) Q (F0 m 1505 ls1 [])) : W p l e room_1 s m #[Value.ref b] below meth c H locs cu su Q (F0 m 425 ls []) := by
  obtain ⟨hI, hP, hD, hS, ho1, ho2, hof⟩ := id hH
  have C := hG.1
  have hsa := hG.2.1
  have hx := C.1
  have hb := C.2.1
  obtain ⟨e0, he0, fs0, rfl, -, -⟩ := hI.1.at (a := 0) (c := .inr (10, _)) rfl
  refine lv_aload_n hx hb (kd_at lt_6_d 0 rfl) rfl (lv_at hl 1 rfl) ?_
  refine lw_push (j := 1) (jj := 1) hG hS hl (by omega) rfl (kd_at lt_6_d 1 rfl) (kd_at lt_6_d 2 rfl) (kd_at lt_6_d 3 rfl) (kd_at lt_6_d 4 rfl) (kd_at lt_6_d 5 rfl) ?_
  refine lw_push (j := 2) (jj := 2) hG hS hl (by omega) rfl (kd_at lt_6_d 6 rfl) (kd_at lt_6_d 7 rfl) (kd_at lt_6_d 8 rfl) (kd_at lt_6_d 9 rfl) (kd_at lt_6_d 10 rfl) ?_
  refine lw_hq C hsa (z := 116) (na := 2) (cp := 48) (a := 0) (As := [.int (xs (i + 1)), .int (xs (i + 2))]) (d := 24) (restM := []) pz_116 lk_x6 ll_x6 rfl he0 (Nat.le_of_ble_eq_true rfl) (by decide) rfl (lx_6 hI (xs (i + 1)) (xs (i + 2))) (fun r w' q => by rw [q.1.1.1, hI.1.1]) hP hD hS hl.1 (by decide) (by decide) (by show cu ≤ 601024; omega) (by show su ≤ 7293034; omega) (by decide) (kd_at lt_6_d 11 rfl) ?_
  rintro r1 w1 H1 locs1 ⟨hI1, v1, rfl⟩ hP1 hD1 hS1 hz1 hk1
  have hH1 := lw_oq hG hH hI1 hP1 hD1 hS1 hz1 hk1
  obtain ⟨e1, he1, fs1, rfl, -, -⟩ := hI1.1.at (a := 61) (c := .inr (11, _)) rfl
  refine lv_pop hx hb (kd_at lt_6_d 12 rfl) rfl ?_
  refine lv_aload_n hx hb (kd_at lt_6_d 13 rfl) rfl (lv_at hl 2 rfl) ?_
  refine lw_push (j := 1) (jj := 1) hG hS1 hl (by omega) rfl (kd_at lt_6_d 14 rfl) (kd_at lt_6_d 15 rfl) (kd_at lt_6_d 16 rfl) (kd_at lt_6_d 17 rfl) (kd_at lt_6_d 18 rfl) ?_
  refine lw_push (j := 2) (jj := 2) hG hS1 hl (by omega) rfl (kd_at lt_6_d 19 rfl) (kd_at lt_6_d 20 rfl) (kd_at lt_6_d 21 rfl) (kd_at lt_6_d 22 rfl) (kd_at lt_6_d 23 rfl) ?_
  refine lw_hq C hsa (z := 211) (na := 2) (cp := 51) (a := 61) (As := [.int (xs (i + 1)), .int (xs (i + 2))]) (d := 24) (restM := []) pz_211 lk_m6 ll_m6 rfl he1 (Nat.le_of_ble_eq_true rfl) (by decide) rfl (lm_6 hI1 (xs (i + 1)) (xs (i + 2))) (fun r w' q => by rw [q.1.1.1, hI1.1.1]) hP1 hD1 hS1 hl.1 (by decide) (by decide) (by show cu ≤ 601024; omega) (by show su ≤ 7293034; omega) (by decide) (kd_at lt_6_d 24 rfl) ?_
  rintro r2 w2 H2 locs2 ⟨hI2, v2, rfl⟩ hP2 hD2 hS2 hz2 hk2
  have hH2 := lw_oq hG hH1 hI2 hP2 hD2 hS2 hz2 hk2
  refine lv_pop hx hb (kd_at lt_6_d 25 rfl) rfl ?_
  refine lv_goto (tgt := 1505) hx hb (kd_at lt_6_d 26 rfl) rfl ?_
  exact W.widen (by omega) (by omega) (kend H2 locs2 w2 ls hH2 hl)
def lt_7 : List (Nat × Instr × Nat) := [(462, .aload_n 1, 1), (463, .aload_n 0, 1), (464, .iload 4, 2), (466, .iconst 1, 1), (467, .iadd, 1), (468, .iaload, 1), (469, .invokevirtual 52, 3), (472, .pop, 1), (473, .aload_n 2, 1), (474, .aload_n 0, 1), (475, .iload 4, 2), (477, .iconst 1, 1), (478, .iadd, 1), (479, .iaload, 1), (480, .invokevirtual 56, 3), (483, .pop, 1), (484, .goto 1021, 3)]
set_option maxRecDepth 100000 in
theorem lt_7_d : (lt_7.all fun q => decide (decode code q.1 = .ok (q.2.1, q.2.2))) = true := by decide +kernel
theorem ll_x7 : Cond.methodLink "ReadBoundLaw" 52 mn_117 ∈ lw_tbl := List.mem_of_getElem? (i := 693) (by decide +kernel)
theorem ll_m7 : Cond.methodLink "ReadBoundLaw" 56 mn_213 ∈ lw_tbl := List.mem_of_getElem? (i := 1525) (by decide +kernel)
set_option maxRecDepth 100000 in
theorem lc_case7 {p : Program} {l : Launch} {e : Env} {s : State} {m : MethodId} {below : List Frame} {meth : Method} {c : Code} {Q : State → Prop} {D : va_G} {cA : Nat → ClassId} {sa sv : Nat} {ad : Nat → Nat} {b N oq : Nat} {xs : Nat → Int32} {cu su : Nat} {H : Heap} {locs : List Loc} {ls : Array Slot} {w : pi_W} {i : Nat} (hG : lw_G p s m c meth D cA sa sv ad b N oq xs) (hH : lw_H s D cA ad oq w H locs) (hl : lv_has ls 7 (lw_L ad b oq i)) (hi : i + 6 ≤ N) (hcu : cu + 6 ≤ 601024) (hsu : su + 36 ≤ 7293034) (kend : ∀ (H1 : Heap) (locs1 : List Loc) (w1 : pi_W) (ls1 : Array Slot), lw_H s D cA ad oq w1 H1 locs1 → lv_has ls1 7 (lw_L ad b oq i) → W p l e room_1 s m #[Value.ref b] below meth c H1 locs1 (cu + 6) (su + 36) Q (F0 m 1505 ls1 [])) : W p l e room_1 s m #[Value.ref b] below meth c H locs cu su Q (F0 m 462 ls []) := by
  obtain ⟨hI, hP, hD, hS, ho1, ho2, hof⟩ := id hH
  have C := hG.1
  have hsa := hG.2.1
  have hx := C.1
  have hb := C.2.1
  obtain ⟨e0, he0, fs0, rfl, -, -⟩ := hI.1.at (a := 0) (c := .inr (10, _)) rfl
  refine lv_aload_n hx hb (kd_at lt_7_d 0 rfl) rfl (lv_at hl 1 rfl) ?_
  refine lw_push (j := 1) (jj := 1) hG hS hl (by omega) rfl (kd_at lt_7_d 1 rfl) (kd_at lt_7_d 2 rfl) (kd_at lt_7_d 3 rfl) (kd_at lt_7_d 4 rfl) (kd_at lt_7_d 5 rfl) ?_
  refine lw_hq C hsa (z := 117) (na := 1) (cp := 52) (a := 0) (As := [.int (xs (i + 1))]) (d := 24) (restM := []) pz_117 lk_x7 ll_x7 rfl he0 (Nat.le_of_ble_eq_true rfl) (by decide) rfl (lx_7 hI (xs (i + 1))) (fun r w' q => by rw [q.1.1.1, hI.1.1]) hP hD hS hl.1 (by decide) (by decide) (by show cu ≤ 601024; omega) (by show su ≤ 7293034; omega) (by decide) (kd_at lt_7_d 6 rfl) ?_
  rintro r1 w1 H1 locs1 ⟨hI1, v1, rfl⟩ hP1 hD1 hS1 hz1 hk1
  have hH1 := lw_oq hG hH hI1 hP1 hD1 hS1 hz1 hk1
  obtain ⟨e1, he1, fs1, rfl, -, -⟩ := hI1.1.at (a := 61) (c := .inr (11, _)) rfl
  refine lv_pop hx hb (kd_at lt_7_d 7 rfl) rfl ?_
  refine lv_aload_n hx hb (kd_at lt_7_d 8 rfl) rfl (lv_at hl 2 rfl) ?_
  refine lw_push (j := 1) (jj := 1) hG hS1 hl (by omega) rfl (kd_at lt_7_d 9 rfl) (kd_at lt_7_d 10 rfl) (kd_at lt_7_d 11 rfl) (kd_at lt_7_d 12 rfl) (kd_at lt_7_d 13 rfl) ?_
  refine lw_hq C hsa (z := 213) (na := 1) (cp := 56) (a := 61) (As := [.int (xs (i + 1))]) (d := 24) (restM := []) pz_213 lk_m7 ll_m7 rfl he1 (Nat.le_of_ble_eq_true rfl) (by decide) rfl (lm_7 hI1 (xs (i + 1))) (fun r w' q => by rw [q.1.1.1, hI1.1.1]) hP1 hD1 hS1 hl.1 (by decide) (by decide) (by show cu ≤ 601024; omega) (by show su ≤ 7293034; omega) (by decide) (kd_at lt_7_d 14 rfl) ?_
  rintro r2 w2 H2 locs2 ⟨hI2, v2, rfl⟩ hP2 hD2 hS2 hz2 hk2
  have hH2 := lw_oq hG hH1 hI2 hP2 hD2 hS2 hz2 hk2
  refine lv_pop hx hb (kd_at lt_7_d 15 rfl) rfl ?_
  refine lv_goto (tgt := 1505) hx hb (kd_at lt_7_d 16 rfl) rfl ?_
  exact W.widen (by omega) (by omega) (kend H2 locs2 w2 ls hH2 hl)
def lt_8 : List (Nat × Instr × Nat) := [(487, .aload_n 1, 1), (488, .aload_n 0, 1), (489, .iload 4, 2), (491, .iconst 1, 1), (492, .iadd, 1), (493, .iaload, 1), (494, .aload_n 0, 1), (495, .iload 4, 2), (497, .iconst 2, 1), (498, .iadd, 1), (499, .iaload, 1), (500, .invokevirtual 57, 3), (503, .pop, 1), (504, .aload_n 2, 1), (505, .aload_n 0, 1), (506, .iload 4, 2), (508, .iconst 1, 1), (509, .iadd, 1), (510, .iaload, 1), (511, .aload_n 0, 1), (512, .iload 4, 2), (514, .iconst 2, 1), (515, .iadd, 1), (516, .iaload, 1), (517, .invokevirtual 60, 3), (520, .pop, 1), (521, .goto 984, 3)]
set_option maxRecDepth 100000 in
theorem lt_8_d : (lt_8.all fun q => decide (decode code q.1 = .ok (q.2.1, q.2.2))) = true := by decide +kernel
theorem ll_x8 : Cond.methodLink "ReadBoundLaw" 57 mn_118 ∈ lw_tbl := List.mem_of_getElem? (i := 740) (by decide +kernel)
theorem ll_m8 : Cond.methodLink "ReadBoundLaw" 60 mn_230 ∈ lw_tbl := List.mem_of_getElem? (i := 1552) (by decide +kernel)
set_option maxRecDepth 100000 in
theorem lc_case8 {p : Program} {l : Launch} {e : Env} {s : State} {m : MethodId} {below : List Frame} {meth : Method} {c : Code} {Q : State → Prop} {D : va_G} {cA : Nat → ClassId} {sa sv : Nat} {ad : Nat → Nat} {b N oq : Nat} {xs : Nat → Int32} {cu su : Nat} {H : Heap} {locs : List Loc} {ls : Array Slot} {w : pi_W} {i : Nat} (hG : lw_G p s m c meth D cA sa sv ad b N oq xs) (hH : lw_H s D cA ad oq w H locs) (hl : lv_has ls 7 (lw_L ad b oq i)) (hi : i + 6 ≤ N) (hcu : cu + 6 ≤ 601024) (hsu : su + 36 ≤ 7293034) (kend : ∀ (H1 : Heap) (locs1 : List Loc) (w1 : pi_W) (ls1 : Array Slot), lw_H s D cA ad oq w1 H1 locs1 → lv_has ls1 7 (lw_L ad b oq i) → W p l e room_1 s m #[Value.ref b] below meth c H1 locs1 (cu + 6) (su + 36) Q (F0 m 1505 ls1 [])) : W p l e room_1 s m #[Value.ref b] below meth c H locs cu su Q (F0 m 487 ls []) := by
  obtain ⟨hI, hP, hD, hS, ho1, ho2, hof⟩ := id hH
  have C := hG.1
  have hsa := hG.2.1
  have hx := C.1
  have hb := C.2.1
  obtain ⟨e0, he0, fs0, rfl, -, -⟩ := hI.1.at (a := 0) (c := .inr (10, _)) rfl
  refine lv_aload_n hx hb (kd_at lt_8_d 0 rfl) rfl (lv_at hl 1 rfl) ?_
  refine lw_push (j := 1) (jj := 1) hG hS hl (by omega) rfl (kd_at lt_8_d 1 rfl) (kd_at lt_8_d 2 rfl) (kd_at lt_8_d 3 rfl) (kd_at lt_8_d 4 rfl) (kd_at lt_8_d 5 rfl) ?_
  refine lw_push (j := 2) (jj := 2) hG hS hl (by omega) rfl (kd_at lt_8_d 6 rfl) (kd_at lt_8_d 7 rfl) (kd_at lt_8_d 8 rfl) (kd_at lt_8_d 9 rfl) (kd_at lt_8_d 10 rfl) ?_
  refine lw_hq C hsa (z := 118) (na := 2) (cp := 57) (a := 0) (As := [.int (xs (i + 1)), .int (xs (i + 2))]) (d := 24) (restM := []) pz_118 lk_x8 ll_x8 rfl he0 (Nat.le_of_ble_eq_true rfl) (by decide) rfl (lx_8 hI (xs (i + 1)) (xs (i + 2))) (fun r w' q => by rw [q.1.1.1, hI.1.1]) hP hD hS hl.1 (by decide) (by decide) (by show cu ≤ 601024; omega) (by show su ≤ 7293034; omega) (by decide) (kd_at lt_8_d 11 rfl) ?_
  rintro r1 w1 H1 locs1 ⟨hI1, v1, rfl⟩ hP1 hD1 hS1 hz1 hk1
  have hH1 := lw_oq hG hH hI1 hP1 hD1 hS1 hz1 hk1
  obtain ⟨e1, he1, fs1, rfl, -, -⟩ := hI1.1.at (a := 61) (c := .inr (11, _)) rfl
  refine lv_pop hx hb (kd_at lt_8_d 12 rfl) rfl ?_
  refine lv_aload_n hx hb (kd_at lt_8_d 13 rfl) rfl (lv_at hl 2 rfl) ?_
  refine lw_push (j := 1) (jj := 1) hG hS1 hl (by omega) rfl (kd_at lt_8_d 14 rfl) (kd_at lt_8_d 15 rfl) (kd_at lt_8_d 16 rfl) (kd_at lt_8_d 17 rfl) (kd_at lt_8_d 18 rfl) ?_
  refine lw_push (j := 2) (jj := 2) hG hS1 hl (by omega) rfl (kd_at lt_8_d 19 rfl) (kd_at lt_8_d 20 rfl) (kd_at lt_8_d 21 rfl) (kd_at lt_8_d 22 rfl) (kd_at lt_8_d 23 rfl) ?_
  refine lw_hq C hsa (z := 230) (na := 2) (cp := 60) (a := 61) (As := [.int (xs (i + 1)), .int (xs (i + 2))]) (d := 24) (restM := []) pz_230 lk_m8 ll_m8 rfl he1 (Nat.le_of_ble_eq_true rfl) (by decide) rfl (lm_8 hI1 (xs (i + 1)) (xs (i + 2))) (fun r w' q => by rw [q.1.1.1, hI1.1.1]) hP1 hD1 hS1 hl.1 (by decide) (by decide) (by show cu ≤ 601024; omega) (by show su ≤ 7293034; omega) (by decide) (kd_at lt_8_d 24 rfl) ?_
  rintro r2 w2 H2 locs2 ⟨hI2, v2, rfl⟩ hP2 hD2 hS2 hz2 hk2
  have hH2 := lw_oq hG hH1 hI2 hP2 hD2 hS2 hz2 hk2
  refine lv_pop hx hb (kd_at lt_8_d 25 rfl) rfl ?_
  refine lv_goto (tgt := 1505) hx hb (kd_at lt_8_d 26 rfl) rfl ?_
  exact W.widen (by omega) (by omega) (kend H2 locs2 w2 ls hH2 hl)
def lt_9 : List (Nat × Instr × Nat) := [(524, .aload_n 1, 1), (525, .aload_n 0, 1), (526, .iload 4, 2), (528, .iconst 1, 1), (529, .iadd, 1), (530, .iaload, 1), (531, .aload_n 0, 1), (532, .iload 4, 2), (534, .iconst 2, 1), (535, .iadd, 1), (536, .iaload, 1), (537, .invokevirtual 61, 3), (540, .pop, 1), (541, .aload_n 2, 1), (542, .aload_n 0, 1), (543, .iload 4, 2), (545, .iconst 1, 1), (546, .iadd, 1), (547, .iaload, 1), (548, .aload_n 0, 1), (549, .iload 4, 2), (551, .iconst 2, 1), (552, .iadd, 1), (553, .iaload, 1), (554, .invokevirtual 64, 3), (557, .pop, 1), (558, .goto 947, 3)]
set_option maxRecDepth 100000 in
theorem lt_9_d : (lt_9.all fun q => decide (decode code q.1 = .ok (q.2.1, q.2.2))) = true := by decide +kernel
theorem ll_x9 : Cond.methodLink "ReadBoundLaw" 61 mn_119 ∈ lw_tbl := List.mem_of_getElem? (i := 790) (by decide +kernel)
theorem ll_m9 : Cond.methodLink "ReadBoundLaw" 64 mn_231 ∈ lw_tbl := List.mem_of_getElem? (i := 1572) (by decide +kernel)
set_option maxRecDepth 100000 in
theorem lc_case9 {p : Program} {l : Launch} {e : Env} {s : State} {m : MethodId} {below : List Frame} {meth : Method} {c : Code} {Q : State → Prop} {D : va_G} {cA : Nat → ClassId} {sa sv : Nat} {ad : Nat → Nat} {b N oq : Nat} {xs : Nat → Int32} {cu su : Nat} {H : Heap} {locs : List Loc} {ls : Array Slot} {w : pi_W} {i : Nat} (hG : lw_G p s m c meth D cA sa sv ad b N oq xs) (hH : lw_H s D cA ad oq w H locs) (hl : lv_has ls 7 (lw_L ad b oq i)) (hi : i + 6 ≤ N) (hcu : cu + 6 ≤ 601024) (hsu : su + 36 ≤ 7293034) (kend : ∀ (H1 : Heap) (locs1 : List Loc) (w1 : pi_W) (ls1 : Array Slot), lw_H s D cA ad oq w1 H1 locs1 → lv_has ls1 7 (lw_L ad b oq i) → W p l e room_1 s m #[Value.ref b] below meth c H1 locs1 (cu + 6) (su + 36) Q (F0 m 1505 ls1 [])) : W p l e room_1 s m #[Value.ref b] below meth c H locs cu su Q (F0 m 524 ls []) := by
  obtain ⟨hI, hP, hD, hS, ho1, ho2, hof⟩ := id hH
  have C := hG.1
  have hsa := hG.2.1
  have hx := C.1
  have hb := C.2.1
  obtain ⟨e0, he0, fs0, rfl, -, -⟩ := hI.1.at (a := 0) (c := .inr (10, _)) rfl
  refine lv_aload_n hx hb (kd_at lt_9_d 0 rfl) rfl (lv_at hl 1 rfl) ?_
  refine lw_push (j := 1) (jj := 1) hG hS hl (by omega) rfl (kd_at lt_9_d 1 rfl) (kd_at lt_9_d 2 rfl) (kd_at lt_9_d 3 rfl) (kd_at lt_9_d 4 rfl) (kd_at lt_9_d 5 rfl) ?_
  refine lw_push (j := 2) (jj := 2) hG hS hl (by omega) rfl (kd_at lt_9_d 6 rfl) (kd_at lt_9_d 7 rfl) (kd_at lt_9_d 8 rfl) (kd_at lt_9_d 9 rfl) (kd_at lt_9_d 10 rfl) ?_
  refine lw_hq C hsa (z := 119) (na := 2) (cp := 61) (a := 0) (As := [.int (xs (i + 1)), .int (xs (i + 2))]) (d := 24) (restM := []) pz_119 lk_x9 ll_x9 rfl he0 (Nat.le_of_ble_eq_true rfl) (by decide) rfl (lx_9 hI (xs (i + 1)) (xs (i + 2))) (fun r w' q => by rw [q.1.1.1, hI.1.1]) hP hD hS hl.1 (by decide) (by decide) (by show cu ≤ 601024; omega) (by show su ≤ 7293034; omega) (by decide) (kd_at lt_9_d 11 rfl) ?_
  rintro r1 w1 H1 locs1 ⟨hI1, v1, rfl⟩ hP1 hD1 hS1 hz1 hk1
  have hH1 := lw_oq hG hH hI1 hP1 hD1 hS1 hz1 hk1
  obtain ⟨e1, he1, fs1, rfl, -, -⟩ := hI1.1.at (a := 61) (c := .inr (11, _)) rfl
  refine lv_pop hx hb (kd_at lt_9_d 12 rfl) rfl ?_
  refine lv_aload_n hx hb (kd_at lt_9_d 13 rfl) rfl (lv_at hl 2 rfl) ?_
  refine lw_push (j := 1) (jj := 1) hG hS1 hl (by omega) rfl (kd_at lt_9_d 14 rfl) (kd_at lt_9_d 15 rfl) (kd_at lt_9_d 16 rfl) (kd_at lt_9_d 17 rfl) (kd_at lt_9_d 18 rfl) ?_
  refine lw_push (j := 2) (jj := 2) hG hS1 hl (by omega) rfl (kd_at lt_9_d 19 rfl) (kd_at lt_9_d 20 rfl) (kd_at lt_9_d 21 rfl) (kd_at lt_9_d 22 rfl) (kd_at lt_9_d 23 rfl) ?_
  refine lw_hq C hsa (z := 231) (na := 2) (cp := 64) (a := 61) (As := [.int (xs (i + 1)), .int (xs (i + 2))]) (d := 24) (restM := []) pz_231 lk_m9 ll_m9 rfl he1 (Nat.le_of_ble_eq_true rfl) (by decide) rfl (lm_9 hI1 (xs (i + 1)) (xs (i + 2))) (fun r w' q => by rw [q.1.1.1, hI1.1.1]) hP1 hD1 hS1 hl.1 (by decide) (by decide) (by show cu ≤ 601024; omega) (by show su ≤ 7293034; omega) (by decide) (kd_at lt_9_d 24 rfl) ?_
  rintro r2 w2 H2 locs2 ⟨hI2, v2, rfl⟩ hP2 hD2 hS2 hz2 hk2
  have hH2 := lw_oq hG hH1 hI2 hP2 hD2 hS2 hz2 hk2
  refine lv_pop hx hb (kd_at lt_9_d 25 rfl) rfl ?_
  refine lv_goto (tgt := 1505) hx hb (kd_at lt_9_d 26 rfl) rfl ?_
  exact W.widen (by omega) (by omega) (kend H2 locs2 w2 ls hH2 hl)
def lt_10 : List (Nat × Instr × Nat) := [(561, .aload_n 1, 1), (562, .aload_n 0, 1), (563, .iload 4, 2), (565, .iconst 1, 1), (566, .iadd, 1), (567, .iaload, 1), (568, .aload_n 0, 1), (569, .iload 4, 2), (571, .iconst 2, 1), (572, .iadd, 1), (573, .iaload, 1), (574, .invokevirtual 65, 3), (577, .pop, 1), (578, .aload_n 2, 1), (579, .aload_n 0, 1), (580, .iload 4, 2), (582, .iconst 1, 1), (583, .iadd, 1), (584, .iaload, 1), (585, .aload_n 0, 1), (586, .iload 4, 2), (588, .iconst 2, 1), (589, .iadd, 1), (590, .iaload, 1), (591, .invokevirtual 68, 3), (594, .pop, 1), (595, .goto 910, 3)]
set_option maxRecDepth 100000 in
theorem lt_10_d : (lt_10.all fun q => decide (decode code q.1 = .ok (q.2.1, q.2.2))) = true := by decide +kernel
theorem ll_x10 : Cond.methodLink "ReadBoundLaw" 65 mn_120 ∈ lw_tbl := List.mem_of_getElem? (i := 794) (by decide +kernel)
theorem ll_m10 : Cond.methodLink "ReadBoundLaw" 68 mn_232 ∈ lw_tbl := List.mem_of_getElem? (i := 1596) (by decide +kernel)
set_option maxRecDepth 100000 in
theorem lc_case10 {p : Program} {l : Launch} {e : Env} {s : State} {m : MethodId} {below : List Frame} {meth : Method} {c : Code} {Q : State → Prop} {D : va_G} {cA : Nat → ClassId} {sa sv : Nat} {ad : Nat → Nat} {b N oq : Nat} {xs : Nat → Int32} {cu su : Nat} {H : Heap} {locs : List Loc} {ls : Array Slot} {w : pi_W} {i : Nat} (hG : lw_G p s m c meth D cA sa sv ad b N oq xs) (hH : lw_H s D cA ad oq w H locs) (hl : lv_has ls 7 (lw_L ad b oq i)) (hi : i + 6 ≤ N) (hcu : cu + 6 ≤ 601024) (hsu : su + 36 ≤ 7293034) (kend : ∀ (H1 : Heap) (locs1 : List Loc) (w1 : pi_W) (ls1 : Array Slot), lw_H s D cA ad oq w1 H1 locs1 → lv_has ls1 7 (lw_L ad b oq i) → W p l e room_1 s m #[Value.ref b] below meth c H1 locs1 (cu + 6) (su + 36) Q (F0 m 1505 ls1 [])) : W p l e room_1 s m #[Value.ref b] below meth c H locs cu su Q (F0 m 561 ls []) := by
  obtain ⟨hI, hP, hD, hS, ho1, ho2, hof⟩ := id hH
  have C := hG.1
  have hsa := hG.2.1
  have hx := C.1
  have hb := C.2.1
  obtain ⟨e0, he0, fs0, rfl, -, -⟩ := hI.1.at (a := 0) (c := .inr (10, _)) rfl
  refine lv_aload_n hx hb (kd_at lt_10_d 0 rfl) rfl (lv_at hl 1 rfl) ?_
  refine lw_push (j := 1) (jj := 1) hG hS hl (by omega) rfl (kd_at lt_10_d 1 rfl) (kd_at lt_10_d 2 rfl) (kd_at lt_10_d 3 rfl) (kd_at lt_10_d 4 rfl) (kd_at lt_10_d 5 rfl) ?_
  refine lw_push (j := 2) (jj := 2) hG hS hl (by omega) rfl (kd_at lt_10_d 6 rfl) (kd_at lt_10_d 7 rfl) (kd_at lt_10_d 8 rfl) (kd_at lt_10_d 9 rfl) (kd_at lt_10_d 10 rfl) ?_
  refine lw_hq C hsa (z := 120) (na := 2) (cp := 65) (a := 0) (As := [.int (xs (i + 1)), .int (xs (i + 2))]) (d := 24) (restM := []) pz_120 lk_x10 ll_x10 rfl he0 (Nat.le_of_ble_eq_true rfl) (by decide) rfl (lx_10 hI (xs (i + 1)) (xs (i + 2))) (fun r w' q => by rw [q.1.1.1, hI.1.1]) hP hD hS hl.1 (by decide) (by decide) (by show cu ≤ 601024; omega) (by show su ≤ 7293034; omega) (by decide) (kd_at lt_10_d 11 rfl) ?_
  rintro r1 w1 H1 locs1 ⟨hI1, v1, rfl⟩ hP1 hD1 hS1 hz1 hk1
  have hH1 := lw_oq hG hH hI1 hP1 hD1 hS1 hz1 hk1
  obtain ⟨e1, he1, fs1, rfl, -, -⟩ := hI1.1.at (a := 61) (c := .inr (11, _)) rfl
  refine lv_pop hx hb (kd_at lt_10_d 12 rfl) rfl ?_
  refine lv_aload_n hx hb (kd_at lt_10_d 13 rfl) rfl (lv_at hl 2 rfl) ?_
  refine lw_push (j := 1) (jj := 1) hG hS1 hl (by omega) rfl (kd_at lt_10_d 14 rfl) (kd_at lt_10_d 15 rfl) (kd_at lt_10_d 16 rfl) (kd_at lt_10_d 17 rfl) (kd_at lt_10_d 18 rfl) ?_
  refine lw_push (j := 2) (jj := 2) hG hS1 hl (by omega) rfl (kd_at lt_10_d 19 rfl) (kd_at lt_10_d 20 rfl) (kd_at lt_10_d 21 rfl) (kd_at lt_10_d 22 rfl) (kd_at lt_10_d 23 rfl) ?_
  refine lw_hq C hsa (z := 232) (na := 2) (cp := 68) (a := 61) (As := [.int (xs (i + 1)), .int (xs (i + 2))]) (d := 24) (restM := []) pz_232 lk_m10 ll_m10 rfl he1 (Nat.le_of_ble_eq_true rfl) (by decide) rfl (lm_10 hI1 (xs (i + 1)) (xs (i + 2))) (fun r w' q => by rw [q.1.1.1, hI1.1.1]) hP1 hD1 hS1 hl.1 (by decide) (by decide) (by show cu ≤ 601024; omega) (by show su ≤ 7293034; omega) (by decide) (kd_at lt_10_d 24 rfl) ?_
  rintro r2 w2 H2 locs2 ⟨hI2, v2, rfl⟩ hP2 hD2 hS2 hz2 hk2
  have hH2 := lw_oq hG hH1 hI2 hP2 hD2 hS2 hz2 hk2
  refine lv_pop hx hb (kd_at lt_10_d 25 rfl) rfl ?_
  refine lv_goto (tgt := 1505) hx hb (kd_at lt_10_d 26 rfl) rfl ?_
  exact W.widen (by omega) (by omega) (kend H2 locs2 w2 ls hH2 hl)
def lt_11 : List (Nat × Instr × Nat) := [(598, .aload_n 1, 1), (599, .aload_n 0, 1), (600, .iload 4, 2), (602, .iconst 1, 1), (603, .iadd, 1), (604, .iaload, 1), (605, .invokevirtual 69, 3), (608, .pop, 1), (609, .aload_n 2, 1), (610, .aload_n 0, 1), (611, .iload 4, 2), (613, .iconst 1, 1), (614, .iadd, 1), (615, .iaload, 1), (616, .invokevirtual 72, 3), (619, .pop, 1), (620, .goto 885, 3)]
set_option maxRecDepth 100000 in
theorem lt_11_d : (lt_11.all fun q => decide (decode code q.1 = .ok (q.2.1, q.2.2))) = true := by decide +kernel
theorem ll_x11 : Cond.methodLink "ReadBoundLaw" 69 mn_121 ∈ lw_tbl := List.mem_of_getElem? (i := 798) (by decide +kernel)
theorem ll_m11 : Cond.methodLink "ReadBoundLaw" 72 mn_233 ∈ lw_tbl := List.mem_of_getElem? (i := 1608) (by decide +kernel)
set_option maxRecDepth 100000 in
theorem lc_case11 {p : Program} {l : Launch} {e : Env} {s : State} {m : MethodId} {below : List Frame} {meth : Method} {c : Code} {Q : State → Prop} {D : va_G} {cA : Nat → ClassId} {sa sv : Nat} {ad : Nat → Nat} {b N oq : Nat} {xs : Nat → Int32} {cu su : Nat} {H : Heap} {locs : List Loc} {ls : Array Slot} {w : pi_W} {i : Nat} (hG : lw_G p s m c meth D cA sa sv ad b N oq xs) (hH : lw_H s D cA ad oq w H locs) (hl : lv_has ls 7 (lw_L ad b oq i)) (hi : i + 6 ≤ N) (hcu : cu + 6 ≤ 601024) (hsu : su + 36 ≤ 7293034) (kend : ∀ (H1 : Heap) (locs1 : List Loc) (w1 : pi_W) (ls1 : Array Slot), lw_H s D cA ad oq w1 H1 locs1 → lv_has ls1 7 (lw_L ad b oq i) → W p l e room_1 s m #[Value.ref b] below meth c H1 locs1 (cu + 6) (su + 36) Q (F0 m 1505 ls1 [])) : W p l e room_1 s m #[Value.ref b] below meth c H locs cu su Q (F0 m 598 ls []) := by
  obtain ⟨hI, hP, hD, hS, ho1, ho2, hof⟩ := id hH
  have C := hG.1
  have hsa := hG.2.1
  have hx := C.1
  have hb := C.2.1
  obtain ⟨e0, he0, fs0, rfl, -, -⟩ := hI.1.at (a := 0) (c := .inr (10, _)) rfl
  refine lv_aload_n hx hb (kd_at lt_11_d 0 rfl) rfl (lv_at hl 1 rfl) ?_
  refine lw_push (j := 1) (jj := 1) hG hS hl (by omega) rfl (kd_at lt_11_d 1 rfl) (kd_at lt_11_d 2 rfl) (kd_at lt_11_d 3 rfl) (kd_at lt_11_d 4 rfl) (kd_at lt_11_d 5 rfl) ?_
  refine lw_hq C hsa (z := 121) (na := 1) (cp := 69) (a := 0) (As := [.int (xs (i + 1))]) (d := 24) (restM := []) pz_121 lk_x11 ll_x11 rfl he0 (Nat.le_of_ble_eq_true rfl) (by decide) rfl (lx_11 hI (xs (i + 1))) (fun r w' q => by rw [q.1.1.1, hI.1.1]) hP hD hS hl.1 (by decide) (by decide) (by show cu ≤ 601024; omega) (by show su ≤ 7293034; omega) (by decide) (kd_at lt_11_d 6 rfl) ?_
  rintro r1 w1 H1 locs1 ⟨hI1, v1, rfl⟩ hP1 hD1 hS1 hz1 hk1
  have hH1 := lw_oq hG hH hI1 hP1 hD1 hS1 hz1 hk1
  obtain ⟨e1, he1, fs1, rfl, -, -⟩ := hI1.1.at (a := 61) (c := .inr (11, _)) rfl
  refine lv_pop hx hb (kd_at lt_11_d 7 rfl) rfl ?_
  refine lv_aload_n hx hb (kd_at lt_11_d 8 rfl) rfl (lv_at hl 2 rfl) ?_
  refine lw_push (j := 1) (jj := 1) hG hS1 hl (by omega) rfl (kd_at lt_11_d 9 rfl) (kd_at lt_11_d 10 rfl) (kd_at lt_11_d 11 rfl) (kd_at lt_11_d 12 rfl) (kd_at lt_11_d 13 rfl) ?_
  refine lw_hq C hsa (z := 233) (na := 1) (cp := 72) (a := 61) (As := [.int (xs (i + 1))]) (d := 24) (restM := []) pz_233 lk_m11 ll_m11 rfl he1 (Nat.le_of_ble_eq_true rfl) (by decide) rfl (lm_11 hI1 (xs (i + 1))) (fun r w' q => by rw [q.1.1.1, hI1.1.1]) hP1 hD1 hS1 hl.1 (by decide) (by decide) (by show cu ≤ 601024; omega) (by show su ≤ 7293034; omega) (by decide) (kd_at lt_11_d 14 rfl) ?_
  rintro r2 w2 H2 locs2 ⟨hI2, v2, rfl⟩ hP2 hD2 hS2 hz2 hk2
  have hH2 := lw_oq hG hH1 hI2 hP2 hD2 hS2 hz2 hk2
  refine lv_pop hx hb (kd_at lt_11_d 15 rfl) rfl ?_
  refine lv_goto (tgt := 1505) hx hb (kd_at lt_11_d 16 rfl) rfl ?_
  exact W.widen (by omega) (by omega) (kend H2 locs2 w2 ls hH2 hl)
def lt_12 : List (Nat × Instr × Nat) := [(623, .aload_n 1, 1), (624, .aload_n 0, 1), (625, .iload 4, 2), (627, .iconst 1, 1), (628, .iadd, 1), (629, .iaload, 1), (630, .aload_n 0, 1), (631, .iload 4, 2), (633, .iconst 2, 1), (634, .iadd, 1), (635, .iaload, 1), (636, .invokevirtual 73, 3), (639, .pop, 1), (640, .aload_n 2, 1), (641, .aload_n 0, 1), (642, .iload 4, 2), (644, .iconst 1, 1), (645, .iadd, 1), (646, .iaload, 1), (647, .aload_n 0, 1), (648, .iload 4, 2), (650, .iconst 2, 1), (651, .iadd, 1), (652, .iaload, 1), (653, .invokevirtual 76, 3), (656, .pop, 1), (657, .goto 848, 3)]
set_option maxRecDepth 100000 in
theorem lt_12_d : (lt_12.all fun q => decide (decode code q.1 = .ok (q.2.1, q.2.2))) = true := by decide +kernel
theorem ll_x12 : Cond.methodLink "ReadBoundLaw" 73 mn_122 ∈ lw_tbl := List.mem_of_getElem? (i := 802) (by decide +kernel)
theorem ll_m12 : Cond.methodLink "ReadBoundLaw" 76 mn_234 ∈ lw_tbl := List.mem_of_getElem? (i := 1624) (by decide +kernel)
set_option maxRecDepth 100000 in
theorem lc_case12 {p : Program} {l : Launch} {e : Env} {s : State} {m : MethodId} {below : List Frame} {meth : Method} {c : Code} {Q : State → Prop} {D : va_G} {cA : Nat → ClassId} {sa sv : Nat} {ad : Nat → Nat} {b N oq : Nat} {xs : Nat → Int32} {cu su : Nat} {H : Heap} {locs : List Loc} {ls : Array Slot} {w : pi_W} {i : Nat} (hG : lw_G p s m c meth D cA sa sv ad b N oq xs) (hH : lw_H s D cA ad oq w H locs) (hl : lv_has ls 7 (lw_L ad b oq i)) (hi : i + 6 ≤ N) (hcu : cu + 6 ≤ 601024) (hsu : su + 36 ≤ 7293034) (kend : ∀ (H1 : Heap) (locs1 : List Loc) (w1 : pi_W) (ls1 : Array Slot), lw_H s D cA ad oq w1 H1 locs1 → lv_has ls1 7 (lw_L ad b oq i) → W p l e room_1 s m #[Value.ref b] below meth c H1 locs1 (cu + 6) (su + 36) Q (F0 m 1505 ls1 [])) : W p l e room_1 s m #[Value.ref b] below meth c H locs cu su Q (F0 m 623 ls []) := by
  obtain ⟨hI, hP, hD, hS, ho1, ho2, hof⟩ := id hH
  have C := hG.1
  have hsa := hG.2.1
  have hx := C.1
  have hb := C.2.1
  obtain ⟨e0, he0, fs0, rfl, -, -⟩ := hI.1.at (a := 0) (c := .inr (10, _)) rfl
  refine lv_aload_n hx hb (kd_at lt_12_d 0 rfl) rfl (lv_at hl 1 rfl) ?_
  refine lw_push (j := 1) (jj := 1) hG hS hl (by omega) rfl (kd_at lt_12_d 1 rfl) (kd_at lt_12_d 2 rfl) (kd_at lt_12_d 3 rfl) (kd_at lt_12_d 4 rfl) (kd_at lt_12_d 5 rfl) ?_
  refine lw_push (j := 2) (jj := 2) hG hS hl (by omega) rfl (kd_at lt_12_d 6 rfl) (kd_at lt_12_d 7 rfl) (kd_at lt_12_d 8 rfl) (kd_at lt_12_d 9 rfl) (kd_at lt_12_d 10 rfl) ?_
  refine lw_hq C hsa (z := 122) (na := 2) (cp := 73) (a := 0) (As := [.int (xs (i + 1)), .int (xs (i + 2))]) (d := 24) (restM := []) pz_122 lk_x12 ll_x12 rfl he0 (Nat.le_of_ble_eq_true rfl) (by decide) rfl (lx_12 hI (xs (i + 1)) (xs (i + 2))) (fun r w' q => by rw [q.1.1.1, hI.1.1]) hP hD hS hl.1 (by decide) (by decide) (by show cu ≤ 601024; omega) (by show su ≤ 7293034; omega) (by decide) (kd_at lt_12_d 11 rfl) ?_
  rintro r1 w1 H1 locs1 ⟨hI1, v1, rfl⟩ hP1 hD1 hS1 hz1 hk1
  have hH1 := lw_oq hG hH hI1 hP1 hD1 hS1 hz1 hk1
  obtain ⟨e1, he1, fs1, rfl, -, -⟩ := hI1.1.at (a := 61) (c := .inr (11, _)) rfl
  refine lv_pop hx hb (kd_at lt_12_d 12 rfl) rfl ?_
  refine lv_aload_n hx hb (kd_at lt_12_d 13 rfl) rfl (lv_at hl 2 rfl) ?_
  refine lw_push (j := 1) (jj := 1) hG hS1 hl (by omega) rfl (kd_at lt_12_d 14 rfl) (kd_at lt_12_d 15 rfl) (kd_at lt_12_d 16 rfl) (kd_at lt_12_d 17 rfl) (kd_at lt_12_d 18 rfl) ?_
  refine lw_push (j := 2) (jj := 2) hG hS1 hl (by omega) rfl (kd_at lt_12_d 19 rfl) (kd_at lt_12_d 20 rfl) (kd_at lt_12_d 21 rfl) (kd_at lt_12_d 22 rfl) (kd_at lt_12_d 23 rfl) ?_
  refine lw_hq C hsa (z := 234) (na := 2) (cp := 76) (a := 61) (As := [.int (xs (i + 1)), .int (xs (i + 2))]) (d := 24) (restM := []) pz_234 lk_m12 ll_m12 rfl he1 (Nat.le_of_ble_eq_true rfl) (by decide) rfl (lm_12 hI1 (xs (i + 1)) (xs (i + 2))) (fun r w' q => by rw [q.1.1.1, hI1.1.1]) hP1 hD1 hS1 hl.1 (by decide) (by decide) (by show cu ≤ 601024; omega) (by show su ≤ 7293034; omega) (by decide) (kd_at lt_12_d 24 rfl) ?_
  rintro r2 w2 H2 locs2 ⟨hI2, v2, rfl⟩ hP2 hD2 hS2 hz2 hk2
  have hH2 := lw_oq hG hH1 hI2 hP2 hD2 hS2 hz2 hk2
  refine lv_pop hx hb (kd_at lt_12_d 25 rfl) rfl ?_
  refine lv_goto (tgt := 1505) hx hb (kd_at lt_12_d 26 rfl) rfl ?_
  exact W.widen (by omega) (by omega) (kend H2 locs2 w2 ls hH2 hl)
def lt_13 : List (Nat × Instr × Nat) := [(660, .aload_n 1, 1), (661, .aload_n 0, 1), (662, .iload 4, 2), (664, .iconst 1, 1), (665, .iadd, 1), (666, .iaload, 1), (667, .invokevirtual 77, 3), (670, .pop, 1), (671, .aload_n 2, 1), (672, .aload_n 0, 1), (673, .iload 4, 2), (675, .iconst 1, 1), (676, .iadd, 1), (677, .iaload, 1), (678, .invokevirtual 80, 3), (681, .pop, 1), (682, .goto 823, 3)]
set_option maxRecDepth 100000 in
theorem lt_13_d : (lt_13.all fun q => decide (decode code q.1 = .ok (q.2.1, q.2.2))) = true := by decide +kernel
theorem ll_x13 : Cond.methodLink "ReadBoundLaw" 77 mn_123 ∈ lw_tbl := List.mem_of_getElem? (i := 806) (by decide +kernel)
theorem ll_m13 : Cond.methodLink "ReadBoundLaw" 80 mn_235 ∈ lw_tbl := List.mem_of_getElem? (i := 1636) (by decide +kernel)
set_option maxRecDepth 100000 in
theorem lc_case13 {p : Program} {l : Launch} {e : Env} {s : State} {m : MethodId} {below : List Frame} {meth : Method} {c : Code} {Q : State → Prop} {D : va_G} {cA : Nat → ClassId} {sa sv : Nat} {ad : Nat → Nat} {b N oq : Nat} {xs : Nat → Int32} {cu su : Nat} {H : Heap} {locs : List Loc} {ls : Array Slot} {w : pi_W} {i : Nat} (hG : lw_G p s m c meth D cA sa sv ad b N oq xs) (hH : lw_H s D cA ad oq w H locs) (hl : lv_has ls 7 (lw_L ad b oq i)) (hi : i + 6 ≤ N) (hcu : cu + 6 ≤ 601024) (hsu : su + 36 ≤ 7293034) (kend : ∀ (H1 : Heap) (locs1 : List Loc) (w1 : pi_W) (ls1 : Array Slot), lw_H s D cA ad oq w1 H1 locs1 → lv_has ls1 7 (lw_L ad b oq i) → W p l e room_1 s m #[Value.ref b] below meth c H1 locs1 (cu + 6) (su + 36) Q (F0 m 1505 ls1 [])) : W p l e room_1 s m #[Value.ref b] below meth c H locs cu su Q (F0 m 660 ls []) := by
  obtain ⟨hI, hP, hD, hS, ho1, ho2, hof⟩ := id hH
  have C := hG.1
  have hsa := hG.2.1
  have hx := C.1
  have hb := C.2.1
  obtain ⟨e0, he0, fs0, rfl, -, -⟩ := hI.1.at (a := 0) (c := .inr (10, _)) rfl
  refine lv_aload_n hx hb (kd_at lt_13_d 0 rfl) rfl (lv_at hl 1 rfl) ?_
  refine lw_push (j := 1) (jj := 1) hG hS hl (by omega) rfl (kd_at lt_13_d 1 rfl) (kd_at lt_13_d 2 rfl) (kd_at lt_13_d 3 rfl) (kd_at lt_13_d 4 rfl) (kd_at lt_13_d 5 rfl) ?_
  refine lw_hq C hsa (z := 123) (na := 1) (cp := 77) (a := 0) (As := [.int (xs (i + 1))]) (d := 24) (restM := []) pz_123 lk_x13 ll_x13 rfl he0 (Nat.le_of_ble_eq_true rfl) (by decide) rfl (lx_13 hI (xs (i + 1))) (fun r w' q => by rw [q.1.1.1, hI.1.1]) hP hD hS hl.1 (by decide) (by decide) (by show cu ≤ 601024; omega) (by show su ≤ 7293034; omega) (by decide) (kd_at lt_13_d 6 rfl) ?_
  rintro r1 w1 H1 locs1 ⟨hI1, v1, rfl⟩ hP1 hD1 hS1 hz1 hk1
  have hH1 := lw_oq hG hH hI1 hP1 hD1 hS1 hz1 hk1
  obtain ⟨e1, he1, fs1, rfl, -, -⟩ := hI1.1.at (a := 61) (c := .inr (11, _)) rfl
  refine lv_pop hx hb (kd_at lt_13_d 7 rfl) rfl ?_
  refine lv_aload_n hx hb (kd_at lt_13_d 8 rfl) rfl (lv_at hl 2 rfl) ?_
  refine lw_push (j := 1) (jj := 1) hG hS1 hl (by omega) rfl (kd_at lt_13_d 9 rfl) (kd_at lt_13_d 10 rfl) (kd_at lt_13_d 11 rfl) (kd_at lt_13_d 12 rfl) (kd_at lt_13_d 13 rfl) ?_
  refine lw_hq C hsa (z := 235) (na := 1) (cp := 80) (a := 61) (As := [.int (xs (i + 1))]) (d := 24) (restM := []) pz_235 lk_m13 ll_m13 rfl he1 (Nat.le_of_ble_eq_true rfl) (by decide) rfl (lm_13 hI1 (xs (i + 1))) (fun r w' q => by rw [q.1.1.1, hI1.1.1]) hP1 hD1 hS1 hl.1 (by decide) (by decide) (by show cu ≤ 601024; omega) (by show su ≤ 7293034; omega) (by decide) (kd_at lt_13_d 14 rfl) ?_
  rintro r2 w2 H2 locs2 ⟨hI2, v2, rfl⟩ hP2 hD2 hS2 hz2 hk2
  have hH2 := lw_oq hG hH1 hI2 hP2 hD2 hS2 hz2 hk2
  refine lv_pop hx hb (kd_at lt_13_d 15 rfl) rfl ?_
  refine lv_goto (tgt := 1505) hx hb (kd_at lt_13_d 16 rfl) rfl ?_
  exact W.widen (by omega) (by omega) (kend H2 locs2 w2 ls hH2 hl)
def lt_14 : List (Nat × Instr × Nat) := [(685, .aload_n 1, 1), (686, .aload_n 0, 1), (687, .iload 4, 2), (689, .iconst 1, 1), (690, .iadd, 1), (691, .iaload, 1), (692, .invokevirtual 81, 3), (695, .pop, 1), (696, .aload_n 2, 1), (697, .aload_n 0, 1), (698, .iload 4, 2), (700, .iconst 1, 1), (701, .iadd, 1), (702, .iaload, 1), (703, .invokevirtual 84, 3), (706, .pop, 1), (707, .goto 798, 3)]
set_option maxRecDepth 100000 in
theorem lt_14_d : (lt_14.all fun q => decide (decode code q.1 = .ok (q.2.1, q.2.2))) = true := by decide +kernel
theorem ll_x14 : Cond.methodLink "ReadBoundLaw" 81 mn_124 ∈ lw_tbl := List.mem_of_getElem? (i := 810) (by decide +kernel)
theorem ll_m14 : Cond.methodLink "ReadBoundLaw" 84 mn_236 ∈ lw_tbl := List.mem_of_getElem? (i := 1648) (by decide +kernel)
set_option maxRecDepth 100000 in
theorem lc_case14 {p : Program} {l : Launch} {e : Env} {s : State} {m : MethodId} {below : List Frame} {meth : Method} {c : Code} {Q : State → Prop} {D : va_G} {cA : Nat → ClassId} {sa sv : Nat} {ad : Nat → Nat} {b N oq : Nat} {xs : Nat → Int32} {cu su : Nat} {H : Heap} {locs : List Loc} {ls : Array Slot} {w : pi_W} {i : Nat} (hG : lw_G p s m c meth D cA sa sv ad b N oq xs) (hH : lw_H s D cA ad oq w H locs) (hl : lv_has ls 7 (lw_L ad b oq i)) (hi : i + 6 ≤ N) (hcu : cu + 6 ≤ 601024) (hsu : su + 36 ≤ 7293034) (kend : ∀ (H1 : Heap) (locs1 : List Loc) (w1 : pi_W) (ls1 : Array Slot), lw_H s D cA ad oq w1 H1 locs1 → lv_has ls1 7 (lw_L ad b oq i) → W p l e room_1 s m #[Value.ref b] below meth c H1 locs1 (cu + 6) (su + 36) Q (F0 m 1505 ls1 [])) : W p l e room_1 s m #[Value.ref b] below meth c H locs cu su Q (F0 m 685 ls []) := by
  obtain ⟨hI, hP, hD, hS, ho1, ho2, hof⟩ := id hH
  have C := hG.1
  have hsa := hG.2.1
  have hx := C.1
  have hb := C.2.1
  obtain ⟨e0, he0, fs0, rfl, -, -⟩ := hI.1.at (a := 0) (c := .inr (10, _)) rfl
  refine lv_aload_n hx hb (kd_at lt_14_d 0 rfl) rfl (lv_at hl 1 rfl) ?_
  refine lw_push (j := 1) (jj := 1) hG hS hl (by omega) rfl (kd_at lt_14_d 1 rfl) (kd_at lt_14_d 2 rfl) (kd_at lt_14_d 3 rfl) (kd_at lt_14_d 4 rfl) (kd_at lt_14_d 5 rfl) ?_
  refine lw_hq C hsa (z := 124) (na := 1) (cp := 81) (a := 0) (As := [.int (xs (i + 1))]) (d := 24) (restM := []) pz_124 lk_x14 ll_x14 rfl he0 (Nat.le_of_ble_eq_true rfl) (by decide) rfl (lx_14 hI (xs (i + 1))) (fun r w' q => by rw [q.1.1.1, hI.1.1]) hP hD hS hl.1 (by decide) (by decide) (by show cu ≤ 601024; omega) (by show su ≤ 7293034; omega) (by decide) (kd_at lt_14_d 6 rfl) ?_
  rintro r1 w1 H1 locs1 ⟨hI1, v1, rfl⟩ hP1 hD1 hS1 hz1 hk1
  have hH1 := lw_oq hG hH hI1 hP1 hD1 hS1 hz1 hk1
  obtain ⟨e1, he1, fs1, rfl, -, -⟩ := hI1.1.at (a := 61) (c := .inr (11, _)) rfl
  refine lv_pop hx hb (kd_at lt_14_d 7 rfl) rfl ?_
  refine lv_aload_n hx hb (kd_at lt_14_d 8 rfl) rfl (lv_at hl 2 rfl) ?_
  refine lw_push (j := 1) (jj := 1) hG hS1 hl (by omega) rfl (kd_at lt_14_d 9 rfl) (kd_at lt_14_d 10 rfl) (kd_at lt_14_d 11 rfl) (kd_at lt_14_d 12 rfl) (kd_at lt_14_d 13 rfl) ?_
  refine lw_hq C hsa (z := 236) (na := 1) (cp := 84) (a := 61) (As := [.int (xs (i + 1))]) (d := 24) (restM := []) pz_236 lk_m14 ll_m14 rfl he1 (Nat.le_of_ble_eq_true rfl) (by decide) rfl (lm_14 hI1 (xs (i + 1))) (fun r w' q => by rw [q.1.1.1, hI1.1.1]) hP1 hD1 hS1 hl.1 (by decide) (by decide) (by show cu ≤ 601024; omega) (by show su ≤ 7293034; omega) (by decide) (kd_at lt_14_d 14 rfl) ?_
  rintro r2 w2 H2 locs2 ⟨hI2, v2, rfl⟩ hP2 hD2 hS2 hz2 hk2
  have hH2 := lw_oq hG hH1 hI2 hP2 hD2 hS2 hz2 hk2
  refine lv_pop hx hb (kd_at lt_14_d 15 rfl) rfl ?_
  refine lv_goto (tgt := 1505) hx hb (kd_at lt_14_d 16 rfl) rfl ?_
  exact W.widen (by omega) (by omega) (kend H2 locs2 w2 ls hH2 hl)
def lt_15 : List (Nat × Instr × Nat) := [(710, .aload_n 1, 1), (711, .invokevirtual 85, 3), (714, .pop, 1), (715, .aload_n 2, 1), (716, .invokevirtual 88, 3), (719, .pop, 1), (720, .goto 785, 3)]
set_option maxRecDepth 100000 in
theorem lt_15_d : (lt_15.all fun q => decide (decode code q.1 = .ok (q.2.1, q.2.2))) = true := by decide +kernel
theorem ll_x15 : Cond.methodLink "ReadBoundLaw" 85 mn_125 ∈ lw_tbl := List.mem_of_getElem? (i := 826) (by decide +kernel)
theorem ll_m15 : Cond.methodLink "ReadBoundLaw" 88 mn_238 ∈ lw_tbl := List.mem_of_getElem? (i := 1664) (by decide +kernel)
set_option maxRecDepth 100000 in
theorem lc_case15 {p : Program} {l : Launch} {e : Env} {s : State} {m : MethodId} {below : List Frame} {meth : Method} {c : Code} {Q : State → Prop} {D : va_G} {cA : Nat → ClassId} {sa sv : Nat} {ad : Nat → Nat} {b N oq : Nat} {xs : Nat → Int32} {cu su : Nat} {H : Heap} {locs : List Loc} {ls : Array Slot} {w : pi_W} {i : Nat} (hG : lw_G p s m c meth D cA sa sv ad b N oq xs) (hH : lw_H s D cA ad oq w H locs) (hl : lv_has ls 7 (lw_L ad b oq i)) (hi : i + 6 ≤ N) (hcu : cu + 6 ≤ 601024) (hsu : su + 36 ≤ 7293034) (kend : ∀ (H1 : Heap) (locs1 : List Loc) (w1 : pi_W) (ls1 : Array Slot), lw_H s D cA ad oq w1 H1 locs1 → lv_has ls1 7 (lw_L ad b oq i) → W p l e room_1 s m #[Value.ref b] below meth c H1 locs1 (cu + 6) (su + 36) Q (F0 m 1505 ls1 [])) : W p l e room_1 s m #[Value.ref b] below meth c H locs cu su Q (F0 m 710 ls []) := by
  obtain ⟨hI, hP, hD, hS, ho1, ho2, hof⟩ := id hH
  have C := hG.1
  have hsa := hG.2.1
  have hx := C.1
  have hb := C.2.1
  obtain ⟨e0, he0, fs0, rfl, -, -⟩ := hI.1.at (a := 0) (c := .inr (10, _)) rfl
  refine lv_aload_n hx hb (kd_at lt_15_d 0 rfl) rfl (lv_at hl 1 rfl) ?_
  refine lw_hq C hsa (z := 125) (na := 0) (cp := 85) (a := 0) (As := []) (d := 24) (restM := []) pz_125 lk_x15 ll_x15 rfl he0 (Nat.le_of_ble_eq_true rfl) (by decide) rfl (lx_15 hI) (fun r w' q => by rw [q.1.1.1, hI.1.1]) hP hD hS hl.1 (by decide) (by decide) (by show cu ≤ 601024; omega) (by show su ≤ 7293034; omega) (by decide) (kd_at lt_15_d 1 rfl) ?_
  rintro r1 w1 H1 locs1 ⟨hI1, v1, rfl⟩ hP1 hD1 hS1 hz1 hk1
  have hH1 := lw_oq hG hH hI1 hP1 hD1 hS1 hz1 hk1
  obtain ⟨e1, he1, fs1, rfl, -, -⟩ := hI1.1.at (a := 61) (c := .inr (11, _)) rfl
  refine lv_pop hx hb (kd_at lt_15_d 2 rfl) rfl ?_
  refine lv_aload_n hx hb (kd_at lt_15_d 3 rfl) rfl (lv_at hl 2 rfl) ?_
  refine lw_hq C hsa (z := 238) (na := 0) (cp := 88) (a := 61) (As := []) (d := 24) (restM := []) pz_238 lk_m15 ll_m15 rfl he1 (Nat.le_of_ble_eq_true rfl) (by decide) rfl (lm_15 hI1) (fun r w' q => by rw [q.1.1.1, hI1.1.1]) hP1 hD1 hS1 hl.1 (by decide) (by decide) (by show cu ≤ 601024; omega) (by show su ≤ 7293034; omega) (by decide) (kd_at lt_15_d 4 rfl) ?_
  rintro r2 w2 H2 locs2 ⟨hI2, v2, rfl⟩ hP2 hD2 hS2 hz2 hk2
  have hH2 := lw_oq hG hH1 hI2 hP2 hD2 hS2 hz2 hk2
  refine lv_pop hx hb (kd_at lt_15_d 5 rfl) rfl ?_
  refine lv_goto (tgt := 1505) hx hb (kd_at lt_15_d 6 rfl) rfl ?_
  exact W.widen (by omega) (by omega) (kend H2 locs2 w2 ls hH2 hl)
def lt_16 : List (Nat × Instr × Nat) := [(723, .aload_n 1, 1), (724, .aload_n 0, 1), (725, .iload 4, 2), (727, .iconst 1, 1), (728, .iadd, 1), (729, .iaload, 1), (730, .aload_n 0, 1), (731, .iload 4, 2), (733, .iconst 2, 1), (734, .iadd, 1), (735, .iaload, 1), (736, .invokevirtual 89, 3), (739, .pop, 1), (740, .aload_n 2, 1), (741, .aload_n 0, 1), (742, .iload 4, 2), (744, .iconst 1, 1), (745, .iadd, 1), (746, .iaload, 1), (747, .aload_n 0, 1), (748, .iload 4, 2), (750, .iconst 2, 1), (751, .iadd, 1), (752, .iaload, 1), (753, .invokevirtual 92, 3), (756, .pop, 1), (757, .goto 748, 3)]
set_option maxRecDepth 100000 in
theorem lt_16_d : (lt_16.all fun q => decide (decode code q.1 = .ok (q.2.1, q.2.2))) = true := by decide +kernel
theorem ll_x16 : Cond.methodLink "ReadBoundLaw" 89 mn_126 ∈ lw_tbl := List.mem_of_getElem? (i := 834) (by decide +kernel)
theorem ll_m16 : Cond.methodLink "ReadBoundLaw" 92 mn_241 ∈ lw_tbl := List.mem_of_getElem? (i := 1668) (by decide +kernel)
set_option maxRecDepth 100000 in
theorem lc_case16 {p : Program} {l : Launch} {e : Env} {s : State} {m : MethodId} {below : List Frame} {meth : Method} {c : Code} {Q : State → Prop} {D : va_G} {cA : Nat → ClassId} {sa sv : Nat} {ad : Nat → Nat} {b N oq : Nat} {xs : Nat → Int32} {cu su : Nat} {H : Heap} {locs : List Loc} {ls : Array Slot} {w : pi_W} {i : Nat} (hG : lw_G p s m c meth D cA sa sv ad b N oq xs) (hH : lw_H s D cA ad oq w H locs) (hl : lv_has ls 7 (lw_L ad b oq i)) (hi : i + 6 ≤ N) (hcu : cu + 6 ≤ 601024) (hsu : su + 36 ≤ 7293034) (kend : ∀ (H1 : Heap) (locs1 : List Loc) (w1 : pi_W) (ls1 : Array Slot), lw_H s D cA ad oq w1 H1 locs1 → lv_has ls1 7 (lw_L ad b oq i) → W p l e room_1 s m #[Value.ref b] below meth c H1 locs1 (cu + 6) (su + 36) Q (F0 m 1505 ls1 [])) : W p l e room_1 s m #[Value.ref b] below meth c H locs cu su Q (F0 m 723 ls []) := by
  obtain ⟨hI, hP, hD, hS, ho1, ho2, hof⟩ := id hH
  have C := hG.1
  have hsa := hG.2.1
  have hx := C.1
  have hb := C.2.1
  obtain ⟨e0, he0, fs0, rfl, -, -⟩ := hI.1.at (a := 0) (c := .inr (10, _)) rfl
  refine lv_aload_n hx hb (kd_at lt_16_d 0 rfl) rfl (lv_at hl 1 rfl) ?_
  refine lw_push (j := 1) (jj := 1) hG hS hl (by omega) rfl (kd_at lt_16_d 1 rfl) (kd_at lt_16_d 2 rfl) (kd_at lt_16_d 3 rfl) (kd_at lt_16_d 4 rfl) (kd_at lt_16_d 5 rfl) ?_
  refine lw_push (j := 2) (jj := 2) hG hS hl (by omega) rfl (kd_at lt_16_d 6 rfl) (kd_at lt_16_d 7 rfl) (kd_at lt_16_d 8 rfl) (kd_at lt_16_d 9 rfl) (kd_at lt_16_d 10 rfl) ?_
  refine lw_hq C hsa (z := 126) (na := 2) (cp := 89) (a := 0) (As := [.int (xs (i + 1)), .int (xs (i + 2))]) (d := 24) (restM := []) pz_126 lk_x16 ll_x16 rfl he0 (Nat.le_of_ble_eq_true rfl) (by decide) rfl (lx_16 hI (xs (i + 1)) (xs (i + 2))) (fun r w' q => by rw [q.1.1.1, hI.1.1]) hP hD hS hl.1 (by decide) (by decide) (by show cu ≤ 601024; omega) (by show su ≤ 7293034; omega) (by decide) (kd_at lt_16_d 11 rfl) ?_
  rintro r1 w1 H1 locs1 ⟨hI1, v1, rfl⟩ hP1 hD1 hS1 hz1 hk1
  have hH1 := lw_oq hG hH hI1 hP1 hD1 hS1 hz1 hk1
  obtain ⟨e1, he1, fs1, rfl, -, -⟩ := hI1.1.at (a := 61) (c := .inr (11, _)) rfl
  refine lv_pop hx hb (kd_at lt_16_d 12 rfl) rfl ?_
  refine lv_aload_n hx hb (kd_at lt_16_d 13 rfl) rfl (lv_at hl 2 rfl) ?_
  refine lw_push (j := 1) (jj := 1) hG hS1 hl (by omega) rfl (kd_at lt_16_d 14 rfl) (kd_at lt_16_d 15 rfl) (kd_at lt_16_d 16 rfl) (kd_at lt_16_d 17 rfl) (kd_at lt_16_d 18 rfl) ?_
  refine lw_push (j := 2) (jj := 2) hG hS1 hl (by omega) rfl (kd_at lt_16_d 19 rfl) (kd_at lt_16_d 20 rfl) (kd_at lt_16_d 21 rfl) (kd_at lt_16_d 22 rfl) (kd_at lt_16_d 23 rfl) ?_
  refine lw_hq C hsa (z := 241) (na := 2) (cp := 92) (a := 61) (As := [.int (xs (i + 1)), .int (xs (i + 2))]) (d := 24) (restM := []) pz_241 lk_m16 ll_m16 rfl he1 (Nat.le_of_ble_eq_true rfl) (by decide) rfl (lm_16 hI1 (xs (i + 1)) (xs (i + 2))) (fun r w' q => by rw [q.1.1.1, hI1.1.1]) hP1 hD1 hS1 hl.1 (by decide) (by decide) (by show cu ≤ 601024; omega) (by show su ≤ 7293034; omega) (by decide) (kd_at lt_16_d 24 rfl) ?_
  rintro r2 w2 H2 locs2 ⟨hI2, v2, rfl⟩ hP2 hD2 hS2 hz2 hk2
  have hH2 := lw_oq hG hH1 hI2 hP2 hD2 hS2 hz2 hk2
  refine lv_pop hx hb (kd_at lt_16_d 25 rfl) rfl ?_
  refine lv_goto (tgt := 1505) hx hb (kd_at lt_16_d 26 rfl) rfl ?_
  exact W.widen (by omega) (by omega) (kend H2 locs2 w2 ls hH2 hl)
def lt_17 : List (Nat × Instr × Nat) := [(760, .aload_n 1, 1), (761, .aload_n 0, 1), (762, .iload 4, 2), (764, .iconst 1, 1), (765, .iadd, 1), (766, .iaload, 1), (767, .aload_n 0, 1), (768, .iload 4, 2), (770, .iconst 2, 1), (771, .iadd, 1), (772, .iaload, 1), (773, .invokevirtual 93, 3), (776, .pop, 1), (777, .aload_n 2, 1), (778, .aload_n 0, 1), (779, .iload 4, 2), (781, .iconst 1, 1), (782, .iadd, 1), (783, .iaload, 1), (784, .aload_n 0, 1), (785, .iload 4, 2), (787, .iconst 2, 1), (788, .iadd, 1), (789, .iaload, 1), (790, .invokevirtual 96, 3), (793, .pop, 1), (794, .goto 711, 3)]
set_option maxRecDepth 100000 in
theorem lt_17_d : (lt_17.all fun q => decide (decode code q.1 = .ok (q.2.1, q.2.2))) = true := by decide +kernel
theorem ll_x17 : Cond.methodLink "ReadBoundLaw" 93 mn_127 ∈ lw_tbl := List.mem_of_getElem? (i := 843) (by decide +kernel)
theorem ll_m17 : Cond.methodLink "ReadBoundLaw" 96 mn_242 ∈ lw_tbl := List.mem_of_getElem? (i := 1672) (by decide +kernel)
set_option maxRecDepth 100000 in
theorem lc_case17 {p : Program} {l : Launch} {e : Env} {s : State} {m : MethodId} {below : List Frame} {meth : Method} {c : Code} {Q : State → Prop} {D : va_G} {cA : Nat → ClassId} {sa sv : Nat} {ad : Nat → Nat} {b N oq : Nat} {xs : Nat → Int32} {cu su : Nat} {H : Heap} {locs : List Loc} {ls : Array Slot} {w : pi_W} {i : Nat} (hG : lw_G p s m c meth D cA sa sv ad b N oq xs) (hH : lw_H s D cA ad oq w H locs) (hl : lv_has ls 7 (lw_L ad b oq i)) (hi : i + 6 ≤ N) (hcu : cu + 6 ≤ 601024) (hsu : su + 36 ≤ 7293034) (kend : ∀ (H1 : Heap) (locs1 : List Loc) (w1 : pi_W) (ls1 : Array Slot), lw_H s D cA ad oq w1 H1 locs1 → lv_has ls1 7 (lw_L ad b oq i) → W p l e room_1 s m #[Value.ref b] below meth c H1 locs1 (cu + 6) (su + 36) Q (F0 m 1505 ls1 [])) : W p l e room_1 s m #[Value.ref b] below meth c H locs cu su Q (F0 m 760 ls []) := by
  obtain ⟨hI, hP, hD, hS, ho1, ho2, hof⟩ := id hH
  have C := hG.1
  have hsa := hG.2.1
  have hx := C.1
  have hb := C.2.1
  obtain ⟨e0, he0, fs0, rfl, -, -⟩ := hI.1.at (a := 0) (c := .inr (10, _)) rfl
  refine lv_aload_n hx hb (kd_at lt_17_d 0 rfl) rfl (lv_at hl 1 rfl) ?_
  refine lw_push (j := 1) (jj := 1) hG hS hl (by omega) rfl (kd_at lt_17_d 1 rfl) (kd_at lt_17_d 2 rfl) (kd_at lt_17_d 3 rfl) (kd_at lt_17_d 4 rfl) (kd_at lt_17_d 5 rfl) ?_
  refine lw_push (j := 2) (jj := 2) hG hS hl (by omega) rfl (kd_at lt_17_d 6 rfl) (kd_at lt_17_d 7 rfl) (kd_at lt_17_d 8 rfl) (kd_at lt_17_d 9 rfl) (kd_at lt_17_d 10 rfl) ?_
  refine lw_hq C hsa (z := 127) (na := 2) (cp := 93) (a := 0) (As := [.int (xs (i + 1)), .int (xs (i + 2))]) (d := 24) (restM := []) pz_127 lk_x17 ll_x17 rfl he0 (Nat.le_of_ble_eq_true rfl) (by decide) rfl (lx_17 hI (xs (i + 1)) (xs (i + 2))) (fun r w' q => by rw [q.1.1.1, hI.1.1]) hP hD hS hl.1 (by decide) (by decide) (by show cu ≤ 601024; omega) (by show su ≤ 7293034; omega) (by decide) (kd_at lt_17_d 11 rfl) ?_
  rintro r1 w1 H1 locs1 ⟨hI1, v1, rfl⟩ hP1 hD1 hS1 hz1 hk1
  have hH1 := lw_oq hG hH hI1 hP1 hD1 hS1 hz1 hk1
  obtain ⟨e1, he1, fs1, rfl, -, -⟩ := hI1.1.at (a := 61) (c := .inr (11, _)) rfl
  refine lv_pop hx hb (kd_at lt_17_d 12 rfl) rfl ?_
  refine lv_aload_n hx hb (kd_at lt_17_d 13 rfl) rfl (lv_at hl 2 rfl) ?_
  refine lw_push (j := 1) (jj := 1) hG hS1 hl (by omega) rfl (kd_at lt_17_d 14 rfl) (kd_at lt_17_d 15 rfl) (kd_at lt_17_d 16 rfl) (kd_at lt_17_d 17 rfl) (kd_at lt_17_d 18 rfl) ?_
  refine lw_push (j := 2) (jj := 2) hG hS1 hl (by omega) rfl (kd_at lt_17_d 19 rfl) (kd_at lt_17_d 20 rfl) (kd_at lt_17_d 21 rfl) (kd_at lt_17_d 22 rfl) (kd_at lt_17_d 23 rfl) ?_
  refine lw_hq C hsa (z := 242) (na := 2) (cp := 96) (a := 61) (As := [.int (xs (i + 1)), .int (xs (i + 2))]) (d := 24) (restM := []) pz_242 lk_m17 ll_m17 rfl he1 (Nat.le_of_ble_eq_true rfl) (by decide) rfl (lm_17 hI1 (xs (i + 1)) (xs (i + 2))) (fun r w' q => by rw [q.1.1.1, hI1.1.1]) hP1 hD1 hS1 hl.1 (by decide) (by decide) (by show cu ≤ 601024; omega) (by show su ≤ 7293034; omega) (by decide) (kd_at lt_17_d 24 rfl) ?_
  rintro r2 w2 H2 locs2 ⟨hI2, v2, rfl⟩ hP2 hD2 hS2 hz2 hk2
  have hH2 := lw_oq hG hH1 hI2 hP2 hD2 hS2 hz2 hk2
  refine lv_pop hx hb (kd_at lt_17_d 25 rfl) rfl ?_
  refine lv_goto (tgt := 1505) hx hb (kd_at lt_17_d 26 rfl) rfl ?_
  exact W.widen (by omega) (by omega) (kend H2 locs2 w2 ls hH2 hl)
def lt_18 : List (Nat × Instr × Nat) := [(797, .aload_n 1, 1), (798, .aload_n 0, 1), (799, .iload 4, 2), (801, .iconst 1, 1), (802, .iadd, 1), (803, .iaload, 1), (804, .invokevirtual 97, 3), (807, .pop, 1), (808, .aload_n 2, 1), (809, .aload_n 0, 1), (810, .iload 4, 2), (812, .iconst 1, 1), (813, .iadd, 1), (814, .iaload, 1), (815, .invokevirtual 100, 3), (818, .pop, 1), (819, .goto 686, 3)]
set_option maxRecDepth 100000 in
theorem lt_18_d : (lt_18.all fun q => decide (decode code q.1 = .ok (q.2.1, q.2.2))) = true := by decide +kernel
theorem ll_x18 : Cond.methodLink "ReadBoundLaw" 97 mn_128 ∈ lw_tbl := List.mem_of_getElem? (i := 848) (by decide +kernel)
theorem ll_m18 : Cond.methodLink "ReadBoundLaw" 100 mn_243 ∈ lw_tbl := List.mem_of_getElem? (i := 1676) (by decide +kernel)
set_option maxRecDepth 100000 in
theorem lc_case18 {p : Program} {l : Launch} {e : Env} {s : State} {m : MethodId} {below : List Frame} {meth : Method} {c : Code} {Q : State → Prop} {D : va_G} {cA : Nat → ClassId} {sa sv : Nat} {ad : Nat → Nat} {b N oq : Nat} {xs : Nat → Int32} {cu su : Nat} {H : Heap} {locs : List Loc} {ls : Array Slot} {w : pi_W} {i : Nat} (hG : lw_G p s m c meth D cA sa sv ad b N oq xs) (hH : lw_H s D cA ad oq w H locs) (hl : lv_has ls 7 (lw_L ad b oq i)) (hi : i + 6 ≤ N) (hcu : cu + 6 ≤ 601024) (hsu : su + 36 ≤ 7293034) (kend : ∀ (H1 : Heap) (locs1 : List Loc) (w1 : pi_W) (ls1 : Array Slot), lw_H s D cA ad oq w1 H1 locs1 → lv_has ls1 7 (lw_L ad b oq i) → W p l e room_1 s m #[Value.ref b] below meth c H1 locs1 (cu + 6) (su + 36) Q (F0 m 1505 ls1 [])) : W p l e room_1 s m #[Value.ref b] below meth c H locs cu su Q (F0 m 797 ls []) := by
  obtain ⟨hI, hP, hD, hS, ho1, ho2, hof⟩ := id hH
  have C := hG.1
  have hsa := hG.2.1
  have hx := C.1
  have hb := C.2.1
  obtain ⟨e0, he0, fs0, rfl, -, -⟩ := hI.1.at (a := 0) (c := .inr (10, _)) rfl
  refine lv_aload_n hx hb (kd_at lt_18_d 0 rfl) rfl (lv_at hl 1 rfl) ?_
  refine lw_push (j := 1) (jj := 1) hG hS hl (by omega) rfl (kd_at lt_18_d 1 rfl) (kd_at lt_18_d 2 rfl) (kd_at lt_18_d 3 rfl) (kd_at lt_18_d 4 rfl) (kd_at lt_18_d 5 rfl) ?_
  refine lw_hq C hsa (z := 128) (na := 1) (cp := 97) (a := 0) (As := [.int (xs (i + 1))]) (d := 24) (restM := []) pz_128 lk_x18 ll_x18 rfl he0 (Nat.le_of_ble_eq_true rfl) (by decide) rfl (lx_18 hI (xs (i + 1))) (fun r w' q => by rw [q.1.1.1, hI.1.1]) hP hD hS hl.1 (by decide) (by decide) (by show cu ≤ 601024; omega) (by show su ≤ 7293034; omega) (by decide) (kd_at lt_18_d 6 rfl) ?_
  rintro r1 w1 H1 locs1 ⟨hI1, v1, rfl⟩ hP1 hD1 hS1 hz1 hk1
  have hH1 := lw_oq hG hH hI1 hP1 hD1 hS1 hz1 hk1
  obtain ⟨e1, he1, fs1, rfl, -, -⟩ := hI1.1.at (a := 61) (c := .inr (11, _)) rfl
  refine lv_pop hx hb (kd_at lt_18_d 7 rfl) rfl ?_
  refine lv_aload_n hx hb (kd_at lt_18_d 8 rfl) rfl (lv_at hl 2 rfl) ?_
  refine lw_push (j := 1) (jj := 1) hG hS1 hl (by omega) rfl (kd_at lt_18_d 9 rfl) (kd_at lt_18_d 10 rfl) (kd_at lt_18_d 11 rfl) (kd_at lt_18_d 12 rfl) (kd_at lt_18_d 13 rfl) ?_
  refine lw_hq C hsa (z := 243) (na := 1) (cp := 100) (a := 61) (As := [.int (xs (i + 1))]) (d := 24) (restM := []) pz_243 lk_m18 ll_m18 rfl he1 (Nat.le_of_ble_eq_true rfl) (by decide) rfl (lm_18 hI1 (xs (i + 1))) (fun r w' q => by rw [q.1.1.1, hI1.1.1]) hP1 hD1 hS1 hl.1 (by decide) (by decide) (by show cu ≤ 601024; omega) (by show su ≤ 7293034; omega) (by decide) (kd_at lt_18_d 14 rfl) ?_
  rintro r2 w2 H2 locs2 ⟨hI2, v2, rfl⟩ hP2 hD2 hS2 hz2 hk2
  have hH2 := lw_oq hG hH1 hI2 hP2 hD2 hS2 hz2 hk2
  refine lv_pop hx hb (kd_at lt_18_d 15 rfl) rfl ?_
  refine lv_goto (tgt := 1505) hx hb (kd_at lt_18_d 16 rfl) rfl ?_
  exact W.widen (by omega) (by omega) (kend H2 locs2 w2 ls hH2 hl)
def lt_19 : List (Nat × Instr × Nat) := [(822, .aload_n 1, 1), (823, .aload_n 0, 1), (824, .iload 4, 2), (826, .iconst 1, 1), (827, .iadd, 1), (828, .iaload, 1), (829, .invokevirtual 101, 3), (832, .pop, 1), (833, .aload_n 2, 1), (834, .aload_n 0, 1), (835, .iload 4, 2), (837, .iconst 1, 1), (838, .iadd, 1), (839, .iaload, 1), (840, .invokevirtual 104, 3), (843, .pop, 1), (844, .goto 661, 3)]
set_option maxRecDepth 100000 in
theorem lt_19_d : (lt_19.all fun q => decide (decode code q.1 = .ok (q.2.1, q.2.2))) = true := by decide +kernel
theorem ll_x19 : Cond.methodLink "ReadBoundLaw" 101 mn_129 ∈ lw_tbl := List.mem_of_getElem? (i := 853) (by decide +kernel)
theorem ll_m19 : Cond.methodLink "ReadBoundLaw" 104 mn_244 ∈ lw_tbl := List.mem_of_getElem? (i := 1680) (by decide +kernel)
set_option maxRecDepth 100000 in
theorem lc_case19 {p : Program} {l : Launch} {e : Env} {s : State} {m : MethodId} {below : List Frame} {meth : Method} {c : Code} {Q : State → Prop} {D : va_G} {cA : Nat → ClassId} {sa sv : Nat} {ad : Nat → Nat} {b N oq : Nat} {xs : Nat → Int32} {cu su : Nat} {H : Heap} {locs : List Loc} {ls : Array Slot} {w : pi_W} {i : Nat} (hG : lw_G p s m c meth D cA sa sv ad b N oq xs) (hH : lw_H s D cA ad oq w H locs) (hl : lv_has ls 7 (lw_L ad b oq i)) (hi : i + 6 ≤ N) (hcu : cu + 6 ≤ 601024) (hsu : su + 36 ≤ 7293034) (kend : ∀ (H1 : Heap) (locs1 : List Loc) (w1 : pi_W) (ls1 : Array Slot), lw_H s D cA ad oq w1 H1 locs1 → lv_has ls1 7 (lw_L ad b oq i) → W p l e room_1 s m #[Value.ref b] below meth c H1 locs1 (cu + 6) (su + 36) Q (F0 m 1505 ls1 [])) : W p l e room_1 s m #[Value.ref b] below meth c H locs cu su Q (F0 m 822 ls []) := by
  obtain ⟨hI, hP, hD, hS, ho1, ho2, hof⟩ := id hH
  have C := hG.1
  have hsa := hG.2.1
  have hx := C.1
  have hb := C.2.1
  obtain ⟨e0, he0, fs0, rfl, -, -⟩ := hI.1.at (a := 0) (c := .inr (10, _)) rfl
  refine lv_aload_n hx hb (kd_at lt_19_d 0 rfl) rfl (lv_at hl 1 rfl) ?_
  refine lw_push (j := 1) (jj := 1) hG hS hl (by omega) rfl (kd_at lt_19_d 1 rfl) (kd_at lt_19_d 2 rfl) (kd_at lt_19_d 3 rfl) (kd_at lt_19_d 4 rfl) (kd_at lt_19_d 5 rfl) ?_
  refine lw_hq C hsa (z := 129) (na := 1) (cp := 101) (a := 0) (As := [.int (xs (i + 1))]) (d := 24) (restM := []) pz_129 lk_x19 ll_x19 rfl he0 (Nat.le_of_ble_eq_true rfl) (by decide) rfl (lx_19 hI (xs (i + 1))) (fun r w' q => by rw [q.1.1.1, hI.1.1]) hP hD hS hl.1 (by decide) (by decide) (by show cu ≤ 601024; omega) (by show su ≤ 7293034; omega) (by decide) (kd_at lt_19_d 6 rfl) ?_
  rintro r1 w1 H1 locs1 ⟨hI1, v1, rfl⟩ hP1 hD1 hS1 hz1 hk1
  have hH1 := lw_oq hG hH hI1 hP1 hD1 hS1 hz1 hk1
  obtain ⟨e1, he1, fs1, rfl, -, -⟩ := hI1.1.at (a := 61) (c := .inr (11, _)) rfl
  refine lv_pop hx hb (kd_at lt_19_d 7 rfl) rfl ?_
  refine lv_aload_n hx hb (kd_at lt_19_d 8 rfl) rfl (lv_at hl 2 rfl) ?_
  refine lw_push (j := 1) (jj := 1) hG hS1 hl (by omega) rfl (kd_at lt_19_d 9 rfl) (kd_at lt_19_d 10 rfl) (kd_at lt_19_d 11 rfl) (kd_at lt_19_d 12 rfl) (kd_at lt_19_d 13 rfl) ?_
  refine lw_hq C hsa (z := 244) (na := 1) (cp := 104) (a := 61) (As := [.int (xs (i + 1))]) (d := 24) (restM := []) pz_244 lk_m19 ll_m19 rfl he1 (Nat.le_of_ble_eq_true rfl) (by decide) rfl (lm_19 hI1 (xs (i + 1))) (fun r w' q => by rw [q.1.1.1, hI1.1.1]) hP1 hD1 hS1 hl.1 (by decide) (by decide) (by show cu ≤ 601024; omega) (by show su ≤ 7293034; omega) (by decide) (kd_at lt_19_d 14 rfl) ?_
  rintro r2 w2 H2 locs2 ⟨hI2, v2, rfl⟩ hP2 hD2 hS2 hz2 hk2
  have hH2 := lw_oq hG hH1 hI2 hP2 hD2 hS2 hz2 hk2
  refine lv_pop hx hb (kd_at lt_19_d 15 rfl) rfl ?_
  refine lv_goto (tgt := 1505) hx hb (kd_at lt_19_d 16 rfl) rfl ?_
  exact W.widen (by omega) (by omega) (kend H2 locs2 w2 ls hH2 hl)
def lt_20 : List (Nat × Instr × Nat) := [(847, .aload_n 1, 1), (848, .aload_n 0, 1), (849, .iload 4, 2), (851, .iconst 1, 1), (852, .iadd, 1), (853, .iaload, 1), (854, .invokevirtual 105, 3), (857, .pop, 1), (858, .aload_n 2, 1), (859, .aload_n 0, 1), (860, .iload 4, 2), (862, .iconst 1, 1), (863, .iadd, 1), (864, .iaload, 1), (865, .invokevirtual 108, 3), (868, .pop, 1), (869, .goto 636, 3)]
set_option maxRecDepth 100000 in
theorem lt_20_d : (lt_20.all fun q => decide (decode code q.1 = .ok (q.2.1, q.2.2))) = true := by decide +kernel
theorem ll_x20 : Cond.methodLink "ReadBoundLaw" 105 mn_130 ∈ lw_tbl := List.mem_of_getElem? (i := 858) (by decide +kernel)
theorem ll_m20 : Cond.methodLink "ReadBoundLaw" 108 mn_245 ∈ lw_tbl := List.mem_of_getElem? (i := 1684) (by decide +kernel)
set_option maxRecDepth 100000 in
theorem lc_case20 {p : Program} {l : Launch} {e : Env} {s : State} {m : MethodId} {below : List Frame} {meth : Method} {c : Code} {Q : State → Prop} {D : va_G} {cA : Nat → ClassId} {sa sv : Nat} {ad : Nat → Nat} {b N oq : Nat} {xs : Nat → Int32} {cu su : Nat} {H : Heap} {locs : List Loc} {ls : Array Slot} {w : pi_W} {i : Nat} (hG : lw_G p s m c meth D cA sa sv ad b N oq xs) (hH : lw_H s D cA ad oq w H locs) (hl : lv_has ls 7 (lw_L ad b oq i)) (hi : i + 6 ≤ N) (hcu : cu + 6 ≤ 601024) (hsu : su + 36 ≤ 7293034) (kend : ∀ (H1 : Heap) (locs1 : List Loc) (w1 : pi_W) (ls1 : Array Slot), lw_H s D cA ad oq w1 H1 locs1 → lv_has ls1 7 (lw_L ad b oq i) → W p l e room_1 s m #[Value.ref b] below meth c H1 locs1 (cu + 6) (su + 36) Q (F0 m 1505 ls1 [])) : W p l e room_1 s m #[Value.ref b] below meth c H locs cu su Q (F0 m 847 ls []) := by
  obtain ⟨hI, hP, hD, hS, ho1, ho2, hof⟩ := id hH
  have C := hG.1
  have hsa := hG.2.1
  have hx := C.1
  have hb := C.2.1
  obtain ⟨e0, he0, fs0, rfl, -, -⟩ := hI.1.at (a := 0) (c := .inr (10, _)) rfl
  refine lv_aload_n hx hb (kd_at lt_20_d 0 rfl) rfl (lv_at hl 1 rfl) ?_
  refine lw_push (j := 1) (jj := 1) hG hS hl (by omega) rfl (kd_at lt_20_d 1 rfl) (kd_at lt_20_d 2 rfl) (kd_at lt_20_d 3 rfl) (kd_at lt_20_d 4 rfl) (kd_at lt_20_d 5 rfl) ?_
  refine lw_hq C hsa (z := 130) (na := 1) (cp := 105) (a := 0) (As := [.int (xs (i + 1))]) (d := 24) (restM := []) pz_130 lk_x20 ll_x20 rfl he0 (Nat.le_of_ble_eq_true rfl) (by decide) rfl (lx_20 hI (xs (i + 1))) (fun r w' q => by rw [q.1.1.1, hI.1.1]) hP hD hS hl.1 (by decide) (by decide) (by show cu ≤ 601024; omega) (by show su ≤ 7293034; omega) (by decide) (kd_at lt_20_d 6 rfl) ?_
  rintro r1 w1 H1 locs1 ⟨hI1, v1, rfl⟩ hP1 hD1 hS1 hz1 hk1
  have hH1 := lw_oq hG hH hI1 hP1 hD1 hS1 hz1 hk1
  obtain ⟨e1, he1, fs1, rfl, -, -⟩ := hI1.1.at (a := 61) (c := .inr (11, _)) rfl
  refine lv_pop hx hb (kd_at lt_20_d 7 rfl) rfl ?_
  refine lv_aload_n hx hb (kd_at lt_20_d 8 rfl) rfl (lv_at hl 2 rfl) ?_
  refine lw_push (j := 1) (jj := 1) hG hS1 hl (by omega) rfl (kd_at lt_20_d 9 rfl) (kd_at lt_20_d 10 rfl) (kd_at lt_20_d 11 rfl) (kd_at lt_20_d 12 rfl) (kd_at lt_20_d 13 rfl) ?_
  refine lw_hq C hsa (z := 245) (na := 1) (cp := 108) (a := 61) (As := [.int (xs (i + 1))]) (d := 24) (restM := []) pz_245 lk_m20 ll_m20 rfl he1 (Nat.le_of_ble_eq_true rfl) (by decide) rfl (lm_20 hI1 (xs (i + 1))) (fun r w' q => by rw [q.1.1.1, hI1.1.1]) hP1 hD1 hS1 hl.1 (by decide) (by decide) (by show cu ≤ 601024; omega) (by show su ≤ 7293034; omega) (by decide) (kd_at lt_20_d 14 rfl) ?_
  rintro r2 w2 H2 locs2 ⟨hI2, v2, rfl⟩ hP2 hD2 hS2 hz2 hk2
  have hH2 := lw_oq hG hH1 hI2 hP2 hD2 hS2 hz2 hk2
  refine lv_pop hx hb (kd_at lt_20_d 15 rfl) rfl ?_
  refine lv_goto (tgt := 1505) hx hb (kd_at lt_20_d 16 rfl) rfl ?_
  exact W.widen (by omega) (by omega) (kend H2 locs2 w2 ls hH2 hl)
def lt_21 : List (Nat × Instr × Nat) := [(872, .aload_n 1, 1), (873, .aload_n 0, 1), (874, .iload 4, 2), (876, .iconst 1, 1), (877, .iadd, 1), (878, .iaload, 1), (879, .invokevirtual 109, 3), (882, .pop, 1), (883, .aload_n 2, 1), (884, .aload_n 0, 1), (885, .iload 4, 2), (887, .iconst 1, 1), (888, .iadd, 1), (889, .iaload, 1), (890, .invokevirtual 112, 3), (893, .pop, 1), (894, .goto 611, 3)]
set_option maxRecDepth 100000 in
theorem lt_21_d : (lt_21.all fun q => decide (decode code q.1 = .ok (q.2.1, q.2.2))) = true := by decide +kernel
theorem ll_x21 : Cond.methodLink "ReadBoundLaw" 109 mn_131 ∈ lw_tbl := List.mem_of_getElem? (i := 866) (by decide +kernel)
theorem ll_m21 : Cond.methodLink "ReadBoundLaw" 112 mn_246 ∈ lw_tbl := List.mem_of_getElem? (i := 1688) (by decide +kernel)
set_option maxRecDepth 100000 in
theorem lc_case21 {p : Program} {l : Launch} {e : Env} {s : State} {m : MethodId} {below : List Frame} {meth : Method} {c : Code} {Q : State → Prop} {D : va_G} {cA : Nat → ClassId} {sa sv : Nat} {ad : Nat → Nat} {b N oq : Nat} {xs : Nat → Int32} {cu su : Nat} {H : Heap} {locs : List Loc} {ls : Array Slot} {w : pi_W} {i : Nat} (hG : lw_G p s m c meth D cA sa sv ad b N oq xs) (hH : lw_H s D cA ad oq w H locs) (hl : lv_has ls 7 (lw_L ad b oq i)) (hi : i + 6 ≤ N) (hcu : cu + 6 ≤ 601024) (hsu : su + 36 ≤ 7293034) (kend : ∀ (H1 : Heap) (locs1 : List Loc) (w1 : pi_W) (ls1 : Array Slot), lw_H s D cA ad oq w1 H1 locs1 → lv_has ls1 7 (lw_L ad b oq i) → W p l e room_1 s m #[Value.ref b] below meth c H1 locs1 (cu + 6) (su + 36) Q (F0 m 1505 ls1 [])) : W p l e room_1 s m #[Value.ref b] below meth c H locs cu su Q (F0 m 872 ls []) := by
  obtain ⟨hI, hP, hD, hS, ho1, ho2, hof⟩ := id hH
  have C := hG.1
  have hsa := hG.2.1
  have hx := C.1
  have hb := C.2.1
  obtain ⟨e0, he0, fs0, rfl, -, -⟩ := hI.1.at (a := 0) (c := .inr (10, _)) rfl
  refine lv_aload_n hx hb (kd_at lt_21_d 0 rfl) rfl (lv_at hl 1 rfl) ?_
  refine lw_push (j := 1) (jj := 1) hG hS hl (by omega) rfl (kd_at lt_21_d 1 rfl) (kd_at lt_21_d 2 rfl) (kd_at lt_21_d 3 rfl) (kd_at lt_21_d 4 rfl) (kd_at lt_21_d 5 rfl) ?_
  refine lw_hq C hsa (z := 131) (na := 1) (cp := 109) (a := 0) (As := [.int (xs (i + 1))]) (d := 24) (restM := []) pz_131 lk_x21 ll_x21 rfl he0 (Nat.le_of_ble_eq_true rfl) (by decide) rfl (lx_21 hI (xs (i + 1))) (fun r w' q => by rw [q.1.1.1, hI.1.1]) hP hD hS hl.1 (by decide) (by decide) (by show cu ≤ 601024; omega) (by show su ≤ 7293034; omega) (by decide) (kd_at lt_21_d 6 rfl) ?_
  rintro r1 w1 H1 locs1 ⟨hI1, v1, rfl⟩ hP1 hD1 hS1 hz1 hk1
  have hH1 := lw_oq hG hH hI1 hP1 hD1 hS1 hz1 hk1
  obtain ⟨e1, he1, fs1, rfl, -, -⟩ := hI1.1.at (a := 61) (c := .inr (11, _)) rfl
  refine lv_pop hx hb (kd_at lt_21_d 7 rfl) rfl ?_
  refine lv_aload_n hx hb (kd_at lt_21_d 8 rfl) rfl (lv_at hl 2 rfl) ?_
  refine lw_push (j := 1) (jj := 1) hG hS1 hl (by omega) rfl (kd_at lt_21_d 9 rfl) (kd_at lt_21_d 10 rfl) (kd_at lt_21_d 11 rfl) (kd_at lt_21_d 12 rfl) (kd_at lt_21_d 13 rfl) ?_
  refine lw_hq C hsa (z := 246) (na := 1) (cp := 112) (a := 61) (As := [.int (xs (i + 1))]) (d := 24) (restM := []) pz_246 lk_m21 ll_m21 rfl he1 (Nat.le_of_ble_eq_true rfl) (by decide) rfl (lm_21 hI1 (xs (i + 1))) (fun r w' q => by rw [q.1.1.1, hI1.1.1]) hP1 hD1 hS1 hl.1 (by decide) (by decide) (by show cu ≤ 601024; omega) (by show su ≤ 7293034; omega) (by decide) (kd_at lt_21_d 14 rfl) ?_
  rintro r2 w2 H2 locs2 ⟨hI2, v2, rfl⟩ hP2 hD2 hS2 hz2 hk2
  have hH2 := lw_oq hG hH1 hI2 hP2 hD2 hS2 hz2 hk2
  refine lv_pop hx hb (kd_at lt_21_d 15 rfl) rfl ?_
  refine lv_goto (tgt := 1505) hx hb (kd_at lt_21_d 16 rfl) rfl ?_
  exact W.widen (by omega) (by omega) (kend H2 locs2 w2 ls hH2 hl)
def lt_22 : List (Nat × Instr × Nat) := [(897, .aload_n 1, 1), (898, .aload_n 0, 1), (899, .iload 4, 2), (901, .iconst 1, 1), (902, .iadd, 1), (903, .iaload, 1), (904, .aload_n 0, 1), (905, .iload 4, 2), (907, .iconst 2, 1), (908, .iadd, 1), (909, .iaload, 1), (910, .invokevirtual 113, 3), (913, .pop, 1), (914, .aload_n 2, 1), (915, .aload_n 0, 1), (916, .iload 4, 2), (918, .iconst 1, 1), (919, .iadd, 1), (920, .iaload, 1), (921, .aload_n 0, 1), (922, .iload 4, 2), (924, .iconst 2, 1), (925, .iadd, 1), (926, .iaload, 1), (927, .invokevirtual 116, 3), (930, .pop, 1), (931, .goto 574, 3)]
set_option maxRecDepth 100000 in
theorem lt_22_d : (lt_22.all fun q => decide (decode code q.1 = .ok (q.2.1, q.2.2))) = true := by decide +kernel
theorem ll_x22 : Cond.methodLink "ReadBoundLaw" 113 mn_132 ∈ lw_tbl := List.mem_of_getElem? (i := 874) (by decide +kernel)
theorem ll_m22 : Cond.methodLink "ReadBoundLaw" 116 mn_247 ∈ lw_tbl := List.mem_of_getElem? (i := 1692) (by decide +kernel)
set_option maxRecDepth 100000 in
theorem lc_case22 {p : Program} {l : Launch} {e : Env} {s : State} {m : MethodId} {below : List Frame} {meth : Method} {c : Code} {Q : State → Prop} {D : va_G} {cA : Nat → ClassId} {sa sv : Nat} {ad : Nat → Nat} {b N oq : Nat} {xs : Nat → Int32} {cu su : Nat} {H : Heap} {locs : List Loc} {ls : Array Slot} {w : pi_W} {i : Nat} (hG : lw_G p s m c meth D cA sa sv ad b N oq xs) (hH : lw_H s D cA ad oq w H locs) (hl : lv_has ls 7 (lw_L ad b oq i)) (hi : i + 6 ≤ N) (hcu : cu + 6 ≤ 601024) (hsu : su + 36 ≤ 7293034) (kend : ∀ (H1 : Heap) (locs1 : List Loc) (w1 : pi_W) (ls1 : Array Slot), lw_H s D cA ad oq w1 H1 locs1 → lv_has ls1 7 (lw_L ad b oq i) → W p l e room_1 s m #[Value.ref b] below meth c H1 locs1 (cu + 6) (su + 36) Q (F0 m 1505 ls1 [])) : W p l e room_1 s m #[Value.ref b] below meth c H locs cu su Q (F0 m 897 ls []) := by
  obtain ⟨hI, hP, hD, hS, ho1, ho2, hof⟩ := id hH
  have C := hG.1
  have hsa := hG.2.1
  have hx := C.1
  have hb := C.2.1
  obtain ⟨e0, he0, fs0, rfl, -, -⟩ := hI.1.at (a := 0) (c := .inr (10, _)) rfl
  refine lv_aload_n hx hb (kd_at lt_22_d 0 rfl) rfl (lv_at hl 1 rfl) ?_
  refine lw_push (j := 1) (jj := 1) hG hS hl (by omega) rfl (kd_at lt_22_d 1 rfl) (kd_at lt_22_d 2 rfl) (kd_at lt_22_d 3 rfl) (kd_at lt_22_d 4 rfl) (kd_at lt_22_d 5 rfl) ?_
  refine lw_push (j := 2) (jj := 2) hG hS hl (by omega) rfl (kd_at lt_22_d 6 rfl) (kd_at lt_22_d 7 rfl) (kd_at lt_22_d 8 rfl) (kd_at lt_22_d 9 rfl) (kd_at lt_22_d 10 rfl) ?_
  refine lw_hq C hsa (z := 132) (na := 2) (cp := 113) (a := 0) (As := [.int (xs (i + 1)), .int (xs (i + 2))]) (d := 24) (restM := []) pz_132 lk_x22 ll_x22 rfl he0 (Nat.le_of_ble_eq_true rfl) (by decide) rfl (lx_22 hI (xs (i + 1)) (xs (i + 2))) (fun r w' q => by rw [q.1.1.1, hI.1.1]) hP hD hS hl.1 (by decide) (by decide) (by show cu ≤ 601024; omega) (by show su ≤ 7293034; omega) (by decide) (kd_at lt_22_d 11 rfl) ?_
  rintro r1 w1 H1 locs1 ⟨hI1, v1, rfl⟩ hP1 hD1 hS1 hz1 hk1
  have hH1 := lw_oq hG hH hI1 hP1 hD1 hS1 hz1 hk1
  obtain ⟨e1, he1, fs1, rfl, -, -⟩ := hI1.1.at (a := 61) (c := .inr (11, _)) rfl
  refine lv_pop hx hb (kd_at lt_22_d 12 rfl) rfl ?_
  refine lv_aload_n hx hb (kd_at lt_22_d 13 rfl) rfl (lv_at hl 2 rfl) ?_
  refine lw_push (j := 1) (jj := 1) hG hS1 hl (by omega) rfl (kd_at lt_22_d 14 rfl) (kd_at lt_22_d 15 rfl) (kd_at lt_22_d 16 rfl) (kd_at lt_22_d 17 rfl) (kd_at lt_22_d 18 rfl) ?_
  refine lw_push (j := 2) (jj := 2) hG hS1 hl (by omega) rfl (kd_at lt_22_d 19 rfl) (kd_at lt_22_d 20 rfl) (kd_at lt_22_d 21 rfl) (kd_at lt_22_d 22 rfl) (kd_at lt_22_d 23 rfl) ?_
  refine lw_hq C hsa (z := 247) (na := 2) (cp := 116) (a := 61) (As := [.int (xs (i + 1)), .int (xs (i + 2))]) (d := 24) (restM := []) pz_247 lk_m22 ll_m22 rfl he1 (Nat.le_of_ble_eq_true rfl) (by decide) rfl (lm_22 hI1 (xs (i + 1)) (xs (i + 2))) (fun r w' q => by rw [q.1.1.1, hI1.1.1]) hP1 hD1 hS1 hl.1 (by decide) (by decide) (by show cu ≤ 601024; omega) (by show su ≤ 7293034; omega) (by decide) (kd_at lt_22_d 24 rfl) ?_
  rintro r2 w2 H2 locs2 ⟨hI2, v2, rfl⟩ hP2 hD2 hS2 hz2 hk2
  have hH2 := lw_oq hG hH1 hI2 hP2 hD2 hS2 hz2 hk2
  refine lv_pop hx hb (kd_at lt_22_d 25 rfl) rfl ?_
  refine lv_goto (tgt := 1505) hx hb (kd_at lt_22_d 26 rfl) rfl ?_
  exact W.widen (by omega) (by omega) (kend H2 locs2 w2 ls hH2 hl)
def lt_23 : List (Nat × Instr × Nat) := [(934, .aload_n 1, 1), (935, .aload_n 0, 1), (936, .iload 4, 2), (938, .iconst 1, 1), (939, .iadd, 1), (940, .iaload, 1), (941, .aload_n 0, 1), (942, .iload 4, 2), (944, .iconst 2, 1), (945, .iadd, 1), (946, .iaload, 1), (947, .aload_n 0, 1), (948, .iload 4, 2), (950, .iconst 3, 1), (951, .iadd, 1), (952, .iaload, 1), (953, .invokevirtual 117, 3), (956, .pop, 1), (957, .aload_n 2, 1), (958, .aload_n 0, 1), (959, .iload 4, 2), (961, .iconst 1, 1), (962, .iadd, 1), (963, .iaload, 1), (964, .aload_n 0, 1), (965, .iload 4, 2), (967, .iconst 2, 1), (968, .iadd, 1), (969, .iaload, 1), (970, .aload_n 0, 1), (971, .iload 4, 2), (973, .iconst 3, 1), (974, .iadd, 1), (975, .iaload, 1), (976, .invokevirtual 121, 3), (979, .pop, 1), (980, .goto 525, 3)]
set_option maxRecDepth 100000 in
theorem lt_23_d : (lt_23.all fun q => decide (decode code q.1 = .ok (q.2.1, q.2.2))) = true := by decide +kernel
theorem ll_x23 : Cond.methodLink "ReadBoundLaw" 117 mn_133 ∈ lw_tbl := List.mem_of_getElem? (i := 882) (by decide +kernel)
theorem ll_m23 : Cond.methodLink "ReadBoundLaw" 121 mn_251 ∈ lw_tbl := List.mem_of_getElem? (i := 1700) (by decide +kernel)
set_option maxRecDepth 100000 in
theorem lc_case23 {p : Program} {l : Launch} {e : Env} {s : State} {m : MethodId} {below : List Frame} {meth : Method} {c : Code} {Q : State → Prop} {D : va_G} {cA : Nat → ClassId} {sa sv : Nat} {ad : Nat → Nat} {b N oq : Nat} {xs : Nat → Int32} {cu su : Nat} {H : Heap} {locs : List Loc} {ls : Array Slot} {w : pi_W} {i : Nat} (hG : lw_G p s m c meth D cA sa sv ad b N oq xs) (hH : lw_H s D cA ad oq w H locs) (hl : lv_has ls 7 (lw_L ad b oq i)) (hi : i + 6 ≤ N) (hcu : cu + 6 ≤ 601024) (hsu : su + 36 ≤ 7293034) (kend : ∀ (H1 : Heap) (locs1 : List Loc) (w1 : pi_W) (ls1 : Array Slot), lw_H s D cA ad oq w1 H1 locs1 → lv_has ls1 7 (lw_L ad b oq i) → W p l e room_1 s m #[Value.ref b] below meth c H1 locs1 (cu + 6) (su + 36) Q (F0 m 1505 ls1 [])) : W p l e room_1 s m #[Value.ref b] below meth c H locs cu su Q (F0 m 934 ls []) := by
  obtain ⟨hI, hP, hD, hS, ho1, ho2, hof⟩ := id hH
  have C := hG.1
  have hsa := hG.2.1
  have hx := C.1
  have hb := C.2.1
  obtain ⟨e0, he0, fs0, rfl, -, -⟩ := hI.1.at (a := 0) (c := .inr (10, _)) rfl
  refine lv_aload_n hx hb (kd_at lt_23_d 0 rfl) rfl (lv_at hl 1 rfl) ?_
  refine lw_push (j := 1) (jj := 1) hG hS hl (by omega) rfl (kd_at lt_23_d 1 rfl) (kd_at lt_23_d 2 rfl) (kd_at lt_23_d 3 rfl) (kd_at lt_23_d 4 rfl) (kd_at lt_23_d 5 rfl) ?_
  refine lw_push (j := 2) (jj := 2) hG hS hl (by omega) rfl (kd_at lt_23_d 6 rfl) (kd_at lt_23_d 7 rfl) (kd_at lt_23_d 8 rfl) (kd_at lt_23_d 9 rfl) (kd_at lt_23_d 10 rfl) ?_
  refine lw_push (j := 3) (jj := 3) hG hS hl (by omega) rfl (kd_at lt_23_d 11 rfl) (kd_at lt_23_d 12 rfl) (kd_at lt_23_d 13 rfl) (kd_at lt_23_d 14 rfl) (kd_at lt_23_d 15 rfl) ?_
  refine lw_hq C hsa (z := 133) (na := 3) (cp := 117) (a := 0) (As := [.int (xs (i + 1)), .int (xs (i + 2)), .int (xs (i + 3))]) (d := 24) (restM := []) pz_133 lk_x23 ll_x23 rfl he0 (Nat.le_of_ble_eq_true rfl) (by decide) rfl (lx_23 hI (xs (i + 1)) (xs (i + 2)) (xs (i + 3))) (fun r w' q => by rw [q.1.1.1, hI.1.1]) hP hD hS hl.1 (by decide) (by decide) (by show cu ≤ 601024; omega) (by show su ≤ 7293034; omega) (by decide) (kd_at lt_23_d 16 rfl) ?_
  rintro r1 w1 H1 locs1 ⟨hI1, v1, rfl⟩ hP1 hD1 hS1 hz1 hk1
  have hH1 := lw_oq hG hH hI1 hP1 hD1 hS1 hz1 hk1
  obtain ⟨e1, he1, fs1, rfl, -, -⟩ := hI1.1.at (a := 61) (c := .inr (11, _)) rfl
  refine lv_pop hx hb (kd_at lt_23_d 17 rfl) rfl ?_
  refine lv_aload_n hx hb (kd_at lt_23_d 18 rfl) rfl (lv_at hl 2 rfl) ?_
  refine lw_push (j := 1) (jj := 1) hG hS1 hl (by omega) rfl (kd_at lt_23_d 19 rfl) (kd_at lt_23_d 20 rfl) (kd_at lt_23_d 21 rfl) (kd_at lt_23_d 22 rfl) (kd_at lt_23_d 23 rfl) ?_
  refine lw_push (j := 2) (jj := 2) hG hS1 hl (by omega) rfl (kd_at lt_23_d 24 rfl) (kd_at lt_23_d 25 rfl) (kd_at lt_23_d 26 rfl) (kd_at lt_23_d 27 rfl) (kd_at lt_23_d 28 rfl) ?_
  refine lw_push (j := 3) (jj := 3) hG hS1 hl (by omega) rfl (kd_at lt_23_d 29 rfl) (kd_at lt_23_d 30 rfl) (kd_at lt_23_d 31 rfl) (kd_at lt_23_d 32 rfl) (kd_at lt_23_d 33 rfl) ?_
  refine lw_hq C hsa (z := 251) (na := 3) (cp := 121) (a := 61) (As := [.int (xs (i + 1)), .int (xs (i + 2)), .int (xs (i + 3))]) (d := 24) (restM := []) pz_251 lk_m23 ll_m23 rfl he1 (Nat.le_of_ble_eq_true rfl) (by decide) rfl (lm_23 hI1 (xs (i + 1)) (xs (i + 2)) (xs (i + 3))) (fun r w' q => by rw [q.1.1.1, hI1.1.1]) hP1 hD1 hS1 hl.1 (by decide) (by decide) (by show cu ≤ 601024; omega) (by show su ≤ 7293034; omega) (by decide) (kd_at lt_23_d 34 rfl) ?_
  rintro r2 w2 H2 locs2 ⟨hI2, v2, rfl⟩ hP2 hD2 hS2 hz2 hk2
  have hH2 := lw_oq hG hH1 hI2 hP2 hD2 hS2 hz2 hk2
  refine lv_pop hx hb (kd_at lt_23_d 35 rfl) rfl ?_
  refine lv_goto (tgt := 1505) hx hb (kd_at lt_23_d 36 rfl) rfl ?_
  exact W.widen (by omega) (by omega) (kend H2 locs2 w2 ls hH2 hl)
def lt_24 : List (Nat × Instr × Nat) := [(983, .aload_n 1, 1), (984, .aload_n 0, 1), (985, .iload 4, 2), (987, .iconst 1, 1), (988, .iadd, 1), (989, .iaload, 1), (990, .invokevirtual 122, 3), (993, .pop, 1), (994, .aload_n 2, 1), (995, .aload_n 0, 1), (996, .iload 4, 2), (998, .iconst 1, 1), (999, .iadd, 1), (1000, .iaload, 1), (1001, .invokevirtual 125, 3), (1004, .pop, 1), (1005, .goto 500, 3)]
set_option maxRecDepth 100000 in
theorem lt_24_d : (lt_24.all fun q => decide (decode code q.1 = .ok (q.2.1, q.2.2))) = true := by decide +kernel
theorem ll_x24 : Cond.methodLink "ReadBoundLaw" 122 mn_134 ∈ lw_tbl := List.mem_of_getElem? (i := 908) (by decide +kernel)
theorem ll_m24 : Cond.methodLink "ReadBoundLaw" 125 mn_252 ∈ lw_tbl := List.mem_of_getElem? (i := 1712) (by decide +kernel)
set_option maxRecDepth 100000 in
theorem lc_case24 {p : Program} {l : Launch} {e : Env} {s : State} {m : MethodId} {below : List Frame} {meth : Method} {c : Code} {Q : State → Prop} {D : va_G} {cA : Nat → ClassId} {sa sv : Nat} {ad : Nat → Nat} {b N oq : Nat} {xs : Nat → Int32} {cu su : Nat} {H : Heap} {locs : List Loc} {ls : Array Slot} {w : pi_W} {i : Nat} (hG : lw_G p s m c meth D cA sa sv ad b N oq xs) (hH : lw_H s D cA ad oq w H locs) (hl : lv_has ls 7 (lw_L ad b oq i)) (hi : i + 6 ≤ N) (hcu : cu + 6 ≤ 601024) (hsu : su + 36 ≤ 7293034) (kend : ∀ (H1 : Heap) (locs1 : List Loc) (w1 : pi_W) (ls1 : Array Slot), lw_H s D cA ad oq w1 H1 locs1 → lv_has ls1 7 (lw_L ad b oq i) → W p l e room_1 s m #[Value.ref b] below meth c H1 locs1 (cu + 6) (su + 36) Q (F0 m 1505 ls1 [])) : W p l e room_1 s m #[Value.ref b] below meth c H locs cu su Q (F0 m 983 ls []) := by
  obtain ⟨hI, hP, hD, hS, ho1, ho2, hof⟩ := id hH
  have C := hG.1
  have hsa := hG.2.1
  have hx := C.1
  have hb := C.2.1
  obtain ⟨e0, he0, fs0, rfl, -, -⟩ := hI.1.at (a := 0) (c := .inr (10, _)) rfl
  refine lv_aload_n hx hb (kd_at lt_24_d 0 rfl) rfl (lv_at hl 1 rfl) ?_
  refine lw_push (j := 1) (jj := 1) hG hS hl (by omega) rfl (kd_at lt_24_d 1 rfl) (kd_at lt_24_d 2 rfl) (kd_at lt_24_d 3 rfl) (kd_at lt_24_d 4 rfl) (kd_at lt_24_d 5 rfl) ?_
  refine lw_hq C hsa (z := 134) (na := 1) (cp := 122) (a := 0) (As := [.int (xs (i + 1))]) (d := 24) (restM := []) pz_134 lk_x24 ll_x24 rfl he0 (Nat.le_of_ble_eq_true rfl) (by decide) rfl (lx_24 hI (xs (i + 1))) (fun r w' q => by rw [q.1.1.1, hI.1.1]) hP hD hS hl.1 (by decide) (by decide) (by show cu ≤ 601024; omega) (by show su ≤ 7293034; omega) (by decide) (kd_at lt_24_d 6 rfl) ?_
  rintro r1 w1 H1 locs1 ⟨hI1, v1, rfl⟩ hP1 hD1 hS1 hz1 hk1
  have hH1 := lw_oq hG hH hI1 hP1 hD1 hS1 hz1 hk1
  obtain ⟨e1, he1, fs1, rfl, -, -⟩ := hI1.1.at (a := 61) (c := .inr (11, _)) rfl
  refine lv_pop hx hb (kd_at lt_24_d 7 rfl) rfl ?_
  refine lv_aload_n hx hb (kd_at lt_24_d 8 rfl) rfl (lv_at hl 2 rfl) ?_
  refine lw_push (j := 1) (jj := 1) hG hS1 hl (by omega) rfl (kd_at lt_24_d 9 rfl) (kd_at lt_24_d 10 rfl) (kd_at lt_24_d 11 rfl) (kd_at lt_24_d 12 rfl) (kd_at lt_24_d 13 rfl) ?_
  refine lw_hq C hsa (z := 252) (na := 1) (cp := 125) (a := 61) (As := [.int (xs (i + 1))]) (d := 24) (restM := []) pz_252 lk_m24 ll_m24 rfl he1 (Nat.le_of_ble_eq_true rfl) (by decide) rfl (lm_24 hI1 (xs (i + 1))) (fun r w' q => by rw [q.1.1.1, hI1.1.1]) hP1 hD1 hS1 hl.1 (by decide) (by decide) (by show cu ≤ 601024; omega) (by show su ≤ 7293034; omega) (by decide) (kd_at lt_24_d 14 rfl) ?_
  rintro r2 w2 H2 locs2 ⟨hI2, v2, rfl⟩ hP2 hD2 hS2 hz2 hk2
  have hH2 := lw_oq hG hH1 hI2 hP2 hD2 hS2 hz2 hk2
  refine lv_pop hx hb (kd_at lt_24_d 15 rfl) rfl ?_
  refine lv_goto (tgt := 1505) hx hb (kd_at lt_24_d 16 rfl) rfl ?_
  exact W.widen (by omega) (by omega) (kend H2 locs2 w2 ls hH2 hl)
def lt_25 : List (Nat × Instr × Nat) := [(1008, .aload_n 1, 1), (1009, .aload_n 0, 1), (1010, .iload 4, 2), (1012, .iconst 1, 1), (1013, .iadd, 1), (1014, .iaload, 1), (1015, .aload_n 0, 1), (1016, .iload 4, 2), (1018, .iconst 2, 1), (1019, .iadd, 1), (1020, .iaload, 1), (1021, .invokevirtual 126, 3), (1024, .pop, 1), (1025, .aload_n 2, 1), (1026, .aload_n 0, 1), (1027, .iload 4, 2), (1029, .iconst 1, 1), (1030, .iadd, 1), (1031, .iaload, 1), (1032, .aload_n 0, 1), (1033, .iload 4, 2), (1035, .iconst 2, 1), (1036, .iadd, 1), (1037, .iaload, 1), (1038, .invokevirtual 129, 3), (1041, .pop, 1), (1042, .goto 463, 3)]
set_option maxRecDepth 100000 in
theorem lt_25_d : (lt_25.all fun q => decide (decode code q.1 = .ok (q.2.1, q.2.2))) = true := by decide +kernel
theorem ll_x25 : Cond.methodLink "ReadBoundLaw" 126 mn_135 ∈ lw_tbl := List.mem_of_getElem? (i := 912) (by decide +kernel)
theorem ll_m25 : Cond.methodLink "ReadBoundLaw" 129 mn_253 ∈ lw_tbl := List.mem_of_getElem? (i := 1716) (by decide +kernel)
set_option maxRecDepth 100000 in
theorem lc_case25 {p : Program} {l : Launch} {e : Env} {s : State} {m : MethodId} {below : List Frame} {meth : Method} {c : Code} {Q : State → Prop} {D : va_G} {cA : Nat → ClassId} {sa sv : Nat} {ad : Nat → Nat} {b N oq : Nat} {xs : Nat → Int32} {cu su : Nat} {H : Heap} {locs : List Loc} {ls : Array Slot} {w : pi_W} {i : Nat} (hG : lw_G p s m c meth D cA sa sv ad b N oq xs) (hH : lw_H s D cA ad oq w H locs) (hl : lv_has ls 7 (lw_L ad b oq i)) (hi : i + 6 ≤ N) (hcu : cu + 6 ≤ 601024) (hsu : su + 36 ≤ 7293034) (kend : ∀ (H1 : Heap) (locs1 : List Loc) (w1 : pi_W) (ls1 : Array Slot), lw_H s D cA ad oq w1 H1 locs1 → lv_has ls1 7 (lw_L ad b oq i) → W p l e room_1 s m #[Value.ref b] below meth c H1 locs1 (cu + 6) (su + 36) Q (F0 m 1505 ls1 [])) : W p l e room_1 s m #[Value.ref b] below meth c H locs cu su Q (F0 m 1008 ls []) := by
  obtain ⟨hI, hP, hD, hS, ho1, ho2, hof⟩ := id hH
  have C := hG.1
  have hsa := hG.2.1
  have hx := C.1
  have hb := C.2.1
  obtain ⟨e0, he0, fs0, rfl, -, -⟩ := hI.1.at (a := 0) (c := .inr (10, _)) rfl
  refine lv_aload_n hx hb (kd_at lt_25_d 0 rfl) rfl (lv_at hl 1 rfl) ?_
  refine lw_push (j := 1) (jj := 1) hG hS hl (by omega) rfl (kd_at lt_25_d 1 rfl) (kd_at lt_25_d 2 rfl) (kd_at lt_25_d 3 rfl) (kd_at lt_25_d 4 rfl) (kd_at lt_25_d 5 rfl) ?_
  refine lw_push (j := 2) (jj := 2) hG hS hl (by omega) rfl (kd_at lt_25_d 6 rfl) (kd_at lt_25_d 7 rfl) (kd_at lt_25_d 8 rfl) (kd_at lt_25_d 9 rfl) (kd_at lt_25_d 10 rfl) ?_
  refine lw_hq C hsa (z := 135) (na := 2) (cp := 126) (a := 0) (As := [.int (xs (i + 1)), .int (xs (i + 2))]) (d := 24) (restM := []) pz_135 lk_x25 ll_x25 rfl he0 (Nat.le_of_ble_eq_true rfl) (by decide) rfl (lx_25 hI (xs (i + 1)) (xs (i + 2))) (fun r w' q => by rw [q.1.1.1, hI.1.1]) hP hD hS hl.1 (by decide) (by decide) (by show cu ≤ 601024; omega) (by show su ≤ 7293034; omega) (by decide) (kd_at lt_25_d 11 rfl) ?_
  rintro r1 w1 H1 locs1 ⟨hI1, v1, rfl⟩ hP1 hD1 hS1 hz1 hk1
  have hH1 := lw_oq hG hH hI1 hP1 hD1 hS1 hz1 hk1
  obtain ⟨e1, he1, fs1, rfl, -, -⟩ := hI1.1.at (a := 61) (c := .inr (11, _)) rfl
  refine lv_pop hx hb (kd_at lt_25_d 12 rfl) rfl ?_
  refine lv_aload_n hx hb (kd_at lt_25_d 13 rfl) rfl (lv_at hl 2 rfl) ?_
  refine lw_push (j := 1) (jj := 1) hG hS1 hl (by omega) rfl (kd_at lt_25_d 14 rfl) (kd_at lt_25_d 15 rfl) (kd_at lt_25_d 16 rfl) (kd_at lt_25_d 17 rfl) (kd_at lt_25_d 18 rfl) ?_
  refine lw_push (j := 2) (jj := 2) hG hS1 hl (by omega) rfl (kd_at lt_25_d 19 rfl) (kd_at lt_25_d 20 rfl) (kd_at lt_25_d 21 rfl) (kd_at lt_25_d 22 rfl) (kd_at lt_25_d 23 rfl) ?_
  refine lw_hq C hsa (z := 253) (na := 2) (cp := 129) (a := 61) (As := [.int (xs (i + 1)), .int (xs (i + 2))]) (d := 24) (restM := []) pz_253 lk_m25 ll_m25 rfl he1 (Nat.le_of_ble_eq_true rfl) (by decide) rfl (lm_25 hI1 (xs (i + 1)) (xs (i + 2))) (fun r w' q => by rw [q.1.1.1, hI1.1.1]) hP1 hD1 hS1 hl.1 (by decide) (by decide) (by show cu ≤ 601024; omega) (by show su ≤ 7293034; omega) (by decide) (kd_at lt_25_d 24 rfl) ?_
  rintro r2 w2 H2 locs2 ⟨hI2, v2, rfl⟩ hP2 hD2 hS2 hz2 hk2
  have hH2 := lw_oq hG hH1 hI2 hP2 hD2 hS2 hz2 hk2
  refine lv_pop hx hb (kd_at lt_25_d 25 rfl) rfl ?_
  refine lv_goto (tgt := 1505) hx hb (kd_at lt_25_d 26 rfl) rfl ?_
  exact W.widen (by omega) (by omega) (kend H2 locs2 w2 ls hH2 hl)
def lt_26 : List (Nat × Instr × Nat) := [(1045, .aload_n 1, 1), (1046, .aload_n 0, 1), (1047, .iload 4, 2), (1049, .iconst 1, 1), (1050, .iadd, 1), (1051, .iaload, 1), (1052, .aload_n 0, 1), (1053, .iload 4, 2), (1055, .iconst 2, 1), (1056, .iadd, 1), (1057, .iaload, 1), (1058, .aload_n 0, 1), (1059, .iload 4, 2), (1061, .iconst 3, 1), (1062, .iadd, 1), (1063, .iaload, 1), (1064, .invokevirtual 130, 3), (1067, .pop, 1), (1068, .aload_n 2, 1), (1069, .aload_n 0, 1), (1070, .iload 4, 2), (1072, .iconst 1, 1), (1073, .iadd, 1), (1074, .iaload, 1), (1075, .aload_n 0, 1), (1076, .iload 4, 2), (1078, .iconst 2, 1), (1079, .iadd, 1), (1080, .iaload, 1), (1081, .aload_n 0, 1), (1082, .iload 4, 2), (1084, .iconst 3, 1), (1085, .iadd, 1), (1086, .iaload, 1), (1087, .invokevirtual 133, 3), (1090, .pop, 1), (1091, .goto 414, 3)]
set_option maxRecDepth 100000 in
theorem lt_26_d : (lt_26.all fun q => decide (decode code q.1 = .ok (q.2.1, q.2.2))) = true := by decide +kernel
theorem ll_x26 : Cond.methodLink "ReadBoundLaw" 130 mn_136 ∈ lw_tbl := List.mem_of_getElem? (i := 917) (by decide +kernel)
theorem ll_m26 : Cond.methodLink "ReadBoundLaw" 133 mn_255 ∈ lw_tbl := List.mem_of_getElem? (i := 1720) (by decide +kernel)
set_option maxRecDepth 100000 in
theorem lc_case26 {p : Program} {l : Launch} {e : Env} {s : State} {m : MethodId} {below : List Frame} {meth : Method} {c : Code} {Q : State → Prop} {D : va_G} {cA : Nat → ClassId} {sa sv : Nat} {ad : Nat → Nat} {b N oq : Nat} {xs : Nat → Int32} {cu su : Nat} {H : Heap} {locs : List Loc} {ls : Array Slot} {w : pi_W} {i : Nat} (hG : lw_G p s m c meth D cA sa sv ad b N oq xs) (hH : lw_H s D cA ad oq w H locs) (hl : lv_has ls 7 (lw_L ad b oq i)) (hi : i + 6 ≤ N) (hcu : cu + 6 ≤ 601024) (hsu : su + 36 ≤ 7293034) (kend : ∀ (H1 : Heap) (locs1 : List Loc) (w1 : pi_W) (ls1 : Array Slot), lw_H s D cA ad oq w1 H1 locs1 → lv_has ls1 7 (lw_L ad b oq i) → W p l e room_1 s m #[Value.ref b] below meth c H1 locs1 (cu + 6) (su + 36) Q (F0 m 1505 ls1 [])) : W p l e room_1 s m #[Value.ref b] below meth c H locs cu su Q (F0 m 1045 ls []) := by
  obtain ⟨hI, hP, hD, hS, ho1, ho2, hof⟩ := id hH
  have C := hG.1
  have hsa := hG.2.1
  have hx := C.1
  have hb := C.2.1
  obtain ⟨e0, he0, fs0, rfl, -, -⟩ := hI.1.at (a := 0) (c := .inr (10, _)) rfl
  refine lv_aload_n hx hb (kd_at lt_26_d 0 rfl) rfl (lv_at hl 1 rfl) ?_
  refine lw_push (j := 1) (jj := 1) hG hS hl (by omega) rfl (kd_at lt_26_d 1 rfl) (kd_at lt_26_d 2 rfl) (kd_at lt_26_d 3 rfl) (kd_at lt_26_d 4 rfl) (kd_at lt_26_d 5 rfl) ?_
  refine lw_push (j := 2) (jj := 2) hG hS hl (by omega) rfl (kd_at lt_26_d 6 rfl) (kd_at lt_26_d 7 rfl) (kd_at lt_26_d 8 rfl) (kd_at lt_26_d 9 rfl) (kd_at lt_26_d 10 rfl) ?_
  refine lw_push (j := 3) (jj := 3) hG hS hl (by omega) rfl (kd_at lt_26_d 11 rfl) (kd_at lt_26_d 12 rfl) (kd_at lt_26_d 13 rfl) (kd_at lt_26_d 14 rfl) (kd_at lt_26_d 15 rfl) ?_
  refine lw_hq C hsa (z := 136) (na := 3) (cp := 130) (a := 0) (As := [.int (xs (i + 1)), .int (xs (i + 2)), .int (xs (i + 3))]) (d := 24) (restM := []) pz_136 lk_x26 ll_x26 rfl he0 (Nat.le_of_ble_eq_true rfl) (by decide) rfl (lx_26 hI (xs (i + 1)) (xs (i + 2)) (xs (i + 3))) (fun r w' q => by rw [q.1.1.1, hI.1.1]) hP hD hS hl.1 (by decide) (by decide) (by show cu ≤ 601024; omega) (by show su ≤ 7293034; omega) (by decide) (kd_at lt_26_d 16 rfl) ?_
  rintro r1 w1 H1 locs1 ⟨hI1, v1, rfl⟩ hP1 hD1 hS1 hz1 hk1
  have hH1 := lw_oq hG hH hI1 hP1 hD1 hS1 hz1 hk1
  obtain ⟨e1, he1, fs1, rfl, -, -⟩ := hI1.1.at (a := 61) (c := .inr (11, _)) rfl
  refine lv_pop hx hb (kd_at lt_26_d 17 rfl) rfl ?_
  refine lv_aload_n hx hb (kd_at lt_26_d 18 rfl) rfl (lv_at hl 2 rfl) ?_
  refine lw_push (j := 1) (jj := 1) hG hS1 hl (by omega) rfl (kd_at lt_26_d 19 rfl) (kd_at lt_26_d 20 rfl) (kd_at lt_26_d 21 rfl) (kd_at lt_26_d 22 rfl) (kd_at lt_26_d 23 rfl) ?_
  refine lw_push (j := 2) (jj := 2) hG hS1 hl (by omega) rfl (kd_at lt_26_d 24 rfl) (kd_at lt_26_d 25 rfl) (kd_at lt_26_d 26 rfl) (kd_at lt_26_d 27 rfl) (kd_at lt_26_d 28 rfl) ?_
  refine lw_push (j := 3) (jj := 3) hG hS1 hl (by omega) rfl (kd_at lt_26_d 29 rfl) (kd_at lt_26_d 30 rfl) (kd_at lt_26_d 31 rfl) (kd_at lt_26_d 32 rfl) (kd_at lt_26_d 33 rfl) ?_
  refine lw_hq C hsa (z := 255) (na := 3) (cp := 133) (a := 61) (As := [.int (xs (i + 1)), .int (xs (i + 2)), .int (xs (i + 3))]) (d := 24) (restM := []) pz_255 lk_m26 ll_m26 rfl he1 (Nat.le_of_ble_eq_true rfl) (by decide) rfl (lm_26 hI1 (xs (i + 1)) (xs (i + 2)) (xs (i + 3))) (fun r w' q => by rw [q.1.1.1, hI1.1.1]) hP1 hD1 hS1 hl.1 (by decide) (by decide) (by show cu ≤ 601024; omega) (by show su ≤ 7293034; omega) (by decide) (kd_at lt_26_d 34 rfl) ?_
  rintro r2 w2 H2 locs2 ⟨hI2, v2, rfl⟩ hP2 hD2 hS2 hz2 hk2
  have hH2 := lw_oq hG hH1 hI2 hP2 hD2 hS2 hz2 hk2
  refine lv_pop hx hb (kd_at lt_26_d 35 rfl) rfl ?_
  refine lv_goto (tgt := 1505) hx hb (kd_at lt_26_d 36 rfl) rfl ?_
  exact W.widen (by omega) (by omega) (kend H2 locs2 w2 ls hH2 hl)
def lt_27 : List (Nat × Instr × Nat) := [(1094, .aload_n 1, 1), (1095, .aload_n 0, 1), (1096, .iload 4, 2), (1098, .iconst 1, 1), (1099, .iadd, 1), (1100, .iaload, 1), (1101, .aload_n 0, 1), (1102, .iload 4, 2), (1104, .iconst 2, 1), (1105, .iadd, 1), (1106, .iaload, 1), (1107, .invokevirtual 134, 3), (1110, .pop, 1), (1111, .aload_n 2, 1), (1112, .aload_n 0, 1), (1113, .iload 4, 2), (1115, .iconst 1, 1), (1116, .iadd, 1), (1117, .iaload, 1), (1118, .aload_n 0, 1), (1119, .iload 4, 2), (1121, .iconst 2, 1), (1122, .iadd, 1), (1123, .iaload, 1), (1124, .invokevirtual 137, 3), (1127, .pop, 1), (1128, .goto 377, 3)]
set_option maxRecDepth 100000 in
theorem lt_27_d : (lt_27.all fun q => decide (decode code q.1 = .ok (q.2.1, q.2.2))) = true := by decide +kernel
theorem ll_x27 : Cond.methodLink "ReadBoundLaw" 134 mn_137 ∈ lw_tbl := List.mem_of_getElem? (i := 931) (by decide +kernel)
theorem ll_m27 : Cond.methodLink "ReadBoundLaw" 137 mn_257 ∈ lw_tbl := List.mem_of_getElem? (i := 1736) (by decide +kernel)
set_option maxRecDepth 100000 in
theorem lc_case27 {p : Program} {l : Launch} {e : Env} {s : State} {m : MethodId} {below : List Frame} {meth : Method} {c : Code} {Q : State → Prop} {D : va_G} {cA : Nat → ClassId} {sa sv : Nat} {ad : Nat → Nat} {b N oq : Nat} {xs : Nat → Int32} {cu su : Nat} {H : Heap} {locs : List Loc} {ls : Array Slot} {w : pi_W} {i : Nat} (hG : lw_G p s m c meth D cA sa sv ad b N oq xs) (hH : lw_H s D cA ad oq w H locs) (hl : lv_has ls 7 (lw_L ad b oq i)) (hi : i + 6 ≤ N) (hcu : cu + 6 ≤ 601024) (hsu : su + 36 ≤ 7293034) (kend : ∀ (H1 : Heap) (locs1 : List Loc) (w1 : pi_W) (ls1 : Array Slot), lw_H s D cA ad oq w1 H1 locs1 → lv_has ls1 7 (lw_L ad b oq i) → W p l e room_1 s m #[Value.ref b] below meth c H1 locs1 (cu + 6) (su + 36) Q (F0 m 1505 ls1 [])) : W p l e room_1 s m #[Value.ref b] below meth c H locs cu su Q (F0 m 1094 ls []) := by
  obtain ⟨hI, hP, hD, hS, ho1, ho2, hof⟩ := id hH
  have C := hG.1
  have hsa := hG.2.1
  have hx := C.1
  have hb := C.2.1
  obtain ⟨e0, he0, fs0, rfl, -, -⟩ := hI.1.at (a := 0) (c := .inr (10, _)) rfl
  refine lv_aload_n hx hb (kd_at lt_27_d 0 rfl) rfl (lv_at hl 1 rfl) ?_
  refine lw_push (j := 1) (jj := 1) hG hS hl (by omega) rfl (kd_at lt_27_d 1 rfl) (kd_at lt_27_d 2 rfl) (kd_at lt_27_d 3 rfl) (kd_at lt_27_d 4 rfl) (kd_at lt_27_d 5 rfl) ?_
  refine lw_push (j := 2) (jj := 2) hG hS hl (by omega) rfl (kd_at lt_27_d 6 rfl) (kd_at lt_27_d 7 rfl) (kd_at lt_27_d 8 rfl) (kd_at lt_27_d 9 rfl) (kd_at lt_27_d 10 rfl) ?_
  refine lw_hq C hsa (z := 137) (na := 2) (cp := 134) (a := 0) (As := [.int (xs (i + 1)), .int (xs (i + 2))]) (d := 24) (restM := []) pz_137 lk_x27 ll_x27 rfl he0 (Nat.le_of_ble_eq_true rfl) (by decide) rfl (lx_27 hI (xs (i + 1)) (xs (i + 2))) (fun r w' q => by rw [q.1.1.1, hI.1.1]) hP hD hS hl.1 (by decide) (by decide) (by show cu ≤ 601024; omega) (by show su ≤ 7293034; omega) (by decide) (kd_at lt_27_d 11 rfl) ?_
  rintro r1 w1 H1 locs1 ⟨hI1, v1, rfl⟩ hP1 hD1 hS1 hz1 hk1
  have hH1 := lw_oq hG hH hI1 hP1 hD1 hS1 hz1 hk1
  obtain ⟨e1, he1, fs1, rfl, -, -⟩ := hI1.1.at (a := 61) (c := .inr (11, _)) rfl
  refine lv_pop hx hb (kd_at lt_27_d 12 rfl) rfl ?_
  refine lv_aload_n hx hb (kd_at lt_27_d 13 rfl) rfl (lv_at hl 2 rfl) ?_
  refine lw_push (j := 1) (jj := 1) hG hS1 hl (by omega) rfl (kd_at lt_27_d 14 rfl) (kd_at lt_27_d 15 rfl) (kd_at lt_27_d 16 rfl) (kd_at lt_27_d 17 rfl) (kd_at lt_27_d 18 rfl) ?_
  refine lw_push (j := 2) (jj := 2) hG hS1 hl (by omega) rfl (kd_at lt_27_d 19 rfl) (kd_at lt_27_d 20 rfl) (kd_at lt_27_d 21 rfl) (kd_at lt_27_d 22 rfl) (kd_at lt_27_d 23 rfl) ?_
  refine lw_hq C hsa (z := 257) (na := 2) (cp := 137) (a := 61) (As := [.int (xs (i + 1)), .int (xs (i + 2))]) (d := 24) (restM := []) pz_257 lk_m27 ll_m27 rfl he1 (Nat.le_of_ble_eq_true rfl) (by decide) rfl (lm_27 hI1 (xs (i + 1)) (xs (i + 2))) (fun r w' q => by rw [q.1.1.1, hI1.1.1]) hP1 hD1 hS1 hl.1 (by decide) (by decide) (by show cu ≤ 601024; omega) (by show su ≤ 7293034; omega) (by decide) (kd_at lt_27_d 24 rfl) ?_
  rintro r2 w2 H2 locs2 ⟨hI2, v2, rfl⟩ hP2 hD2 hS2 hz2 hk2
  have hH2 := lw_oq hG hH1 hI2 hP2 hD2 hS2 hz2 hk2
  refine lv_pop hx hb (kd_at lt_27_d 25 rfl) rfl ?_
  refine lv_goto (tgt := 1505) hx hb (kd_at lt_27_d 26 rfl) rfl ?_
  exact W.widen (by omega) (by omega) (kend H2 locs2 w2 ls hH2 hl)
def lt_28 : List (Nat × Instr × Nat) := [(1131, .aload_n 1, 1), (1132, .invokevirtual 138, 3), (1135, .pop, 1), (1136, .aload_n 2, 1), (1137, .invokevirtual 141, 3), (1140, .pop, 1), (1141, .goto 364, 3)]
set_option maxRecDepth 100000 in
theorem lt_28_d : (lt_28.all fun q => decide (decode code q.1 = .ok (q.2.1, q.2.2))) = true := by decide +kernel
theorem ll_x28 : Cond.methodLink "ReadBoundLaw" 138 mn_138 ∈ lw_tbl := List.mem_of_getElem? (i := 944) (by decide +kernel)
theorem ll_m28 : Cond.methodLink "ReadBoundLaw" 141 mn_258 ∈ lw_tbl := List.mem_of_getElem? (i := 1744) (by decide +kernel)
set_option maxRecDepth 100000 in
theorem lc_case28 {p : Program} {l : Launch} {e : Env} {s : State} {m : MethodId} {below : List Frame} {meth : Method} {c : Code} {Q : State → Prop} {D : va_G} {cA : Nat → ClassId} {sa sv : Nat} {ad : Nat → Nat} {b N oq : Nat} {xs : Nat → Int32} {cu su : Nat} {H : Heap} {locs : List Loc} {ls : Array Slot} {w : pi_W} {i : Nat} (hG : lw_G p s m c meth D cA sa sv ad b N oq xs) (hH : lw_H s D cA ad oq w H locs) (hl : lv_has ls 7 (lw_L ad b oq i)) (hi : i + 6 ≤ N) (hcu : cu + 6 ≤ 601024) (hsu : su + 36 ≤ 7293034) (kend : ∀ (H1 : Heap) (locs1 : List Loc) (w1 : pi_W) (ls1 : Array Slot), lw_H s D cA ad oq w1 H1 locs1 → lv_has ls1 7 (lw_L ad b oq i) → W p l e room_1 s m #[Value.ref b] below meth c H1 locs1 (cu + 6) (su + 36) Q (F0 m 1505 ls1 [])) : W p l e room_1 s m #[Value.ref b] below meth c H locs cu su Q (F0 m 1131 ls []) := by
  obtain ⟨hI, hP, hD, hS, ho1, ho2, hof⟩ := id hH
  have C := hG.1
  have hsa := hG.2.1
  have hx := C.1
  have hb := C.2.1
  obtain ⟨e0, he0, fs0, rfl, -, -⟩ := hI.1.at (a := 0) (c := .inr (10, _)) rfl
  refine lv_aload_n hx hb (kd_at lt_28_d 0 rfl) rfl (lv_at hl 1 rfl) ?_
  refine lw_hq C hsa (z := 138) (na := 0) (cp := 138) (a := 0) (As := []) (d := 24) (restM := []) pz_138 lk_x28 ll_x28 rfl he0 (Nat.le_of_ble_eq_true rfl) (by decide) rfl (lx_28 hI) (fun r w' q => by rw [q.1.1.1, hI.1.1]) hP hD hS hl.1 (by decide) (by decide) (by show cu ≤ 601024; omega) (by show su ≤ 7293034; omega) (by decide) (kd_at lt_28_d 1 rfl) ?_
  rintro r1 w1 H1 locs1 ⟨hI1, v1, rfl⟩ hP1 hD1 hS1 hz1 hk1
  have hH1 := lw_oq hG hH hI1 hP1 hD1 hS1 hz1 hk1
  obtain ⟨e1, he1, fs1, rfl, -, -⟩ := hI1.1.at (a := 61) (c := .inr (11, _)) rfl
  refine lv_pop hx hb (kd_at lt_28_d 2 rfl) rfl ?_
  refine lv_aload_n hx hb (kd_at lt_28_d 3 rfl) rfl (lv_at hl 2 rfl) ?_
  refine lw_hq C hsa (z := 258) (na := 0) (cp := 141) (a := 61) (As := []) (d := 24) (restM := []) pz_258 lk_m28 ll_m28 rfl he1 (Nat.le_of_ble_eq_true rfl) (by decide) rfl (lm_28 hI1) (fun r w' q => by rw [q.1.1.1, hI1.1.1]) hP1 hD1 hS1 hl.1 (by decide) (by decide) (by show cu ≤ 601024; omega) (by show su ≤ 7293034; omega) (by decide) (kd_at lt_28_d 4 rfl) ?_
  rintro r2 w2 H2 locs2 ⟨hI2, v2, rfl⟩ hP2 hD2 hS2 hz2 hk2
  have hH2 := lw_oq hG hH1 hI2 hP2 hD2 hS2 hz2 hk2
  refine lv_pop hx hb (kd_at lt_28_d 5 rfl) rfl ?_
  refine lv_goto (tgt := 1505) hx hb (kd_at lt_28_d 6 rfl) rfl ?_
  exact W.widen (by omega) (by omega) (kend H2 locs2 w2 ls hH2 hl)
def lt_29 : List (Nat × Instr × Nat) := [(1144, .aload_n 1, 1), (1145, .aload_n 0, 1), (1146, .iload 4, 2), (1148, .iconst 1, 1), (1149, .iadd, 1), (1150, .iaload, 1), (1151, .invokevirtual 142, 3), (1154, .pop, 1), (1155, .aload_n 2, 1), (1156, .aload_n 0, 1), (1157, .iload 4, 2), (1159, .iconst 1, 1), (1160, .iadd, 1), (1161, .iaload, 1), (1162, .invokevirtual 145, 3), (1165, .pop, 1), (1166, .goto 339, 3)]
set_option maxRecDepth 100000 in
theorem lt_29_d : (lt_29.all fun q => decide (decode code q.1 = .ok (q.2.1, q.2.2))) = true := by decide +kernel
theorem ll_x29 : Cond.methodLink "ReadBoundLaw" 142 mn_139 ∈ lw_tbl := List.mem_of_getElem? (i := 948) (by decide +kernel)
theorem ll_m29 : Cond.methodLink "ReadBoundLaw" 145 mn_259 ∈ lw_tbl := List.mem_of_getElem? (i := 1748) (by decide +kernel)
set_option maxRecDepth 100000 in
theorem lc_case29 {p : Program} {l : Launch} {e : Env} {s : State} {m : MethodId} {below : List Frame} {meth : Method} {c : Code} {Q : State → Prop} {D : va_G} {cA : Nat → ClassId} {sa sv : Nat} {ad : Nat → Nat} {b N oq : Nat} {xs : Nat → Int32} {cu su : Nat} {H : Heap} {locs : List Loc} {ls : Array Slot} {w : pi_W} {i : Nat} (hG : lw_G p s m c meth D cA sa sv ad b N oq xs) (hH : lw_H s D cA ad oq w H locs) (hl : lv_has ls 7 (lw_L ad b oq i)) (hi : i + 6 ≤ N) (hcu : cu + 6 ≤ 601024) (hsu : su + 36 ≤ 7293034) (kend : ∀ (H1 : Heap) (locs1 : List Loc) (w1 : pi_W) (ls1 : Array Slot), lw_H s D cA ad oq w1 H1 locs1 → lv_has ls1 7 (lw_L ad b oq i) → W p l e room_1 s m #[Value.ref b] below meth c H1 locs1 (cu + 6) (su + 36) Q (F0 m 1505 ls1 [])) : W p l e room_1 s m #[Value.ref b] below meth c H locs cu su Q (F0 m 1144 ls []) := by
  obtain ⟨hI, hP, hD, hS, ho1, ho2, hof⟩ := id hH
  have C := hG.1
  have hsa := hG.2.1
  have hx := C.1
  have hb := C.2.1
  obtain ⟨e0, he0, fs0, rfl, -, -⟩ := hI.1.at (a := 0) (c := .inr (10, _)) rfl
  refine lv_aload_n hx hb (kd_at lt_29_d 0 rfl) rfl (lv_at hl 1 rfl) ?_
  refine lw_push (j := 1) (jj := 1) hG hS hl (by omega) rfl (kd_at lt_29_d 1 rfl) (kd_at lt_29_d 2 rfl) (kd_at lt_29_d 3 rfl) (kd_at lt_29_d 4 rfl) (kd_at lt_29_d 5 rfl) ?_
  refine lw_hq C hsa (z := 139) (na := 1) (cp := 142) (a := 0) (As := [.int (xs (i + 1))]) (d := 24) (restM := []) pz_139 lk_x29 ll_x29 rfl he0 (Nat.le_of_ble_eq_true rfl) (by decide) rfl (lx_29 hI (xs (i + 1))) (fun r w' q => by rw [q.1.1.1, hI.1.1]) hP hD hS hl.1 (by decide) (by decide) (by show cu ≤ 601024; omega) (by show su ≤ 7293034; omega) (by decide) (kd_at lt_29_d 6 rfl) ?_
  rintro r1 w1 H1 locs1 ⟨hI1, v1, rfl⟩ hP1 hD1 hS1 hz1 hk1
  have hH1 := lw_oq hG hH hI1 hP1 hD1 hS1 hz1 hk1
  obtain ⟨e1, he1, fs1, rfl, -, -⟩ := hI1.1.at (a := 61) (c := .inr (11, _)) rfl
  refine lv_pop hx hb (kd_at lt_29_d 7 rfl) rfl ?_
  refine lv_aload_n hx hb (kd_at lt_29_d 8 rfl) rfl (lv_at hl 2 rfl) ?_
  refine lw_push (j := 1) (jj := 1) hG hS1 hl (by omega) rfl (kd_at lt_29_d 9 rfl) (kd_at lt_29_d 10 rfl) (kd_at lt_29_d 11 rfl) (kd_at lt_29_d 12 rfl) (kd_at lt_29_d 13 rfl) ?_
  refine lw_hq C hsa (z := 259) (na := 1) (cp := 145) (a := 61) (As := [.int (xs (i + 1))]) (d := 24) (restM := []) pz_259 lk_m29 ll_m29 rfl he1 (Nat.le_of_ble_eq_true rfl) (by decide) rfl (lm_29 hI1 (xs (i + 1))) (fun r w' q => by rw [q.1.1.1, hI1.1.1]) hP1 hD1 hS1 hl.1 (by decide) (by decide) (by show cu ≤ 601024; omega) (by show su ≤ 7293034; omega) (by decide) (kd_at lt_29_d 14 rfl) ?_
  rintro r2 w2 H2 locs2 ⟨hI2, v2, rfl⟩ hP2 hD2 hS2 hz2 hk2
  have hH2 := lw_oq hG hH1 hI2 hP2 hD2 hS2 hz2 hk2
  refine lv_pop hx hb (kd_at lt_29_d 15 rfl) rfl ?_
  refine lv_goto (tgt := 1505) hx hb (kd_at lt_29_d 16 rfl) rfl ?_
  exact W.widen (by omega) (by omega) (kend H2 locs2 w2 ls hH2 hl)
def lt_30 : List (Nat × Instr × Nat) := [(1169, .aload_n 1, 1), (1170, .invokevirtual 146, 3), (1173, .pop, 1), (1174, .aload_n 2, 1), (1175, .invokevirtual 149, 3), (1178, .pop, 1), (1179, .goto 326, 3)]
set_option maxRecDepth 100000 in
theorem lt_30_d : (lt_30.all fun q => decide (decode code q.1 = .ok (q.2.1, q.2.2))) = true := by decide +kernel
theorem ll_x30 : Cond.methodLink "ReadBoundLaw" 146 mn_140 ∈ lw_tbl := List.mem_of_getElem? (i := 956) (by decide +kernel)
theorem ll_m30 : Cond.methodLink "ReadBoundLaw" 149 mn_260 ∈ lw_tbl := List.mem_of_getElem? (i := 1752) (by decide +kernel)
set_option maxRecDepth 100000 in
theorem lc_case30 {p : Program} {l : Launch} {e : Env} {s : State} {m : MethodId} {below : List Frame} {meth : Method} {c : Code} {Q : State → Prop} {D : va_G} {cA : Nat → ClassId} {sa sv : Nat} {ad : Nat → Nat} {b N oq : Nat} {xs : Nat → Int32} {cu su : Nat} {H : Heap} {locs : List Loc} {ls : Array Slot} {w : pi_W} {i : Nat} (hG : lw_G p s m c meth D cA sa sv ad b N oq xs) (hH : lw_H s D cA ad oq w H locs) (hl : lv_has ls 7 (lw_L ad b oq i)) (hi : i + 6 ≤ N) (hcu : cu + 6 ≤ 601024) (hsu : su + 36 ≤ 7293034) (kend : ∀ (H1 : Heap) (locs1 : List Loc) (w1 : pi_W) (ls1 : Array Slot), lw_H s D cA ad oq w1 H1 locs1 → lv_has ls1 7 (lw_L ad b oq i) → W p l e room_1 s m #[Value.ref b] below meth c H1 locs1 (cu + 6) (su + 36) Q (F0 m 1505 ls1 [])) : W p l e room_1 s m #[Value.ref b] below meth c H locs cu su Q (F0 m 1169 ls []) := by
  obtain ⟨hI, hP, hD, hS, ho1, ho2, hof⟩ := id hH
  have C := hG.1
  have hsa := hG.2.1
  have hx := C.1
  have hb := C.2.1
  obtain ⟨e0, he0, fs0, rfl, -, -⟩ := hI.1.at (a := 0) (c := .inr (10, _)) rfl
  refine lv_aload_n hx hb (kd_at lt_30_d 0 rfl) rfl (lv_at hl 1 rfl) ?_
  refine lw_hq C hsa (z := 140) (na := 0) (cp := 146) (a := 0) (As := []) (d := 24) (restM := []) pz_140 lk_x30 ll_x30 rfl he0 (Nat.le_of_ble_eq_true rfl) (by decide) rfl (lx_30 hI) (fun r w' q => by rw [q.1.1.1, hI.1.1]) hP hD hS hl.1 (by decide) (by decide) (by show cu ≤ 601024; omega) (by show su ≤ 7293034; omega) (by decide) (kd_at lt_30_d 1 rfl) ?_
  rintro r1 w1 H1 locs1 ⟨hI1, v1, rfl⟩ hP1 hD1 hS1 hz1 hk1
  have hH1 := lw_oq hG hH hI1 hP1 hD1 hS1 hz1 hk1
  obtain ⟨e1, he1, fs1, rfl, -, -⟩ := hI1.1.at (a := 61) (c := .inr (11, _)) rfl
  refine lv_pop hx hb (kd_at lt_30_d 2 rfl) rfl ?_
  refine lv_aload_n hx hb (kd_at lt_30_d 3 rfl) rfl (lv_at hl 2 rfl) ?_
  refine lw_hq C hsa (z := 260) (na := 0) (cp := 149) (a := 61) (As := []) (d := 24) (restM := []) pz_260 lk_m30 ll_m30 rfl he1 (Nat.le_of_ble_eq_true rfl) (by decide) rfl (lm_30 hI1) (fun r w' q => by rw [q.1.1.1, hI1.1.1]) hP1 hD1 hS1 hl.1 (by decide) (by decide) (by show cu ≤ 601024; omega) (by show su ≤ 7293034; omega) (by decide) (kd_at lt_30_d 4 rfl) ?_
  rintro r2 w2 H2 locs2 ⟨hI2, v2, rfl⟩ hP2 hD2 hS2 hz2 hk2
  have hH2 := lw_oq hG hH1 hI2 hP2 hD2 hS2 hz2 hk2
  refine lv_pop hx hb (kd_at lt_30_d 5 rfl) rfl ?_
  refine lv_goto (tgt := 1505) hx hb (kd_at lt_30_d 6 rfl) rfl ?_
  exact W.widen (by omega) (by omega) (kend H2 locs2 w2 ls hH2 hl)
def lt_31 : List (Nat × Instr × Nat) := [(1182, .aload_n 1, 1), (1183, .aload_n 0, 1), (1184, .iload 4, 2), (1186, .iconst 1, 1), (1187, .iadd, 1), (1188, .iaload, 1), (1189, .aload_n 0, 1), (1190, .iload 4, 2), (1192, .iconst 2, 1), (1193, .iadd, 1), (1194, .iaload, 1), (1195, .aload_n 0, 1), (1196, .iload 4, 2), (1198, .iconst 3, 1), (1199, .iadd, 1), (1200, .iaload, 1), (1201, .invokevirtual 150, 3), (1204, .pop, 1), (1205, .aload_n 2, 1), (1206, .aload_n 0, 1), (1207, .iload 4, 2), (1209, .iconst 1, 1), (1210, .iadd, 1), (1211, .iaload, 1), (1212, .aload_n 0, 1), (1213, .iload 4, 2), (1215, .iconst 2, 1), (1216, .iadd, 1), (1217, .iaload, 1), (1218, .aload_n 0, 1), (1219, .iload 4, 2), (1221, .iconst 3, 1), (1222, .iadd, 1), (1223, .iaload, 1), (1224, .invokevirtual 153, 3), (1227, .pop, 1), (1228, .goto 277, 3)]
set_option maxRecDepth 100000 in
theorem lt_31_d : (lt_31.all fun q => decide (decode code q.1 = .ok (q.2.1, q.2.2))) = true := by decide +kernel
theorem ll_x31 : Cond.methodLink "ReadBoundLaw" 150 mn_141 ∈ lw_tbl := List.mem_of_getElem? (i := 960) (by decide +kernel)
theorem ll_m31 : Cond.methodLink "ReadBoundLaw" 153 mn_261 ∈ lw_tbl := List.mem_of_getElem? (i := 1756) (by decide +kernel)
set_option maxRecDepth 100000 in
theorem lc_case31 {p : Program} {l : Launch} {e : Env} {s : State} {m : MethodId} {below : List Frame} {meth : Method} {c : Code} {Q : State → Prop} {D : va_G} {cA : Nat → ClassId} {sa sv : Nat} {ad : Nat → Nat} {b N oq : Nat} {xs : Nat → Int32} {cu su : Nat} {H : Heap} {locs : List Loc} {ls : Array Slot} {w : pi_W} {i : Nat} (hG : lw_G p s m c meth D cA sa sv ad b N oq xs) (hH : lw_H s D cA ad oq w H locs) (hl : lv_has ls 7 (lw_L ad b oq i)) (hi : i + 6 ≤ N) (hcu : cu + 6 ≤ 601024) (hsu : su + 36 ≤ 7293034) (kend : ∀ (H1 : Heap) (locs1 : List Loc) (w1 : pi_W) (ls1 : Array Slot), lw_H s D cA ad oq w1 H1 locs1 → lv_has ls1 7 (lw_L ad b oq i) → W p l e room_1 s m #[Value.ref b] below meth c H1 locs1 (cu + 6) (su + 36) Q (F0 m 1505 ls1 [])) : W p l e room_1 s m #[Value.ref b] below meth c H locs cu su Q (F0 m 1182 ls []) := by
  obtain ⟨hI, hP, hD, hS, ho1, ho2, hof⟩ := id hH
  have C := hG.1
  have hsa := hG.2.1
  have hx := C.1
  have hb := C.2.1
  obtain ⟨e0, he0, fs0, rfl, -, -⟩ := hI.1.at (a := 0) (c := .inr (10, _)) rfl
  refine lv_aload_n hx hb (kd_at lt_31_d 0 rfl) rfl (lv_at hl 1 rfl) ?_
  refine lw_push (j := 1) (jj := 1) hG hS hl (by omega) rfl (kd_at lt_31_d 1 rfl) (kd_at lt_31_d 2 rfl) (kd_at lt_31_d 3 rfl) (kd_at lt_31_d 4 rfl) (kd_at lt_31_d 5 rfl) ?_
  refine lw_push (j := 2) (jj := 2) hG hS hl (by omega) rfl (kd_at lt_31_d 6 rfl) (kd_at lt_31_d 7 rfl) (kd_at lt_31_d 8 rfl) (kd_at lt_31_d 9 rfl) (kd_at lt_31_d 10 rfl) ?_
  refine lw_push (j := 3) (jj := 3) hG hS hl (by omega) rfl (kd_at lt_31_d 11 rfl) (kd_at lt_31_d 12 rfl) (kd_at lt_31_d 13 rfl) (kd_at lt_31_d 14 rfl) (kd_at lt_31_d 15 rfl) ?_
  refine lw_hq C hsa (z := 141) (na := 3) (cp := 150) (a := 0) (As := [.int (xs (i + 1)), .int (xs (i + 2)), .int (xs (i + 3))]) (d := 24) (restM := []) pz_141 lk_x31 ll_x31 rfl he0 (Nat.le_of_ble_eq_true rfl) (by decide) rfl (lx_31 hI (xs (i + 1)) (xs (i + 2)) (xs (i + 3))) (fun r w' q => by rw [q.1.1.1, hI.1.1]) hP hD hS hl.1 (by decide) (by decide) (by show cu ≤ 601024; omega) (by show su ≤ 7293034; omega) (by decide) (kd_at lt_31_d 16 rfl) ?_
  rintro r1 w1 H1 locs1 ⟨hI1, v1, rfl⟩ hP1 hD1 hS1 hz1 hk1
  have hH1 := lw_oq hG hH hI1 hP1 hD1 hS1 hz1 hk1
  obtain ⟨e1, he1, fs1, rfl, -, -⟩ := hI1.1.at (a := 61) (c := .inr (11, _)) rfl
  refine lv_pop hx hb (kd_at lt_31_d 17 rfl) rfl ?_
  refine lv_aload_n hx hb (kd_at lt_31_d 18 rfl) rfl (lv_at hl 2 rfl) ?_
  refine lw_push (j := 1) (jj := 1) hG hS1 hl (by omega) rfl (kd_at lt_31_d 19 rfl) (kd_at lt_31_d 20 rfl) (kd_at lt_31_d 21 rfl) (kd_at lt_31_d 22 rfl) (kd_at lt_31_d 23 rfl) ?_
  refine lw_push (j := 2) (jj := 2) hG hS1 hl (by omega) rfl (kd_at lt_31_d 24 rfl) (kd_at lt_31_d 25 rfl) (kd_at lt_31_d 26 rfl) (kd_at lt_31_d 27 rfl) (kd_at lt_31_d 28 rfl) ?_
  refine lw_push (j := 3) (jj := 3) hG hS1 hl (by omega) rfl (kd_at lt_31_d 29 rfl) (kd_at lt_31_d 30 rfl) (kd_at lt_31_d 31 rfl) (kd_at lt_31_d 32 rfl) (kd_at lt_31_d 33 rfl) ?_
  refine lw_hq C hsa (z := 261) (na := 3) (cp := 153) (a := 61) (As := [.int (xs (i + 1)), .int (xs (i + 2)), .int (xs (i + 3))]) (d := 24) (restM := []) pz_261 lk_m31 ll_m31 rfl he1 (Nat.le_of_ble_eq_true rfl) (by decide) rfl (lm_31 hI1 (xs (i + 1)) (xs (i + 2)) (xs (i + 3))) (fun r w' q => by rw [q.1.1.1, hI1.1.1]) hP1 hD1 hS1 hl.1 (by decide) (by decide) (by show cu ≤ 601024; omega) (by show su ≤ 7293034; omega) (by decide) (kd_at lt_31_d 34 rfl) ?_
  rintro r2 w2 H2 locs2 ⟨hI2, v2, rfl⟩ hP2 hD2 hS2 hz2 hk2
  have hH2 := lw_oq hG hH1 hI2 hP2 hD2 hS2 hz2 hk2
  refine lv_pop hx hb (kd_at lt_31_d 35 rfl) rfl ?_
  refine lv_goto (tgt := 1505) hx hb (kd_at lt_31_d 36 rfl) rfl ?_
  exact W.widen (by omega) (by omega) (kend H2 locs2 w2 ls hH2 hl)
def lt_32 : List (Nat × Instr × Nat) := [(1231, .aload_n 1, 1), (1232, .aload_n 0, 1), (1233, .iload 4, 2), (1235, .iconst 1, 1), (1236, .iadd, 1), (1237, .iaload, 1), (1238, .invokevirtual 154, 3), (1241, .pop, 1), (1242, .aload_n 2, 1), (1243, .aload_n 0, 1), (1244, .iload 4, 2), (1246, .iconst 1, 1), (1247, .iadd, 1), (1248, .iaload, 1), (1249, .invokevirtual 157, 3), (1252, .pop, 1), (1253, .goto 252, 3)]
set_option maxRecDepth 100000 in
theorem lt_32_d : (lt_32.all fun q => decide (decode code q.1 = .ok (q.2.1, q.2.2))) = true := by decide +kernel
theorem ll_x32 : Cond.methodLink "ReadBoundLaw" 154 mn_142 ∈ lw_tbl := List.mem_of_getElem? (i := 964) (by decide +kernel)
theorem ll_m32 : Cond.methodLink "ReadBoundLaw" 157 mn_248 ∈ lw_tbl := List.mem_of_getElem? (i := 1696) (by decide +kernel)
set_option maxRecDepth 100000 in
theorem lc_case32 {p : Program} {l : Launch} {e : Env} {s : State} {m : MethodId} {below : List Frame} {meth : Method} {c : Code} {Q : State → Prop} {D : va_G} {cA : Nat → ClassId} {sa sv : Nat} {ad : Nat → Nat} {b N oq : Nat} {xs : Nat → Int32} {cu su : Nat} {H : Heap} {locs : List Loc} {ls : Array Slot} {w : pi_W} {i : Nat} (hG : lw_G p s m c meth D cA sa sv ad b N oq xs) (hH : lw_H s D cA ad oq w H locs) (hl : lv_has ls 7 (lw_L ad b oq i)) (hi : i + 6 ≤ N) (hcu : cu + 6 ≤ 601024) (hsu : su + 36 ≤ 7293034) (kend : ∀ (H1 : Heap) (locs1 : List Loc) (w1 : pi_W) (ls1 : Array Slot), lw_H s D cA ad oq w1 H1 locs1 → lv_has ls1 7 (lw_L ad b oq i) → W p l e room_1 s m #[Value.ref b] below meth c H1 locs1 (cu + 6) (su + 36) Q (F0 m 1505 ls1 [])) : W p l e room_1 s m #[Value.ref b] below meth c H locs cu su Q (F0 m 1231 ls []) := by
  obtain ⟨hI, hP, hD, hS, ho1, ho2, hof⟩ := id hH
  have C := hG.1
  have hsa := hG.2.1
  have hx := C.1
  have hb := C.2.1
  obtain ⟨e0, he0, fs0, rfl, -, -⟩ := hI.1.at (a := 0) (c := .inr (10, _)) rfl
  refine lv_aload_n hx hb (kd_at lt_32_d 0 rfl) rfl (lv_at hl 1 rfl) ?_
  refine lw_push (j := 1) (jj := 1) hG hS hl (by omega) rfl (kd_at lt_32_d 1 rfl) (kd_at lt_32_d 2 rfl) (kd_at lt_32_d 3 rfl) (kd_at lt_32_d 4 rfl) (kd_at lt_32_d 5 rfl) ?_
  refine lw_hq C hsa (z := 142) (na := 1) (cp := 154) (a := 0) (As := [.int (xs (i + 1))]) (d := 24) (restM := []) pz_142 lk_x32 ll_x32 rfl he0 (Nat.le_of_ble_eq_true rfl) (by decide) rfl (lx_32 hI (xs (i + 1))) (fun r w' q => by rw [q.1.1.1, hI.1.1]) hP hD hS hl.1 (by decide) (by decide) (by show cu ≤ 601024; omega) (by show su ≤ 7293034; omega) (by decide) (kd_at lt_32_d 6 rfl) ?_
  rintro r1 w1 H1 locs1 ⟨hI1, v1, rfl⟩ hP1 hD1 hS1 hz1 hk1
  have hH1 := lw_oq hG hH hI1 hP1 hD1 hS1 hz1 hk1
  obtain ⟨e1, he1, fs1, rfl, -, -⟩ := hI1.1.at (a := 61) (c := .inr (11, _)) rfl
  refine lv_pop hx hb (kd_at lt_32_d 7 rfl) rfl ?_
  refine lv_aload_n hx hb (kd_at lt_32_d 8 rfl) rfl (lv_at hl 2 rfl) ?_
  refine lw_push (j := 1) (jj := 1) hG hS1 hl (by omega) rfl (kd_at lt_32_d 9 rfl) (kd_at lt_32_d 10 rfl) (kd_at lt_32_d 11 rfl) (kd_at lt_32_d 12 rfl) (kd_at lt_32_d 13 rfl) ?_
  refine lw_hq C hsa (z := 248) (na := 1) (cp := 157) (a := 61) (As := [.int (xs (i + 1))]) (d := 24) (restM := []) pz_248 lk_m32 ll_m32 rfl he1 (Nat.le_of_ble_eq_true rfl) (by decide) rfl (lm_32 hI1 (xs (i + 1))) (fun r w' q => by rw [q.1.1.1, hI1.1.1]) hP1 hD1 hS1 hl.1 (by decide) (by decide) (by show cu ≤ 601024; omega) (by show su ≤ 7293034; omega) (by decide) (kd_at lt_32_d 14 rfl) ?_
  rintro r2 w2 H2 locs2 ⟨hI2, v2, rfl⟩ hP2 hD2 hS2 hz2 hk2
  have hH2 := lw_oq hG hH1 hI2 hP2 hD2 hS2 hz2 hk2
  refine lv_pop hx hb (kd_at lt_32_d 15 rfl) rfl ?_
  refine lv_goto (tgt := 1505) hx hb (kd_at lt_32_d 16 rfl) rfl ?_
  exact W.widen (by omega) (by omega) (kend H2 locs2 w2 ls hH2 hl)
def lt_33 : List (Nat × Instr × Nat) := [(1256, .aload_n 1, 1), (1257, .aload_n 0, 1), (1258, .iload 4, 2), (1260, .iconst 1, 1), (1261, .iadd, 1), (1262, .iaload, 1), (1263, .aload_n 0, 1), (1264, .iload 4, 2), (1266, .iconst 2, 1), (1267, .iadd, 1), (1268, .iaload, 1), (1269, .invokevirtual 158, 3), (1272, .pop, 1), (1273, .aload_n 2, 1), (1274, .aload_n 0, 1), (1275, .iload 4, 2), (1277, .iconst 1, 1), (1278, .iadd, 1), (1279, .iaload, 1), (1280, .aload_n 0, 1), (1281, .iload 4, 2), (1283, .iconst 2, 1), (1284, .iadd, 1), (1285, .iaload, 1), (1286, .invokevirtual 161, 3), (1289, .pop, 1), (1290, .goto 215, 3)]
set_option maxRecDepth 100000 in
theorem lt_33_d : (lt_33.all fun q => decide (decode code q.1 = .ok (q.2.1, q.2.2))) = true := by decide +kernel
theorem ll_x33 : Cond.methodLink "ReadBoundLaw" 158 mn_143 ∈ lw_tbl := List.mem_of_getElem? (i := 972) (by decide +kernel)
theorem ll_m33 : Cond.methodLink "ReadBoundLaw" 161 mn_264 ∈ lw_tbl := List.mem_of_getElem? (i := 1760) (by decide +kernel)
set_option maxRecDepth 100000 in
theorem lc_case33 {p : Program} {l : Launch} {e : Env} {s : State} {m : MethodId} {below : List Frame} {meth : Method} {c : Code} {Q : State → Prop} {D : va_G} {cA : Nat → ClassId} {sa sv : Nat} {ad : Nat → Nat} {b N oq : Nat} {xs : Nat → Int32} {cu su : Nat} {H : Heap} {locs : List Loc} {ls : Array Slot} {w : pi_W} {i : Nat} (hG : lw_G p s m c meth D cA sa sv ad b N oq xs) (hH : lw_H s D cA ad oq w H locs) (hl : lv_has ls 7 (lw_L ad b oq i)) (hi : i + 6 ≤ N) (hcu : cu + 6 ≤ 601024) (hsu : su + 36 ≤ 7293034) (kend : ∀ (H1 : Heap) (locs1 : List Loc) (w1 : pi_W) (ls1 : Array Slot), lw_H s D cA ad oq w1 H1 locs1 → lv_has ls1 7 (lw_L ad b oq i) → W p l e room_1 s m #[Value.ref b] below meth c H1 locs1 (cu + 6) (su + 36) Q (F0 m 1505 ls1 [])) : W p l e room_1 s m #[Value.ref b] below meth c H locs cu su Q (F0 m 1256 ls []) := by
  obtain ⟨hI, hP, hD, hS, ho1, ho2, hof⟩ := id hH
  have C := hG.1
  have hsa := hG.2.1
  have hx := C.1
  have hb := C.2.1
  obtain ⟨e0, he0, fs0, rfl, -, -⟩ := hI.1.at (a := 0) (c := .inr (10, _)) rfl
  refine lv_aload_n hx hb (kd_at lt_33_d 0 rfl) rfl (lv_at hl 1 rfl) ?_
  refine lw_push (j := 1) (jj := 1) hG hS hl (by omega) rfl (kd_at lt_33_d 1 rfl) (kd_at lt_33_d 2 rfl) (kd_at lt_33_d 3 rfl) (kd_at lt_33_d 4 rfl) (kd_at lt_33_d 5 rfl) ?_
  refine lw_push (j := 2) (jj := 2) hG hS hl (by omega) rfl (kd_at lt_33_d 6 rfl) (kd_at lt_33_d 7 rfl) (kd_at lt_33_d 8 rfl) (kd_at lt_33_d 9 rfl) (kd_at lt_33_d 10 rfl) ?_
  refine lw_hq C hsa (z := 143) (na := 2) (cp := 158) (a := 0) (As := [.int (xs (i + 1)), .int (xs (i + 2))]) (d := 24) (restM := []) pz_143 lk_x33 ll_x33 rfl he0 (Nat.le_of_ble_eq_true rfl) (by decide) rfl (lx_33 hI (xs (i + 1)) (xs (i + 2))) (fun r w' q => by rw [q.1.1.1, hI.1.1]) hP hD hS hl.1 (by decide) (by decide) (by show cu ≤ 601024; omega) (by show su ≤ 7293034; omega) (by decide) (kd_at lt_33_d 11 rfl) ?_
  rintro r1 w1 H1 locs1 ⟨hI1, v1, rfl⟩ hP1 hD1 hS1 hz1 hk1
  have hH1 := lw_oq hG hH hI1 hP1 hD1 hS1 hz1 hk1
  obtain ⟨e1, he1, fs1, rfl, -, -⟩ := hI1.1.at (a := 61) (c := .inr (11, _)) rfl
  refine lv_pop hx hb (kd_at lt_33_d 12 rfl) rfl ?_
  refine lv_aload_n hx hb (kd_at lt_33_d 13 rfl) rfl (lv_at hl 2 rfl) ?_
  refine lw_push (j := 1) (jj := 1) hG hS1 hl (by omega) rfl (kd_at lt_33_d 14 rfl) (kd_at lt_33_d 15 rfl) (kd_at lt_33_d 16 rfl) (kd_at lt_33_d 17 rfl) (kd_at lt_33_d 18 rfl) ?_
  refine lw_push (j := 2) (jj := 2) hG hS1 hl (by omega) rfl (kd_at lt_33_d 19 rfl) (kd_at lt_33_d 20 rfl) (kd_at lt_33_d 21 rfl) (kd_at lt_33_d 22 rfl) (kd_at lt_33_d 23 rfl) ?_
  refine lw_hq C hsa (z := 264) (na := 2) (cp := 161) (a := 61) (As := [.int (xs (i + 1)), .int (xs (i + 2))]) (d := 24) (restM := []) pz_264 lk_m33 ll_m33 rfl he1 (Nat.le_of_ble_eq_true rfl) (by decide) rfl (lm_33 hI1 (xs (i + 1)) (xs (i + 2))) (fun r w' q => by rw [q.1.1.1, hI1.1.1]) hP1 hD1 hS1 hl.1 (by decide) (by decide) (by show cu ≤ 601024; omega) (by show su ≤ 7293034; omega) (by decide) (kd_at lt_33_d 24 rfl) ?_
  rintro r2 w2 H2 locs2 ⟨hI2, v2, rfl⟩ hP2 hD2 hS2 hz2 hk2
  have hH2 := lw_oq hG hH1 hI2 hP2 hD2 hS2 hz2 hk2
  refine lv_pop hx hb (kd_at lt_33_d 25 rfl) rfl ?_
  refine lv_goto (tgt := 1505) hx hb (kd_at lt_33_d 26 rfl) rfl ?_
  exact W.widen (by omega) (by omega) (kend H2 locs2 w2 ls hH2 hl)
def lt_34 : List (Nat × Instr × Nat) := [(1293, .aload_n 1, 1), (1294, .aload_n 0, 1), (1295, .iload 4, 2), (1297, .iconst 1, 1), (1298, .iadd, 1), (1299, .iaload, 1), (1300, .aload_n 0, 1), (1301, .iload 4, 2), (1303, .iconst 2, 1), (1304, .iadd, 1), (1305, .iaload, 1), (1306, .aload_n 0, 1), (1307, .iload 4, 2), (1309, .iconst 3, 1), (1310, .iadd, 1), (1311, .iaload, 1), (1312, .invokevirtual 162, 3), (1315, .pop, 1), (1316, .aload_n 2, 1), (1317, .aload_n 0, 1), (1318, .iload 4, 2), (1320, .iconst 1, 1), (1321, .iadd, 1), (1322, .iaload, 1), (1323, .aload_n 0, 1), (1324, .iload 4, 2), (1326, .iconst 2, 1), (1327, .iadd, 1), (1328, .iaload, 1), (1329, .aload_n 0, 1), (1330, .iload 4, 2), (1332, .iconst 3, 1), (1333, .iadd, 1), (1334, .iaload, 1), (1335, .invokevirtual 165, 3), (1338, .pop, 1), (1339, .goto 166, 3)]
set_option maxRecDepth 100000 in
theorem lt_34_d : (lt_34.all fun q => decide (decode code q.1 = .ok (q.2.1, q.2.2))) = true := by decide +kernel
theorem ll_x34 : Cond.methodLink "ReadBoundLaw" 162 mn_144 ∈ lw_tbl := List.mem_of_getElem? (i := 992) (by decide +kernel)
theorem ll_m34 : Cond.methodLink "ReadBoundLaw" 165 mn_265 ∈ lw_tbl := List.mem_of_getElem? (i := 1773) (by decide +kernel)
set_option maxRecDepth 100000 in
theorem lc_case34 {p : Program} {l : Launch} {e : Env} {s : State} {m : MethodId} {below : List Frame} {meth : Method} {c : Code} {Q : State → Prop} {D : va_G} {cA : Nat → ClassId} {sa sv : Nat} {ad : Nat → Nat} {b N oq : Nat} {xs : Nat → Int32} {cu su : Nat} {H : Heap} {locs : List Loc} {ls : Array Slot} {w : pi_W} {i : Nat} (hG : lw_G p s m c meth D cA sa sv ad b N oq xs) (hH : lw_H s D cA ad oq w H locs) (hl : lv_has ls 7 (lw_L ad b oq i)) (hi : i + 6 ≤ N) (hcu : cu + 6 ≤ 601024) (hsu : su + 36 ≤ 7293034) (kend : ∀ (H1 : Heap) (locs1 : List Loc) (w1 : pi_W) (ls1 : Array Slot), lw_H s D cA ad oq w1 H1 locs1 → lv_has ls1 7 (lw_L ad b oq i) → W p l e room_1 s m #[Value.ref b] below meth c H1 locs1 (cu + 6) (su + 36) Q (F0 m 1505 ls1 [])) : W p l e room_1 s m #[Value.ref b] below meth c H locs cu su Q (F0 m 1293 ls []) := by
  obtain ⟨hI, hP, hD, hS, ho1, ho2, hof⟩ := id hH
  have C := hG.1
  have hsa := hG.2.1
  have hx := C.1
  have hb := C.2.1
  obtain ⟨e0, he0, fs0, rfl, -, -⟩ := hI.1.at (a := 0) (c := .inr (10, _)) rfl
  refine lv_aload_n hx hb (kd_at lt_34_d 0 rfl) rfl (lv_at hl 1 rfl) ?_
  refine lw_push (j := 1) (jj := 1) hG hS hl (by omega) rfl (kd_at lt_34_d 1 rfl) (kd_at lt_34_d 2 rfl) (kd_at lt_34_d 3 rfl) (kd_at lt_34_d 4 rfl) (kd_at lt_34_d 5 rfl) ?_
  refine lw_push (j := 2) (jj := 2) hG hS hl (by omega) rfl (kd_at lt_34_d 6 rfl) (kd_at lt_34_d 7 rfl) (kd_at lt_34_d 8 rfl) (kd_at lt_34_d 9 rfl) (kd_at lt_34_d 10 rfl) ?_
  refine lw_push (j := 3) (jj := 3) hG hS hl (by omega) rfl (kd_at lt_34_d 11 rfl) (kd_at lt_34_d 12 rfl) (kd_at lt_34_d 13 rfl) (kd_at lt_34_d 14 rfl) (kd_at lt_34_d 15 rfl) ?_
  refine lw_hq C hsa (z := 144) (na := 3) (cp := 162) (a := 0) (As := [.int (xs (i + 1)), .int (xs (i + 2)), .int (xs (i + 3))]) (d := 24) (restM := []) pz_144 lk_x34 ll_x34 rfl he0 (Nat.le_of_ble_eq_true rfl) (by decide) rfl (lx_34 hI (xs (i + 1)) (xs (i + 2)) (xs (i + 3))) (fun r w' q => by rw [q.1.1.1, hI.1.1]) hP hD hS hl.1 (by decide) (by decide) (by show cu ≤ 601024; omega) (by show su ≤ 7293034; omega) (by decide) (kd_at lt_34_d 16 rfl) ?_
  rintro r1 w1 H1 locs1 ⟨hI1, v1, rfl⟩ hP1 hD1 hS1 hz1 hk1
  have hH1 := lw_oq hG hH hI1 hP1 hD1 hS1 hz1 hk1
  obtain ⟨e1, he1, fs1, rfl, -, -⟩ := hI1.1.at (a := 61) (c := .inr (11, _)) rfl
  refine lv_pop hx hb (kd_at lt_34_d 17 rfl) rfl ?_
  refine lv_aload_n hx hb (kd_at lt_34_d 18 rfl) rfl (lv_at hl 2 rfl) ?_
  refine lw_push (j := 1) (jj := 1) hG hS1 hl (by omega) rfl (kd_at lt_34_d 19 rfl) (kd_at lt_34_d 20 rfl) (kd_at lt_34_d 21 rfl) (kd_at lt_34_d 22 rfl) (kd_at lt_34_d 23 rfl) ?_
  refine lw_push (j := 2) (jj := 2) hG hS1 hl (by omega) rfl (kd_at lt_34_d 24 rfl) (kd_at lt_34_d 25 rfl) (kd_at lt_34_d 26 rfl) (kd_at lt_34_d 27 rfl) (kd_at lt_34_d 28 rfl) ?_
  refine lw_push (j := 3) (jj := 3) hG hS1 hl (by omega) rfl (kd_at lt_34_d 29 rfl) (kd_at lt_34_d 30 rfl) (kd_at lt_34_d 31 rfl) (kd_at lt_34_d 32 rfl) (kd_at lt_34_d 33 rfl) ?_
  refine lw_hq C hsa (z := 265) (na := 3) (cp := 165) (a := 61) (As := [.int (xs (i + 1)), .int (xs (i + 2)), .int (xs (i + 3))]) (d := 24) (restM := []) pz_265 lk_m34 ll_m34 rfl he1 (Nat.le_of_ble_eq_true rfl) (by decide) rfl (lm_34 hI1 (xs (i + 1)) (xs (i + 2)) (xs (i + 3))) (fun r w' q => by rw [q.1.1.1, hI1.1.1]) hP1 hD1 hS1 hl.1 (by decide) (by decide) (by show cu ≤ 601024; omega) (by show su ≤ 7293034; omega) (by decide) (kd_at lt_34_d 34 rfl) ?_
  rintro r2 w2 H2 locs2 ⟨hI2, v2, rfl⟩ hP2 hD2 hS2 hz2 hk2
  have hH2 := lw_oq hG hH1 hI2 hP2 hD2 hS2 hz2 hk2
  refine lv_pop hx hb (kd_at lt_34_d 35 rfl) rfl ?_
  refine lv_goto (tgt := 1505) hx hb (kd_at lt_34_d 36 rfl) rfl ?_
  exact W.widen (by omega) (by omega) (kend H2 locs2 w2 ls hH2 hl)
def lt_35 : List (Nat × Instr × Nat) := [(1342, .aload_n 1, 1), (1343, .aload_n 0, 1), (1344, .iload 4, 2), (1346, .iconst 1, 1), (1347, .iadd, 1), (1348, .iaload, 1), (1349, .invokevirtual 166, 3), (1352, .pop, 1), (1353, .aload_n 2, 1), (1354, .aload_n 0, 1), (1355, .iload 4, 2), (1357, .iconst 1, 1), (1358, .iadd, 1), (1359, .iaload, 1), (1360, .invokevirtual 169, 3), (1363, .pop, 1), (1364, .goto 141, 3)]
set_option maxRecDepth 100000 in
theorem lt_35_d : (lt_35.all fun q => decide (decode code q.1 = .ok (q.2.1, q.2.2))) = true := by decide +kernel
theorem ll_x35 : Cond.methodLink "ReadBoundLaw" 166 mn_145 ∈ lw_tbl := List.mem_of_getElem? (i := 996) (by decide +kernel)
theorem ll_m35 : Cond.methodLink "ReadBoundLaw" 169 mn_270 ∈ lw_tbl := List.mem_of_getElem? (i := 1777) (by decide +kernel)
set_option maxRecDepth 100000 in
theorem lc_case35 {p : Program} {l : Launch} {e : Env} {s : State} {m : MethodId} {below : List Frame} {meth : Method} {c : Code} {Q : State → Prop} {D : va_G} {cA : Nat → ClassId} {sa sv : Nat} {ad : Nat → Nat} {b N oq : Nat} {xs : Nat → Int32} {cu su : Nat} {H : Heap} {locs : List Loc} {ls : Array Slot} {w : pi_W} {i : Nat} (hG : lw_G p s m c meth D cA sa sv ad b N oq xs) (hH : lw_H s D cA ad oq w H locs) (hl : lv_has ls 7 (lw_L ad b oq i)) (hi : i + 6 ≤ N) (hcu : cu + 6 ≤ 601024) (hsu : su + 36 ≤ 7293034) (kend : ∀ (H1 : Heap) (locs1 : List Loc) (w1 : pi_W) (ls1 : Array Slot), lw_H s D cA ad oq w1 H1 locs1 → lv_has ls1 7 (lw_L ad b oq i) → W p l e room_1 s m #[Value.ref b] below meth c H1 locs1 (cu + 6) (su + 36) Q (F0 m 1505 ls1 [])) : W p l e room_1 s m #[Value.ref b] below meth c H locs cu su Q (F0 m 1342 ls []) := by
  obtain ⟨hI, hP, hD, hS, ho1, ho2, hof⟩ := id hH
  have C := hG.1
  have hsa := hG.2.1
  have hx := C.1
  have hb := C.2.1
  obtain ⟨e0, he0, fs0, rfl, -, -⟩ := hI.1.at (a := 0) (c := .inr (10, _)) rfl
  refine lv_aload_n hx hb (kd_at lt_35_d 0 rfl) rfl (lv_at hl 1 rfl) ?_
  refine lw_push (j := 1) (jj := 1) hG hS hl (by omega) rfl (kd_at lt_35_d 1 rfl) (kd_at lt_35_d 2 rfl) (kd_at lt_35_d 3 rfl) (kd_at lt_35_d 4 rfl) (kd_at lt_35_d 5 rfl) ?_
  refine lw_hq C hsa (z := 145) (na := 1) (cp := 166) (a := 0) (As := [.int (xs (i + 1))]) (d := 24) (restM := []) pz_145 lk_x35 ll_x35 rfl he0 (Nat.le_of_ble_eq_true rfl) (by decide) rfl (lx_35 hI (xs (i + 1))) (fun r w' q => by rw [q.1.1.1, hI.1.1]) hP hD hS hl.1 (by decide) (by decide) (by show cu ≤ 601024; omega) (by show su ≤ 7293034; omega) (by decide) (kd_at lt_35_d 6 rfl) ?_
  rintro r1 w1 H1 locs1 ⟨hI1, v1, rfl⟩ hP1 hD1 hS1 hz1 hk1
  have hH1 := lw_oq hG hH hI1 hP1 hD1 hS1 hz1 hk1
  obtain ⟨e1, he1, fs1, rfl, -, -⟩ := hI1.1.at (a := 61) (c := .inr (11, _)) rfl
  refine lv_pop hx hb (kd_at lt_35_d 7 rfl) rfl ?_
  refine lv_aload_n hx hb (kd_at lt_35_d 8 rfl) rfl (lv_at hl 2 rfl) ?_
  refine lw_push (j := 1) (jj := 1) hG hS1 hl (by omega) rfl (kd_at lt_35_d 9 rfl) (kd_at lt_35_d 10 rfl) (kd_at lt_35_d 11 rfl) (kd_at lt_35_d 12 rfl) (kd_at lt_35_d 13 rfl) ?_
  refine lw_hq C hsa (z := 270) (na := 1) (cp := 169) (a := 61) (As := [.int (xs (i + 1))]) (d := 24) (restM := []) pz_270 lk_m35 ll_m35 rfl he1 (Nat.le_of_ble_eq_true rfl) (by decide) rfl (lm_35 hI1 (xs (i + 1))) (fun r w' q => by rw [q.1.1.1, hI1.1.1]) hP1 hD1 hS1 hl.1 (by decide) (by decide) (by show cu ≤ 601024; omega) (by show su ≤ 7293034; omega) (by decide) (kd_at lt_35_d 14 rfl) ?_
  rintro r2 w2 H2 locs2 ⟨hI2, v2, rfl⟩ hP2 hD2 hS2 hz2 hk2
  have hH2 := lw_oq hG hH1 hI2 hP2 hD2 hS2 hz2 hk2
  refine lv_pop hx hb (kd_at lt_35_d 15 rfl) rfl ?_
  refine lv_goto (tgt := 1505) hx hb (kd_at lt_35_d 16 rfl) rfl ?_
  exact W.widen (by omega) (by omega) (kend H2 locs2 w2 ls hH2 hl)
def lt_36 : List (Nat × Instr × Nat) := [(1367, .aload_n 1, 1), (1368, .aload_n 0, 1), (1369, .iload 4, 2), (1371, .iconst 1, 1), (1372, .iadd, 1), (1373, .iaload, 1), (1374, .invokevirtual 170, 3), (1377, .pop, 1), (1378, .aload_n 2, 1), (1379, .aload_n 0, 1), (1380, .iload 4, 2), (1382, .iconst 1, 1), (1383, .iadd, 1), (1384, .iaload, 1), (1385, .invokevirtual 173, 3), (1388, .pop, 1), (1389, .goto 116, 3)]
set_option maxRecDepth 100000 in
theorem lt_36_d : (lt_36.all fun q => decide (decode code q.1 = .ok (q.2.1, q.2.2))) = true := by decide +kernel
theorem ll_x36 : Cond.methodLink "ReadBoundLaw" 170 mn_146 ∈ lw_tbl := List.mem_of_getElem? (i := 1034) (by decide +kernel)
theorem ll_m36 : Cond.methodLink "ReadBoundLaw" 173 mn_271 ∈ lw_tbl := List.mem_of_getElem? (i := 1797) (by decide +kernel)
set_option maxRecDepth 100000 in
theorem lc_case36 {p : Program} {l : Launch} {e : Env} {s : State} {m : MethodId} {below : List Frame} {meth : Method} {c : Code} {Q : State → Prop} {D : va_G} {cA : Nat → ClassId} {sa sv : Nat} {ad : Nat → Nat} {b N oq : Nat} {xs : Nat → Int32} {cu su : Nat} {H : Heap} {locs : List Loc} {ls : Array Slot} {w : pi_W} {i : Nat} (hG : lw_G p s m c meth D cA sa sv ad b N oq xs) (hH : lw_H s D cA ad oq w H locs) (hl : lv_has ls 7 (lw_L ad b oq i)) (hi : i + 6 ≤ N) (hcu : cu + 6 ≤ 601024) (hsu : su + 36 ≤ 7293034) (kend : ∀ (H1 : Heap) (locs1 : List Loc) (w1 : pi_W) (ls1 : Array Slot), lw_H s D cA ad oq w1 H1 locs1 → lv_has ls1 7 (lw_L ad b oq i) → W p l e room_1 s m #[Value.ref b] below meth c H1 locs1 (cu + 6) (su + 36) Q (F0 m 1505 ls1 [])) : W p l e room_1 s m #[Value.ref b] below meth c H locs cu su Q (F0 m 1367 ls []) := by
  obtain ⟨hI, hP, hD, hS, ho1, ho2, hof⟩ := id hH
  have C := hG.1
  have hsa := hG.2.1
  have hx := C.1
  have hb := C.2.1
  obtain ⟨e0, he0, fs0, rfl, -, -⟩ := hI.1.at (a := 0) (c := .inr (10, _)) rfl
  refine lv_aload_n hx hb (kd_at lt_36_d 0 rfl) rfl (lv_at hl 1 rfl) ?_
  refine lw_push (j := 1) (jj := 1) hG hS hl (by omega) rfl (kd_at lt_36_d 1 rfl) (kd_at lt_36_d 2 rfl) (kd_at lt_36_d 3 rfl) (kd_at lt_36_d 4 rfl) (kd_at lt_36_d 5 rfl) ?_
  refine lw_hq C hsa (z := 146) (na := 1) (cp := 170) (a := 0) (As := [.int (xs (i + 1))]) (d := 24) (restM := []) pz_146 lk_x36 ll_x36 rfl he0 (Nat.le_of_ble_eq_true rfl) (by decide) rfl (lx_36 hI (xs (i + 1))) (fun r w' q => by rw [q.1.1.1, hI.1.1]) hP hD hS hl.1 (by decide) (by decide) (by show cu ≤ 601024; omega) (by show su ≤ 7293034; omega) (by decide) (kd_at lt_36_d 6 rfl) ?_
  rintro r1 w1 H1 locs1 ⟨hI1, v1, rfl⟩ hP1 hD1 hS1 hz1 hk1
  have hH1 := lw_oq hG hH hI1 hP1 hD1 hS1 hz1 hk1
  obtain ⟨e1, he1, fs1, rfl, -, -⟩ := hI1.1.at (a := 61) (c := .inr (11, _)) rfl
  refine lv_pop hx hb (kd_at lt_36_d 7 rfl) rfl ?_
  refine lv_aload_n hx hb (kd_at lt_36_d 8 rfl) rfl (lv_at hl 2 rfl) ?_
  refine lw_push (j := 1) (jj := 1) hG hS1 hl (by omega) rfl (kd_at lt_36_d 9 rfl) (kd_at lt_36_d 10 rfl) (kd_at lt_36_d 11 rfl) (kd_at lt_36_d 12 rfl) (kd_at lt_36_d 13 rfl) ?_
  refine lw_hq C hsa (z := 271) (na := 1) (cp := 173) (a := 61) (As := [.int (xs (i + 1))]) (d := 24) (restM := []) pz_271 lk_m36 ll_m36 rfl he1 (Nat.le_of_ble_eq_true rfl) (by decide) rfl (lm_36 hI1 (xs (i + 1))) (fun r w' q => by rw [q.1.1.1, hI1.1.1]) hP1 hD1 hS1 hl.1 (by decide) (by decide) (by show cu ≤ 601024; omega) (by show su ≤ 7293034; omega) (by decide) (kd_at lt_36_d 14 rfl) ?_
  rintro r2 w2 H2 locs2 ⟨hI2, v2, rfl⟩ hP2 hD2 hS2 hz2 hk2
  have hH2 := lw_oq hG hH1 hI2 hP2 hD2 hS2 hz2 hk2
  refine lv_pop hx hb (kd_at lt_36_d 15 rfl) rfl ?_
  refine lv_goto (tgt := 1505) hx hb (kd_at lt_36_d 16 rfl) rfl ?_
  exact W.widen (by omega) (by omega) (kend H2 locs2 w2 ls hH2 hl)
def lt_37 : List (Nat × Instr × Nat) := [(1392, .aload_n 1, 1), (1393, .invokevirtual 174, 3), (1396, .pop, 1), (1397, .aload_n 2, 1), (1398, .invokevirtual 177, 3), (1401, .pop, 1), (1402, .goto 103, 3)]
set_option maxRecDepth 100000 in
theorem lt_37_d : (lt_37.all fun q => decide (decode code q.1 = .ok (q.2.1, q.2.2))) = true := by decide +kernel
theorem ll_x37 : Cond.methodLink "ReadBoundLaw" 174 mn_147 ∈ lw_tbl := List.mem_of_getElem? (i := 1038) (by decide +kernel)
theorem ll_m37 : Cond.methodLink "ReadBoundLaw" 177 mn_278 ∈ lw_tbl := List.mem_of_getElem? (i := 1801) (by decide +kernel)
set_option maxRecDepth 100000 in
theorem lc_case37 {p : Program} {l : Launch} {e : Env} {s : State} {m : MethodId} {below : List Frame} {meth : Method} {c : Code} {Q : State → Prop} {D : va_G} {cA : Nat → ClassId} {sa sv : Nat} {ad : Nat → Nat} {b N oq : Nat} {xs : Nat → Int32} {cu su : Nat} {H : Heap} {locs : List Loc} {ls : Array Slot} {w : pi_W} {i : Nat} (hG : lw_G p s m c meth D cA sa sv ad b N oq xs) (hH : lw_H s D cA ad oq w H locs) (hl : lv_has ls 7 (lw_L ad b oq i)) (hi : i + 6 ≤ N) (hcu : cu + 6 ≤ 601024) (hsu : su + 36 ≤ 7293034) (kend : ∀ (H1 : Heap) (locs1 : List Loc) (w1 : pi_W) (ls1 : Array Slot), lw_H s D cA ad oq w1 H1 locs1 → lv_has ls1 7 (lw_L ad b oq i) → W p l e room_1 s m #[Value.ref b] below meth c H1 locs1 (cu + 6) (su + 36) Q (F0 m 1505 ls1 [])) : W p l e room_1 s m #[Value.ref b] below meth c H locs cu su Q (F0 m 1392 ls []) := by
  obtain ⟨hI, hP, hD, hS, ho1, ho2, hof⟩ := id hH
  have C := hG.1
  have hsa := hG.2.1
  have hx := C.1
  have hb := C.2.1
  obtain ⟨e0, he0, fs0, rfl, -, -⟩ := hI.1.at (a := 0) (c := .inr (10, _)) rfl
  refine lv_aload_n hx hb (kd_at lt_37_d 0 rfl) rfl (lv_at hl 1 rfl) ?_
  refine lw_hq C hsa (z := 147) (na := 0) (cp := 174) (a := 0) (As := []) (d := 24) (restM := []) pz_147 lk_x37 ll_x37 rfl he0 (Nat.le_of_ble_eq_true rfl) (by decide) rfl (lx_37 hI) (fun r w' q => by rw [q.1.1.1, hI.1.1]) hP hD hS hl.1 (by decide) (by decide) (by show cu ≤ 601024; omega) (by show su ≤ 7293034; omega) (by decide) (kd_at lt_37_d 1 rfl) ?_
  rintro r1 w1 H1 locs1 ⟨hI1, v1, rfl⟩ hP1 hD1 hS1 hz1 hk1
  have hH1 := lw_oq hG hH hI1 hP1 hD1 hS1 hz1 hk1
  obtain ⟨e1, he1, fs1, rfl, -, -⟩ := hI1.1.at (a := 61) (c := .inr (11, _)) rfl
  refine lv_pop hx hb (kd_at lt_37_d 2 rfl) rfl ?_
  refine lv_aload_n hx hb (kd_at lt_37_d 3 rfl) rfl (lv_at hl 2 rfl) ?_
  refine lw_hq C hsa (z := 278) (na := 0) (cp := 177) (a := 61) (As := []) (d := 24) (restM := []) pz_278 lk_m37 ll_m37 rfl he1 (Nat.le_of_ble_eq_true rfl) (by decide) rfl (lm_37 hI1) (fun r w' q => by rw [q.1.1.1, hI1.1.1]) hP1 hD1 hS1 hl.1 (by decide) (by decide) (by show cu ≤ 601024; omega) (by show su ≤ 7293034; omega) (by decide) (kd_at lt_37_d 4 rfl) ?_
  rintro r2 w2 H2 locs2 ⟨hI2, v2, rfl⟩ hP2 hD2 hS2 hz2 hk2
  have hH2 := lw_oq hG hH1 hI2 hP2 hD2 hS2 hz2 hk2
  refine lv_pop hx hb (kd_at lt_37_d 5 rfl) rfl ?_
  refine lv_goto (tgt := 1505) hx hb (kd_at lt_37_d 6 rfl) rfl ?_
  exact W.widen (by omega) (by omega) (kend H2 locs2 w2 ls hH2 hl)
def lt_38 : List (Nat × Instr × Nat) := [(1405, .aload_n 1, 1), (1406, .aload_n 0, 1), (1407, .iload 4, 2), (1409, .iconst 1, 1), (1410, .iadd, 1), (1411, .iaload, 1), (1412, .invokevirtual 178, 3), (1415, .pop, 1), (1416, .aload_n 2, 1), (1417, .aload_n 0, 1), (1418, .iload 4, 2), (1420, .iconst 1, 1), (1421, .iadd, 1), (1422, .iaload, 1), (1423, .invokevirtual 181, 3), (1426, .pop, 1), (1427, .goto 78, 3)]
set_option maxRecDepth 100000 in
theorem lt_38_d : (lt_38.all fun q => decide (decode code q.1 = .ok (q.2.1, q.2.2))) = true := by decide +kernel
theorem ll_x38 : Cond.methodLink "ReadBoundLaw" 178 mn_148 ∈ lw_tbl := List.mem_of_getElem? (i := 1083) (by decide +kernel)
theorem ll_m38 : Cond.methodLink "ReadBoundLaw" 181 mn_281 ∈ lw_tbl := List.mem_of_getElem? (i := 1829) (by decide +kernel)
set_option maxRecDepth 100000 in
theorem lc_case38 {p : Program} {l : Launch} {e : Env} {s : State} {m : MethodId} {below : List Frame} {meth : Method} {c : Code} {Q : State → Prop} {D : va_G} {cA : Nat → ClassId} {sa sv : Nat} {ad : Nat → Nat} {b N oq : Nat} {xs : Nat → Int32} {cu su : Nat} {H : Heap} {locs : List Loc} {ls : Array Slot} {w : pi_W} {i : Nat} (hG : lw_G p s m c meth D cA sa sv ad b N oq xs) (hH : lw_H s D cA ad oq w H locs) (hl : lv_has ls 7 (lw_L ad b oq i)) (hi : i + 6 ≤ N) (hcu : cu + 6 ≤ 601024) (hsu : su + 36 ≤ 7293034) (kend : ∀ (H1 : Heap) (locs1 : List Loc) (w1 : pi_W) (ls1 : Array Slot), lw_H s D cA ad oq w1 H1 locs1 → lv_has ls1 7 (lw_L ad b oq i) → W p l e room_1 s m #[Value.ref b] below meth c H1 locs1 (cu + 6) (su + 36) Q (F0 m 1505 ls1 [])) : W p l e room_1 s m #[Value.ref b] below meth c H locs cu su Q (F0 m 1405 ls []) := by
  obtain ⟨hI, hP, hD, hS, ho1, ho2, hof⟩ := id hH
  have C := hG.1
  have hsa := hG.2.1
  have hx := C.1
  have hb := C.2.1
  obtain ⟨e0, he0, fs0, rfl, -, -⟩ := hI.1.at (a := 0) (c := .inr (10, _)) rfl
  refine lv_aload_n hx hb (kd_at lt_38_d 0 rfl) rfl (lv_at hl 1 rfl) ?_
  refine lw_push (j := 1) (jj := 1) hG hS hl (by omega) rfl (kd_at lt_38_d 1 rfl) (kd_at lt_38_d 2 rfl) (kd_at lt_38_d 3 rfl) (kd_at lt_38_d 4 rfl) (kd_at lt_38_d 5 rfl) ?_
  refine lw_hq C hsa (z := 148) (na := 1) (cp := 178) (a := 0) (As := [.int (xs (i + 1))]) (d := 24) (restM := []) pz_148 lk_x38 ll_x38 rfl he0 (Nat.le_of_ble_eq_true rfl) (by decide) rfl (lx_38 hI (xs (i + 1))) (fun r w' q => by rw [q.1.1.1, hI.1.1]) hP hD hS hl.1 (by decide) (by decide) (by show cu ≤ 601024; omega) (by show su ≤ 7293034; omega) (by decide) (kd_at lt_38_d 6 rfl) ?_
  rintro r1 w1 H1 locs1 ⟨hI1, v1, rfl⟩ hP1 hD1 hS1 hz1 hk1
  have hH1 := lw_oq hG hH hI1 hP1 hD1 hS1 hz1 hk1
  obtain ⟨e1, he1, fs1, rfl, -, -⟩ := hI1.1.at (a := 61) (c := .inr (11, _)) rfl
  refine lv_pop hx hb (kd_at lt_38_d 7 rfl) rfl ?_
  refine lv_aload_n hx hb (kd_at lt_38_d 8 rfl) rfl (lv_at hl 2 rfl) ?_
  refine lw_push (j := 1) (jj := 1) hG hS1 hl (by omega) rfl (kd_at lt_38_d 9 rfl) (kd_at lt_38_d 10 rfl) (kd_at lt_38_d 11 rfl) (kd_at lt_38_d 12 rfl) (kd_at lt_38_d 13 rfl) ?_
  refine lw_hq C hsa (z := 281) (na := 1) (cp := 181) (a := 61) (As := [.int (xs (i + 1))]) (d := 24) (restM := []) pz_281 lk_m38 ll_m38 rfl he1 (Nat.le_of_ble_eq_true rfl) (by decide) rfl (lm_38 hI1 (xs (i + 1))) (fun r w' q => by rw [q.1.1.1, hI1.1.1]) hP1 hD1 hS1 hl.1 (by decide) (by decide) (by show cu ≤ 601024; omega) (by show su ≤ 7293034; omega) (by decide) (kd_at lt_38_d 14 rfl) ?_
  rintro r2 w2 H2 locs2 ⟨hI2, v2, rfl⟩ hP2 hD2 hS2 hz2 hk2
  have hH2 := lw_oq hG hH1 hI2 hP2 hD2 hS2 hz2 hk2
  refine lv_pop hx hb (kd_at lt_38_d 15 rfl) rfl ?_
  refine lv_goto (tgt := 1505) hx hb (kd_at lt_38_d 16 rfl) rfl ?_
  exact W.widen (by omega) (by omega) (kend H2 locs2 w2 ls hH2 hl)
def lt_39 : List (Nat × Instr × Nat) := [(1430, .aload_n 1, 1), (1431, .aload_n 0, 1), (1432, .iload 4, 2), (1434, .iconst 1, 1), (1435, .iadd, 1), (1436, .iaload, 1), (1437, .invokevirtual 182, 3), (1440, .aload_n 2, 1), (1441, .aload_n 0, 1), (1442, .iload 4, 2), (1444, .iconst 1, 1), (1445, .iadd, 1), (1446, .iaload, 1), (1447, .invokevirtual 185, 3), (1450, .if_icmp .eq 55, 3), (1453, .iconst 0, 1), (1454, .ireturn, 1)]
set_option maxRecDepth 100000 in
theorem lt_39_d : (lt_39.all fun q => decide (decode code q.1 = .ok (q.2.1, q.2.2))) = true := by decide +kernel
theorem ll_x39 : Cond.methodLink "ReadBoundLaw" 182 mn_149 ∈ lw_tbl := List.mem_of_getElem? (i := 1107) (by decide +kernel)
theorem ll_m39 : Cond.methodLink "ReadBoundLaw" 185 mn_282 ∈ lw_tbl := List.mem_of_getElem? (i := 1841) (by decide +kernel)
set_option maxRecDepth 100000 in
theorem lc_case39 {p : Program} {l : Launch} {e : Env} {s : State} {m : MethodId} {below : List Frame} {meth : Method} {c : Code} {Q : State → Prop} {D : va_G} {cA : Nat → ClassId} {sa sv : Nat} {ad : Nat → Nat} {b N oq : Nat} {xs : Nat → Int32} {cu su : Nat} {H : Heap} {locs : List Loc} {ls : Array Slot} {w : pi_W} {i : Nat} (hG : lw_G p s m c meth D cA sa sv ad b N oq xs) (hH : lw_H s D cA ad oq w H locs) (hl : lv_has ls 7 (lw_L ad b oq i)) (hi : i + 6 ≤ N) (hcu : cu + 6 ≤ 601024) (hsu : su + 36 ≤ 7293034) (kend : ∀ (H1 : Heap) (locs1 : List Loc) (w1 : pi_W) (ls1 : Array Slot), lw_H s D cA ad oq w1 H1 locs1 → lv_has ls1 7 (lw_L ad b oq i) → W p l e room_1 s m #[Value.ref b] below meth c H1 locs1 (cu + 6) (su + 36) Q (F0 m 1505 ls1 [])) : W p l e room_1 s m #[Value.ref b] below meth c H locs cu su Q (F0 m 1430 ls []) := by
  obtain ⟨hI, hP, hD, hS, ho1, ho2, hof⟩ := id hH
  have C := hG.1
  have hsa := hG.2.1
  have hx := C.1
  have hb := C.2.1
  obtain ⟨e0, he0, fs0, rfl, -, -⟩ := hI.1.at (a := 0) (c := .inr (10, _)) rfl
  refine lv_aload_n hx hb (kd_at lt_39_d 0 rfl) rfl (lv_at hl 1 rfl) ?_
  refine lw_push (j := 1) (jj := 1) hG hS hl (by omega) rfl (kd_at lt_39_d 1 rfl) (kd_at lt_39_d 2 rfl) (kd_at lt_39_d 3 rfl) (kd_at lt_39_d 4 rfl) (kd_at lt_39_d 5 rfl) ?_
  refine lw_hq C hsa (z := 149) (na := 1) (cp := 182) (a := 0) (As := [.int (xs (i + 1))]) (d := 24) (restM := []) pz_149 lk_x39 ll_x39 rfl he0 (Nat.le_of_ble_eq_true rfl) (by decide) rfl (lx_im hI (xs (i + 1))) (fun r w' q => by rw [q.1.1.1, hI.1.1]) hP hD hS hl.1 (by decide) (by decide) (by show cu ≤ 601024; omega) (by show su ≤ 7293034; omega) (by decide) (kd_at lt_39_d 6 rfl) ?_
  rintro r1 w1 H1 locs1 ⟨hI1, rfl⟩ hP1 hD1 hS1 hz1 hk1
  have hH1 := lw_oq hG hH hI1 hP1 hD1 hS1 hz1 hk1
  obtain ⟨e1, he1, fs1, rfl, -, -⟩ := hI1.1.at (a := 61) (c := .inr (11, _)) rfl
  refine lv_aload_n hx hb (kd_at lt_39_d 7 rfl) rfl (lv_at hl 2 rfl) ?_
  refine lw_push (j := 1) (jj := 1) hG hS1 hl (by omega) rfl (kd_at lt_39_d 8 rfl) (kd_at lt_39_d 9 rfl) (kd_at lt_39_d 10 rfl) (kd_at lt_39_d 11 rfl) (kd_at lt_39_d 12 rfl) ?_
  refine lw_hq C hsa (z := 282) (na := 1) (cp := 185) (a := 61) (As := [.int (xs (i + 1))]) (d := 24) (restM := [.int (lw_im (xs (i + 1)))]) pz_282 lk_m39 ll_m39 rfl he1 (Nat.le_of_ble_eq_true rfl) (by decide) rfl (lm_im hI1 (xs (i + 1))) (fun r w' q => by rw [q.1.1.1, hI1.1.1]) hP1 hD1 hS1 hl.1 (by decide) (by decide) (by show cu ≤ 601024; omega) (by show su ≤ 7293034; omega) (Nat.le_of_ble_eq_true rfl) (kd_at lt_39_d 13 rfl) ?_
  rintro r2 w2 H2 locs2 ⟨hI2, rfl⟩ hP2 hD2 hS2 hz2 hk2
  have hH2 := lw_oq hG hH1 hI2 hP2 hD2 hS2 hz2 hk2
  refine lv_icmp_eq (tgt := 1505) hx hb (kd_at lt_39_d 14 rfl) rfl (fun _ => ?_) (fun h => absurd rfl h)
  exact W.widen (by omega) (by omega) (kend H2 locs2 w2 ls hH2 hl)
def lt_40 : List (Nat × Instr × Nat) := [(1455, .aload_n 1, 1), (1456, .aload_n 0, 1), (1457, .iload 4, 2), (1459, .iconst 1, 1), (1460, .iadd, 1), (1461, .iaload, 1), (1462, .invokevirtual 186, 3), (1465, .pop, 1), (1466, .aload_n 2, 1), (1467, .aload_n 0, 1), (1468, .iload 4, 2), (1470, .iconst 1, 1), (1471, .iadd, 1), (1472, .iaload, 1), (1473, .invokevirtual 189, 3), (1476, .pop, 1), (1477, .goto 28, 3)]
set_option maxRecDepth 100000 in
theorem lt_40_d : (lt_40.all fun q => decide (decode code q.1 = .ok (q.2.1, q.2.2))) = true := by decide +kernel
theorem ll_x40 : Cond.methodLink "ReadBoundLaw" 186 mn_150 ∈ lw_tbl := List.mem_of_getElem? (i := 1122) (by decide +kernel)
theorem ll_m40 : Cond.methodLink "ReadBoundLaw" 189 mn_283 ∈ lw_tbl := List.mem_of_getElem? (i := 1845) (by decide +kernel)
set_option maxRecDepth 100000 in
theorem lc_case40 {p : Program} {l : Launch} {e : Env} {s : State} {m : MethodId} {below : List Frame} {meth : Method} {c : Code} {Q : State → Prop} {D : va_G} {cA : Nat → ClassId} {sa sv : Nat} {ad : Nat → Nat} {b N oq : Nat} {xs : Nat → Int32} {cu su : Nat} {H : Heap} {locs : List Loc} {ls : Array Slot} {w : pi_W} {i : Nat} (hG : lw_G p s m c meth D cA sa sv ad b N oq xs) (hH : lw_H s D cA ad oq w H locs) (hl : lv_has ls 7 (lw_L ad b oq i)) (hi : i + 6 ≤ N) (hcu : cu + 6 ≤ 601024) (hsu : su + 36 ≤ 7293034) (kend : ∀ (H1 : Heap) (locs1 : List Loc) (w1 : pi_W) (ls1 : Array Slot), lw_H s D cA ad oq w1 H1 locs1 → lv_has ls1 7 (lw_L ad b oq i) → W p l e room_1 s m #[Value.ref b] below meth c H1 locs1 (cu + 6) (su + 36) Q (F0 m 1505 ls1 [])) : W p l e room_1 s m #[Value.ref b] below meth c H locs cu su Q (F0 m 1455 ls []) := by
  obtain ⟨hI, hP, hD, hS, ho1, ho2, hof⟩ := id hH
  have C := hG.1
  have hsa := hG.2.1
  have hx := C.1
  have hb := C.2.1
  obtain ⟨e0, he0, fs0, rfl, -, -⟩ := hI.1.at (a := 0) (c := .inr (10, _)) rfl
  refine lv_aload_n hx hb (kd_at lt_40_d 0 rfl) rfl (lv_at hl 1 rfl) ?_
  refine lw_push (j := 1) (jj := 1) hG hS hl (by omega) rfl (kd_at lt_40_d 1 rfl) (kd_at lt_40_d 2 rfl) (kd_at lt_40_d 3 rfl) (kd_at lt_40_d 4 rfl) (kd_at lt_40_d 5 rfl) ?_
  refine lw_hq C hsa (z := 150) (na := 1) (cp := 186) (a := 0) (As := [.int (xs (i + 1))]) (d := 24) (restM := []) pz_150 lk_x40 ll_x40 rfl he0 (Nat.le_of_ble_eq_true rfl) (by decide) rfl (lx_40 hI (xs (i + 1))) (fun r w' q => by rw [q.1.1.1, hI.1.1]) hP hD hS hl.1 (by decide) (by decide) (by show cu ≤ 601024; omega) (by show su ≤ 7293034; omega) (by decide) (kd_at lt_40_d 6 rfl) ?_
  rintro r1 w1 H1 locs1 ⟨hI1, v1, rfl⟩ hP1 hD1 hS1 hz1 hk1
  have hH1 := lw_oq hG hH hI1 hP1 hD1 hS1 hz1 hk1
  obtain ⟨e1, he1, fs1, rfl, -, -⟩ := hI1.1.at (a := 61) (c := .inr (11, _)) rfl
  refine lv_pop hx hb (kd_at lt_40_d 7 rfl) rfl ?_
  refine lv_aload_n hx hb (kd_at lt_40_d 8 rfl) rfl (lv_at hl 2 rfl) ?_
  refine lw_push (j := 1) (jj := 1) hG hS1 hl (by omega) rfl (kd_at lt_40_d 9 rfl) (kd_at lt_40_d 10 rfl) (kd_at lt_40_d 11 rfl) (kd_at lt_40_d 12 rfl) (kd_at lt_40_d 13 rfl) ?_
  refine lw_hq C hsa (z := 283) (na := 1) (cp := 189) (a := 61) (As := [.int (xs (i + 1))]) (d := 24) (restM := []) pz_283 lk_m40 ll_m40 rfl he1 (Nat.le_of_ble_eq_true rfl) (by decide) rfl (lm_40 hI1 (xs (i + 1))) (fun r w' q => by rw [q.1.1.1, hI1.1.1]) hP1 hD1 hS1 hl.1 (by decide) (by decide) (by show cu ≤ 601024; omega) (by show su ≤ 7293034; omega) (by decide) (kd_at lt_40_d 14 rfl) ?_
  rintro r2 w2 H2 locs2 ⟨hI2, v2, rfl⟩ hP2 hD2 hS2 hz2 hk2
  have hH2 := lw_oq hG hH1 hI2 hP2 hD2 hS2 hz2 hk2
  refine lv_pop hx hb (kd_at lt_40_d 15 rfl) rfl ?_
  refine lv_goto (tgt := 1505) hx hb (kd_at lt_40_d 16 rfl) rfl ?_
  exact W.widen (by omega) (by omega) (kend H2 locs2 w2 ls hH2 hl)
def lt_41 : List (Nat × Instr × Nat) := [(1480, .aload_n 1, 1), (1481, .aload_n 0, 1), (1482, .iload 4, 2), (1484, .iconst 1, 1), (1485, .iadd, 1), (1486, .iaload, 1), (1487, .invokevirtual 190, 3), (1490, .pop, 1), (1491, .aload_n 2, 1), (1492, .aload_n 0, 1), (1493, .iload 4, 2), (1495, .iconst 1, 1), (1496, .iadd, 1), (1497, .iaload, 1), (1498, .invokevirtual 193, 3), (1501, .pop, 1), (1502, .goto 3, 3)]
set_option maxRecDepth 100000 in
theorem lt_41_d : (lt_41.all fun q => decide (decode code q.1 = .ok (q.2.1, q.2.2))) = true := by decide +kernel
theorem ll_x41 : Cond.methodLink "ReadBoundLaw" 190 mn_151 ∈ lw_tbl := List.mem_of_getElem? (i := 1130) (by decide +kernel)
theorem ll_m41 : Cond.methodLink "ReadBoundLaw" 193 mn_284 ∈ lw_tbl := List.mem_of_getElem? (i := 1849) (by decide +kernel)
set_option maxRecDepth 100000 in
theorem lc_case41 {p : Program} {l : Launch} {e : Env} {s : State} {m : MethodId} {below : List Frame} {meth : Method} {c : Code} {Q : State → Prop} {D : va_G} {cA : Nat → ClassId} {sa sv : Nat} {ad : Nat → Nat} {b N oq : Nat} {xs : Nat → Int32} {cu su : Nat} {H : Heap} {locs : List Loc} {ls : Array Slot} {w : pi_W} {i : Nat} (hG : lw_G p s m c meth D cA sa sv ad b N oq xs) (hH : lw_H s D cA ad oq w H locs) (hl : lv_has ls 7 (lw_L ad b oq i)) (hi : i + 6 ≤ N) (hcu : cu + 6 ≤ 601024) (hsu : su + 36 ≤ 7293034) (kend : ∀ (H1 : Heap) (locs1 : List Loc) (w1 : pi_W) (ls1 : Array Slot), lw_H s D cA ad oq w1 H1 locs1 → lv_has ls1 7 (lw_L ad b oq i) → W p l e room_1 s m #[Value.ref b] below meth c H1 locs1 (cu + 6) (su + 36) Q (F0 m 1505 ls1 [])) : W p l e room_1 s m #[Value.ref b] below meth c H locs cu su Q (F0 m 1480 ls []) := by
  obtain ⟨hI, hP, hD, hS, ho1, ho2, hof⟩ := id hH
  have C := hG.1
  have hsa := hG.2.1
  have hx := C.1
  have hb := C.2.1
  obtain ⟨e0, he0, fs0, rfl, -, -⟩ := hI.1.at (a := 0) (c := .inr (10, _)) rfl
  refine lv_aload_n hx hb (kd_at lt_41_d 0 rfl) rfl (lv_at hl 1 rfl) ?_
  refine lw_push (j := 1) (jj := 1) hG hS hl (by omega) rfl (kd_at lt_41_d 1 rfl) (kd_at lt_41_d 2 rfl) (kd_at lt_41_d 3 rfl) (kd_at lt_41_d 4 rfl) (kd_at lt_41_d 5 rfl) ?_
  refine lw_hq C hsa (z := 151) (na := 1) (cp := 190) (a := 0) (As := [.int (xs (i + 1))]) (d := 24) (restM := []) pz_151 lk_x41 ll_x41 rfl he0 (Nat.le_of_ble_eq_true rfl) (by decide) rfl (lx_41 hI (xs (i + 1))) (fun r w' q => by rw [q.1.1.1, hI.1.1]) hP hD hS hl.1 (by decide) (by decide) (by show cu ≤ 601024; omega) (by show su ≤ 7293034; omega) (by decide) (kd_at lt_41_d 6 rfl) ?_
  rintro r1 w1 H1 locs1 ⟨hI1, v1, rfl⟩ hP1 hD1 hS1 hz1 hk1
  have hH1 := lw_oq hG hH hI1 hP1 hD1 hS1 hz1 hk1
  obtain ⟨e1, he1, fs1, rfl, -, -⟩ := hI1.1.at (a := 61) (c := .inr (11, _)) rfl
  refine lv_pop hx hb (kd_at lt_41_d 7 rfl) rfl ?_
  refine lv_aload_n hx hb (kd_at lt_41_d 8 rfl) rfl (lv_at hl 2 rfl) ?_
  refine lw_push (j := 1) (jj := 1) hG hS1 hl (by omega) rfl (kd_at lt_41_d 9 rfl) (kd_at lt_41_d 10 rfl) (kd_at lt_41_d 11 rfl) (kd_at lt_41_d 12 rfl) (kd_at lt_41_d 13 rfl) ?_
  refine lw_hq C hsa (z := 284) (na := 1) (cp := 193) (a := 61) (As := [.int (xs (i + 1))]) (d := 24) (restM := []) pz_284 lk_m41 ll_m41 rfl he1 (Nat.le_of_ble_eq_true rfl) (by decide) rfl (lm_41 hI1 (xs (i + 1))) (fun r w' q => by rw [q.1.1.1, hI1.1.1]) hP1 hD1 hS1 hl.1 (by decide) (by decide) (by show cu ≤ 601024; omega) (by show su ≤ 7293034; omega) (by decide) (kd_at lt_41_d 14 rfl) ?_
  rintro r2 w2 H2 locs2 ⟨hI2, v2, rfl⟩ hP2 hD2 hS2 hz2 hk2
  have hH2 := lw_oq hG hH1 hI2 hP2 hD2 hS2 hz2 hk2
  refine lv_pop hx hb (kd_at lt_41_d 15 rfl) rfl ?_
  refine lv_goto (tgt := 1505) hx hb (kd_at lt_41_d 16 rfl) rfl ?_
  exact W.widen (by omega) (by omega) (kend H2 locs2 w2 ls hH2 hl)
