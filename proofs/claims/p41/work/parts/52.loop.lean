/-! ===== the law's loop; by program ===== -/
def lw_G (p : Program) (s : State) (m : MethodId) (c : Code) (meth : Method) (D : va_G) (cA : Nat → ClassId) (sa sv : Nat) (ad : Nat → Nat) (b N oq : Nat) (xs : Nat → Int32) : Prop := lw_Cx p s m #[Value.ref b] c D cA sa sv (fun q => s.heap.size ≤ q) ∧ ad pi_str = sa ∧ va_X b N xs s s.heap ∧ b < s.heap.size ∧ N ≤ 3072 ∧ (∀ k, k < 79 → ad k ≠ oq) ∧ meth.sig.returnType = ret ∧ meth.locks = false
def lw_H (s : State) (D : va_G) (cA : Nat → ClassId) (ad : Nat → Nat) (oq : Nat) (w : pi_W) (H : Heap) (locs : List Loc) : Prop := lw_I w ∧ va_P D vwCl (pi_rW cA ad w) H ∧ va_D (fun q => s.heap.size ≤ q) (pi_rW cA ad w) ∧ va_S (fun q => s.heap.size ≤ q) s.heap H locs ∧ oq < H.size ∧ s.heap.size ≤ oq ∧ ∃ f : Nat → Int64, H[oq]? = some (vp_cell (cA 2) (1, .inr (.inl f)))
def lw_L (ad : Nat → Nat) (b oq i : Nat) : List (Nat × Value) := [(0, .ref b), (1, .ref (ad 0)), (2, .ref (ad 61)), (3, .ref oq), (4, .int (Int32.ofNat i))]
section LP
variable {p : Program} {l : Launch} {e : Env} {s : State} {m : MethodId} {below : List Frame} {meth : Method} {c : Code} {Q : State → Prop} {D : va_G} {cA : Nat → ClassId} {sa sv : Nat} {ad : Nat → Nat} {b N oq : Nat} {xs : Nat → Int32} {cu su : Nat} {H : Heap} {locs : List Loc} {ls : Array Slot} {w : pi_W} {i : Nat}
theorem lw_oq {w w' : pi_W} {H H1 : Heap} {locs1 : List Loc} (hG : lw_G p s m c meth D cA sa sv ad b N oq xs) (hH : lw_H s D cA ad oq w H locs) (hI : lw_I w') (hP : va_P D vwCl (pi_rW cA ad w') H1) (hD : va_D (fun q => s.heap.size ≤ q) (pi_rW cA ad w')) (hS : va_S (fun q => s.heap.size ≤ q) s.heap H1 locs1) (hz : H.size ≤ H1.size) (hk : ∀ q : Nat, q < H.size → ¬ va_A (pi_rW cA ad w) H.size q → H1[q]? = H[q]?) : lw_H s D cA ad oq w' H1 locs1 := by
  obtain ⟨h1, -, -, -, h5, h6, f, h7⟩ := hH
  refine ⟨hI, hP, hD, hS, Nat.lt_of_lt_of_le h5 hz, h6, f, ?_⟩
  rw [hk oq h5, h7]
  rintro (⟨k, e, h⟩ | h)
  · rw [pi_rW_get] at h
    cases hw : w[k]? with
    | none =>
      rw [hw] at h
      cases h
    | some e' =>
      rw [hw] at h
      have h2 : ad k = oq := congrArg Prod.fst (Option.some.inj h)
      have hlt : k < 79 := by
        have h3 := (List.getElem?_eq_some_iff.mp hw).1
        have h4 := h1.1.1
        have h5 : aw_Sh.length = 79 := by decide
        omega
      exact hG.2.2.2.2.2.1 k hlt h2
  · omega
theorem lw_push {j : Nat} {jj : Int} {pc : Nat} {st : List Value} (hG : lw_G p s m c meth D cA sa sv ad b N oq xs) (hS : va_S (fun q => s.heap.size ≤ q) s.heap H locs) (hl : lv_has ls 7 (lw_L ad b oq i)) (hj : i + j < N) (ej : Int32.ofInt jj = Int32.ofNat j) (d0 : decode code pc = .ok (.aload_n 0, 1)) (d1 : decode code (pc + 1) = .ok (.iload 4, 2)) (d2 : decode code (pc + 1 + 2) = .ok (.iconst jj, 1)) (d3 : decode code (pc + 1 + 2 + 1) = .ok (.iadd, 1)) (d4 : decode code (pc + 1 + 2 + 1 + 1) = .ok (.iaload, 1)) (k : W p l e room_1 s m #[Value.ref b] below meth c H locs cu su Q (F0 m (pc + 1 + 2 + 1 + 1 + 1) ls (.int (xs (i + j)) :: st))) : W p l e room_1 s m #[Value.ref b] below meth c H locs cu su Q (F0 m pc ls st) := by
  obtain ⟨⟨hx, hb, hml, hown, hts, hK, hA⟩, hsa, hX, hbl, hN, -⟩ := hG
  have hbA : ¬ (fun q : Nat => s.heap.size ≤ q) b := Nat.not_le.mpr hbl
  refine lv_aload_n hx hb d0 rfl (lv_at hl 0 rfl) ?_
  refine lv_iload hx hb d1 (lv_at hl 4 rfl) ?_
  refine lv_iconst hx hb d2 ej ?_
  refine lv_iadd hx hb d3 ?_
  have ei : Int32.ofNat i + Int32.ofNat j = Int32.ofNat (i + j) := (Int32.ofNat_add i j).symm
  have et : (Int32.ofNat (i + j)).toInt = ((i + j : Nat) : Int) := Int32.toInt_ofNat_of_lt (by omega)
  have ec := af_cl (x := Int32.ofNat (i + j)) (by rw [et]; omega)
  have en : (Int32.ofNat (i + j)).toNatClampNeg = i + j := by
    have := ec.2
    rw [et] at this
    omega
  rw [ei]
  refine va_sld hx hb hX hbl hbA hS (i := Int32.ofNat (i + j)) (by
    rintro (q | q)
    · exact ec.1 q
    · rw [en] at q
      omega) d4 ?_
  rw [en]
  exact k
end LP
def lt_1 : List (Nat × Instr × Nat) := [(297, .aload_n 1, 1), (298, .aload_n 0, 1), (299, .iload 4, 2), (301, .iconst 1, 1), (302, .iadd, 1), (303, .iaload, 1), (304, .invokevirtual 24, 3), (307, .pop, 1), (308, .aload_n 2, 1), (309, .aload_n 0, 1), (310, .iload 4, 2), (312, .iconst 1, 1), (313, .iadd, 1), (314, .iaload, 1), (315, .invokevirtual 28, 3), (318, .pop, 1), (319, .goto 1186, 3)]
set_option maxRecDepth 100000 in
theorem lt_1_d : (lt_1.all fun q => decide (decode code q.1 = .ok (q.2.1, q.2.2))) = true := by decide +kernel
theorem ll_x1 : Cond.methodLink "ReadBoundLaw" 24 mn_112 ∈ lw_tbl := List.mem_of_getElem? (i := 467) (by decide +kernel)
theorem ll_m1 : Cond.methodLink "ReadBoundLaw" 28 mn_165 ∈ lw_tbl := List.mem_of_getElem? (i := 1209) (by decide +kernel)
set_option maxRecDepth 100000 in
theorem lc_case1 {p : Program} {l : Launch} {e : Env} {s : State} {m : MethodId} {below : List Frame} {meth : Method} {c : Code} {Q : State → Prop} {D : va_G} {cA : Nat → ClassId} {sa sv : Nat} {ad : Nat → Nat} {b N oq : Nat} {xs : Nat → Int32} {cu su : Nat} {H : Heap} {locs : List Loc} {ls : Array Slot} {w : pi_W} {i : Nat} (hG : lw_G p s m c meth D cA sa sv ad b N oq xs) (hH : lw_H s D cA ad oq w H locs) (hl : lv_has ls 7 (lw_L ad b oq i)) (hi : i + 6 ≤ N) (hcu : cu + 6 ≤ 601024) (hsu : su + 36 ≤ 7293034) (kend : ∀ (H1 : Heap) (locs1 : List Loc) (w1 : pi_W) (ls1 : Array Slot), lw_H s D cA ad oq w1 H1 locs1 → lv_has ls1 7 (lw_L ad b oq i) → W p l e room_1 s m #[Value.ref b] below meth c H1 locs1 (cu + 6) (su + 36) Q (F0 m 1505 ls1 [])) : W p l e room_1 s m #[Value.ref b] below meth c H locs cu su Q (F0 m 297 ls []) := by
  obtain ⟨hI, hP, hD, hS, ho1, ho2, hof⟩ := id hH
  have C := hG.1
  have hsa := hG.2.1
  have hx := C.1
  have hb := C.2.1
  obtain ⟨e0, he0, fs0, rfl, -, -⟩ := hI.1.at (a := 0) (c := .inr (10, _)) rfl
  refine lv_aload_n hx hb (kd_at lt_1_d 0 rfl) rfl (lv_at hl 1 rfl) ?_
  refine lw_push (j := 1) (jj := 1) hG hS hl (by omega) rfl (kd_at lt_1_d 1 rfl) (kd_at lt_1_d 2 rfl) (kd_at lt_1_d 3 rfl) (kd_at lt_1_d 4 rfl) (kd_at lt_1_d 5 rfl) ?_
  refine lw_hq C hsa (z := 112) (na := 1) (cp := 24) (a := 0) (As := [.int (xs (i + 1))]) (d := 24) (restM := []) pz_112 lk_x1 ll_x1 rfl he0 (Nat.le_of_ble_eq_true rfl) (by decide) rfl (lx_1 hI (xs (i + 1))) (fun r w' q => by rw [q.1.1.1, hI.1.1]) hP hD hS hl.1 (by decide) (by decide) (by show cu ≤ 601024; omega) (by show su ≤ 7293034; omega) (by decide) (kd_at lt_1_d 6 rfl) ?_
  rintro r1 w1 H1 locs1 ⟨hI1, v1, rfl⟩ hP1 hD1 hS1 hz1 hk1
  have hH1 := lw_oq hG hH hI1 hP1 hD1 hS1 hz1 hk1
  obtain ⟨e1, he1, fs1, rfl, -, -⟩ := hI1.1.at (a := 61) (c := .inr (11, _)) rfl
  refine lv_pop hx hb (kd_at lt_1_d 7 rfl) rfl ?_
  refine lv_aload_n hx hb (kd_at lt_1_d 8 rfl) rfl (lv_at hl 2 rfl) ?_
  refine lw_push (j := 1) (jj := 1) hG hS1 hl (by omega) rfl (kd_at lt_1_d 9 rfl) (kd_at lt_1_d 10 rfl) (kd_at lt_1_d 11 rfl) (kd_at lt_1_d 12 rfl) (kd_at lt_1_d 13 rfl) ?_
  refine lw_hq C hsa (z := 165) (na := 1) (cp := 28) (a := 61) (As := [.int (xs (i + 1))]) (d := 24) (restM := []) pz_165 lk_m1 ll_m1 rfl he1 (Nat.le_of_ble_eq_true rfl) (by decide) rfl (lm_1 hI1 (xs (i + 1))) (fun r w' q => by rw [q.1.1.1, hI1.1.1]) hP1 hD1 hS1 hl.1 (by decide) (by decide) (by show cu ≤ 601024; omega) (by show su ≤ 7293034; omega) (by decide) (kd_at lt_1_d 14 rfl) ?_
  rintro r2 w2 H2 locs2 ⟨hI2, v2, rfl⟩ hP2 hD2 hS2 hz2 hk2
  have hH2 := lw_oq hG hH1 hI2 hP2 hD2 hS2 hz2 hk2
  refine lv_pop hx hb (kd_at lt_1_d 15 rfl) rfl ?_
  refine lv_goto (tgt := 1505) hx hb (kd_at lt_1_d 16 rfl) rfl ?_
  exact W.widen (by omega) (by omega) (kend H2 locs2 w2 ls hH2 hl)
def lt_2 : List (Nat × Instr × Nat) := [(322, .aload_n 1, 1), (323, .invokevirtual 29, 3), (326, .pop, 1), (327, .aload_n 2, 1), (328, .invokevirtual 33, 3), (331, .pop, 1), (332, .goto 1173, 3)]
set_option maxRecDepth 100000 in
theorem lt_2_d : (lt_2.all fun q => decide (decode code q.1 = .ok (q.2.1, q.2.2))) = true := by decide +kernel
theorem ll_x2 : Cond.methodLink "ReadBoundLaw" 29 mn_113 ∈ lw_tbl := List.mem_of_getElem? (i := 471) (by decide +kernel)
theorem ll_m2 : Cond.methodLink "ReadBoundLaw" 33 mn_192 ∈ lw_tbl := List.mem_of_getElem? (i := 1384) (by decide +kernel)
set_option maxRecDepth 100000 in
theorem lc_case2 {p : Program} {l : Launch} {e : Env} {s : State} {m : MethodId} {below : List Frame} {meth : Method} {c : Code} {Q : State → Prop} {D : va_G} {cA : Nat → ClassId} {sa sv : Nat} {ad : Nat → Nat} {b N oq : Nat} {xs : Nat → Int32} {cu su : Nat} {H : Heap} {locs : List Loc} {ls : Array Slot} {w : pi_W} {i : Nat} (hG : lw_G p s m c meth D cA sa sv ad b N oq xs) (hH : lw_H s D cA ad oq w H locs) (hl : lv_has ls 7 (lw_L ad b oq i)) (hi : i + 6 ≤ N) (hcu : cu + 6 ≤ 601024) (hsu : su + 36 ≤ 7293034) (kend : ∀ (H1 : Heap) (locs1 : List Loc) (w1 : pi_W) (ls1 : Array Slot), lw_H s D cA ad oq w1 H1 locs1 → lv_has ls1 7 (lw_L ad b oq i) → W p l e room_1 s m #[Value.ref b] below meth c H1 locs1 (cu + 6) (su + 36) Q (F0 m 1505 ls1 [])) : W p l e room_1 s m #[Value.ref b] below meth c H locs cu su Q (F0 m 322 ls []) := by
  obtain ⟨hI, hP, hD, hS, ho1, ho2, hof⟩ := id hH
  have C := hG.1
  have hsa := hG.2.1
  have hx := C.1
  have hb := C.2.1
  obtain ⟨e0, he0, fs0, rfl, -, -⟩ := hI.1.at (a := 0) (c := .inr (10, _)) rfl
  refine lv_aload_n hx hb (kd_at lt_2_d 0 rfl) rfl (lv_at hl 1 rfl) ?_
  refine lw_hq C hsa (z := 113) (na := 0) (cp := 29) (a := 0) (As := []) (d := 24) (restM := []) pz_113 lk_x2 ll_x2 rfl he0 (Nat.le_of_ble_eq_true rfl) (by decide) rfl (lx_2 hI) (fun r w' q => by rw [q.1.1.1, hI.1.1]) hP hD hS hl.1 (by decide) (by decide) (by show cu ≤ 601024; omega) (by show su ≤ 7293034; omega) (by decide) (kd_at lt_2_d 1 rfl) ?_
  rintro r1 w1 H1 locs1 ⟨hI1, v1, rfl⟩ hP1 hD1 hS1 hz1 hk1
  have hH1 := lw_oq hG hH hI1 hP1 hD1 hS1 hz1 hk1
  obtain ⟨e1, he1, fs1, rfl, -, -⟩ := hI1.1.at (a := 61) (c := .inr (11, _)) rfl
  refine lv_pop hx hb (kd_at lt_2_d 2 rfl) rfl ?_
  refine lv_aload_n hx hb (kd_at lt_2_d 3 rfl) rfl (lv_at hl 2 rfl) ?_
  refine lw_hq C hsa (z := 192) (na := 0) (cp := 33) (a := 61) (As := []) (d := 24) (restM := []) pz_192 lk_m2 ll_m2 rfl he1 (Nat.le_of_ble_eq_true rfl) (by decide) rfl (lm_2 hI1) (fun r w' q => by rw [q.1.1.1, hI1.1.1]) hP1 hD1 hS1 hl.1 (by decide) (by decide) (by show cu ≤ 601024; omega) (by show su ≤ 7293034; omega) (by decide) (kd_at lt_2_d 4 rfl) ?_
  rintro r2 w2 H2 locs2 ⟨hI2, v2, rfl⟩ hP2 hD2 hS2 hz2 hk2
  have hH2 := lw_oq hG hH1 hI2 hP2 hD2 hS2 hz2 hk2
  refine lv_pop hx hb (kd_at lt_2_d 5 rfl) rfl ?_
  refine lv_goto (tgt := 1505) hx hb (kd_at lt_2_d 6 rfl) rfl ?_
  exact W.widen (by omega) (by omega) (kend H2 locs2 w2 ls hH2 hl)
def lt_39 : List (Nat × Instr × Nat) := [(1430, .aload_n 1, 1), (1431, .aload_n 0, 1), (1432, .iload 4, 2), (1434, .iconst 1, 1), (1435, .iadd, 1), (1436, .iaload, 1), (1437, .invokevirtual 182, 3), (1440, .aload_n 2, 1), (1441, .aload_n 0, 1), (1442, .iload 4, 2), (1444, .iconst 1, 1), (1445, .iadd, 1), (1446, .iaload, 1), (1447, .invokevirtual 185, 3), (1450, .if_icmp .eq 55, 3), (1453, .iconst 0, 1), (1454, .ireturn, 1)]
set_option maxRecDepth 100000 in
theorem lt_39_d : (lt_39.all fun q => decide (decode code q.1 = .ok (q.2.1, q.2.2))) = true := by decide +kernel
theorem ll_x39 : Cond.methodLink "ReadBoundLaw" 182 mn_149 ∈ lw_tbl := List.mem_of_getElem? (i := 1107) (by decide +kernel)
theorem ll_m39 : Cond.methodLink "ReadBoundLaw" 185 mn_282 ∈ lw_tbl := List.mem_of_getElem? (i := 1841) (by decide +kernel)
set_option maxRecDepth 100000 in
theorem lc_case39 {p : Program} {l : Launch} {e : Env} {s : State} {m : MethodId} {below : List Frame} {meth : Method} {c : Code} {Q : State → Prop} {D : va_G} {cA : Nat → ClassId} {sa sv : Nat} {ad : Nat → Nat} {b N oq : Nat} {xs : Nat → Int32} {cu su : Nat} {H : Heap} {locs : List Loc} {ls : Array Slot} {w : pi_W} {i : Nat} (hG : lw_G p s m c meth D cA sa sv ad b N oq xs) (hH : lw_H s D cA ad oq w H locs) (hl : lv_has ls 7 (lw_L ad b oq i)) (hi : i + 6 ≤ N) (hcu : cu + 6 ≤ 601024) (hsu : su + 36 ≤ 7293034) (kend : ∀ (H1 : Heap) (locs1 : List Loc) (w1 : pi_W) (ls1 : Array Slot), lw_H s D cA ad oq w1 H1 locs1 → lv_has ls1 7 (lw_L ad b oq i) → W p l e room_1 s m #[Value.ref b] below meth c H1 locs1 (cu + 6) (su + 36) Q (F0 m 1505 ls1 [])) : W p l e room_1 s m #[Value.ref b] below meth c H locs cu su Q (F0 m 1430 ls []) := by
  obtain ⟨hI, hP, hD, hS, ho1, ho2, hof⟩ := id hH
  have C := hG.1
  have hsa := hG.2.1
  have hx := C.1
  have hb := C.2.1
  obtain ⟨e0, he0, fs0, rfl, -, -⟩ := hI.1.at (a := 0) (c := .inr (10, _)) rfl
  refine lv_aload_n hx hb (kd_at lt_39_d 0 rfl) rfl (lv_at hl 1 rfl) ?_
  refine lw_push (j := 1) (jj := 1) hG hS hl (by omega) rfl (kd_at lt_39_d 1 rfl) (kd_at lt_39_d 2 rfl) (kd_at lt_39_d 3 rfl) (kd_at lt_39_d 4 rfl) (kd_at lt_39_d 5 rfl) ?_
  refine lw_hq C hsa (z := 149) (na := 1) (cp := 182) (a := 0) (As := [.int (xs (i + 1))]) (d := 24) (restM := []) pz_149 lk_x39 ll_x39 rfl he0 (Nat.le_of_ble_eq_true rfl) (by decide) rfl (lx_im hI (xs (i + 1))) (fun r w' q => by rw [q.1.1.1, hI.1.1]) hP hD hS hl.1 (by decide) (by decide) (by show cu ≤ 601024; omega) (by show su ≤ 7293034; omega) (by decide) (kd_at lt_39_d 6 rfl) ?_
  rintro r1 w1 H1 locs1 ⟨hI1, rfl⟩ hP1 hD1 hS1 hz1 hk1
  have hH1 := lw_oq hG hH hI1 hP1 hD1 hS1 hz1 hk1
  obtain ⟨e1, he1, fs1, rfl, -, -⟩ := hI1.1.at (a := 61) (c := .inr (11, _)) rfl
  refine lv_aload_n hx hb (kd_at lt_39_d 7 rfl) rfl (lv_at hl 2 rfl) ?_
  refine lw_push (j := 1) (jj := 1) hG hS1 hl (by omega) rfl (kd_at lt_39_d 8 rfl) (kd_at lt_39_d 9 rfl) (kd_at lt_39_d 10 rfl) (kd_at lt_39_d 11 rfl) (kd_at lt_39_d 12 rfl) ?_
  refine lw_hq C hsa (z := 282) (na := 1) (cp := 185) (a := 61) (As := [.int (xs (i + 1))]) (d := 24) (restM := [.int (lw_im (xs (i + 1)))]) pz_282 lk_m39 ll_m39 rfl he1 (Nat.le_of_ble_eq_true rfl) (by decide) rfl (lm_im hI1 (xs (i + 1))) (fun r w' q => by rw [q.1.1.1, hI1.1.1]) hP1 hD1 hS1 hl.1 (by decide) (by decide) (by show cu ≤ 601024; omega) (by show su ≤ 7293034; omega) (Nat.le_of_ble_eq_true rfl) (kd_at lt_39_d 13 rfl) ?_
  rintro r2 w2 H2 locs2 ⟨hI2, rfl⟩ hP2 hD2 hS2 hz2 hk2
  have hH2 := lw_oq hG hH1 hI2 hP2 hD2 hS2 hz2 hk2
  refine lv_icmp_eq (tgt := 1505) hx hb (kd_at lt_39_d 14 rfl) rfl (fun _ => ?_) (fun h => absurd rfl h)
  exact W.widen (by omega) (by omega) (kend H2 locs2 w2 ls hH2 hl)
