/-! ===== the law's loop, more; by program ===== -/
def lt_6 : List (Nat × Instr × Nat) := [(425, .aload_n 1, 1), (426, .aload_n 0, 1), (427, .iload 4, 2), (429, .iconst 1, 1), (430, .iadd, 1), (431, .iaload, 1), (432, .aload_n 0, 1), (433, .iload 4, 2), (435, .iconst 2, 1), (436, .iadd, 1), (437, .iaload, 1), (438, .invokevirtual 48, 3), (441, .pop, 1), (442, .aload_n 2, 1), (443, .aload_n 0, 1), (444, .iload 4, 2), (446, .iconst 1, 1), (447, .iadd, 1), (448, .iaload, 1), (449, .aload_n 0, 1), (450, .iload 4, 2), (452, .iconst 2, 1), (453, .iadd, 1), (454, .iaload, 1), (455, .invokevirtual 51, 3), (458, .pop, 1), (459, .goto 1046, 3)]
set_option maxRecDepth 100000 in
theorem lt_6_d : (lt_6.all fun q => decide (decode code q.1 = .ok (q.2.1, q.2.2))) = true := by decide +kernel
theorem ll_x6 : Cond.methodLink "ReadBoundLaw" 48 mn_116 ∈ lw_tbl := List.mem_of_getElem? (i := 685) (by decide +kernel)
theorem ll_m6 : Cond.methodLink "ReadBoundLaw" 51 mn_211 ∈ lw_tbl := List.mem_of_getElem? (i := 1517) (by decide +kernel)
set_option maxRecDepth 100000 in
theorem lc_case6 {p : Program} {l : Launch} {e : Env} {s : State} {m : MethodId} {below : List Frame} {meth : Method} {c : Code} {Q : State → Prop} {D : va_G} {cA : Nat → ClassId} {sa sv : Nat} {ad : Nat → Nat} {b N oq : Nat} {xs : Nat → Int32} {cu su : Nat} {H : Heap} {locs : List Loc} {ls : Array Slot} {w : pi_W} {i : Nat} (hG : lw_G p s m c meth D cA sa sv ad b N oq xs) (hH : lw_H s D cA ad oq w H locs) (hl : lv_has ls 7 (lw_L ad b oq i)) (hi : i + 6 ≤ N) (hcu : cu + 6 ≤ 601024) (hsu : su + 36 ≤ 7293034) (kend : ∀ (H1 : Heap) (locs1 : List Loc) (w1 : pi_W) (ls1 : Array Slot), lw_H s D cA ad oq w1 H1 locs1 → lv_has ls1 7 (lw_L ad b oq i) → W p l e room_1 s m #[Value.ref b] below meth c H1 locs1 (cu + 6) (su + 36) Q (F0 m 1505 ls1 [])) : W p l e room_1 s m #[Value.ref b] below meth c H locs cu su Q (F0 m 425 ls []) := by
  obtain ⟨hI, hP, hD, hS, ho1, ho2, hof⟩ := id hH
  have C := hG.1
  have hsa := hG.2.1
  have hx := C.1
  have hb := C.2.1
  obtain ⟨e0, he0, fs0, rfl, -, -⟩ := hI.1.at (a := 0) (c := .inr (10, _)) rfl
  refine lv_aload_n hx hb (kd_at lt_6_d 0 rfl) rfl (lv_at hl 1 rfl) ?_
  refine lw_push (j := 1) (jj := 1) hG hS hl (by omega) rfl (kd_at lt_6_d 1 rfl) (kd_at lt_6_d 2 rfl) (kd_at lt_6_d 3 rfl) (kd_at lt_6_d 4 rfl) (kd_at lt_6_d 5 rfl) ?_
  refine lw_push (j := 2) (jj := 2) hG hS hl (by omega) rfl (kd_at lt_6_d 6 rfl) (kd_at lt_6_d 7 rfl) (kd_at lt_6_d 8 rfl) (kd_at lt_6_d 9 rfl) (kd_at lt_6_d 10 rfl) ?_
  refine lw_hq C hsa (z := 116) (na := 2) (cp := 48) (a := 0) (As := [.int (xs (i + 1)), .int (xs (i + 2))]) (d := 24) (restM := []) pz_116 lk_x6 ll_x6 rfl he0 (Nat.le_of_ble_eq_true rfl) (by decide) rfl (lx_6 hI (xs (i + 1)) (xs (i + 2))) (fun r w' q => by rw [q.1.1.1, hI.1.1]) hP hD hS hl.1 (by decide) (by decide) (by show cu ≤ 601024; omega) (by show su ≤ 7293034; omega) (by decide) (kd_at lt_6_d 11 rfl) ?_
  rintro r1 w1 H1 locs1 ⟨hI1, v1, rfl⟩ hP1 hD1 hS1 hz1 hk1
  have hH1 := lw_oq hG hH hI1 hP1 hD1 hS1 hz1 hk1
  obtain ⟨e1, he1, fs1, rfl, -, -⟩ := hI1.1.at (a := 61) (c := .inr (11, _)) rfl
  refine lv_pop hx hb (kd_at lt_6_d 12 rfl) rfl ?_
  refine lv_aload_n hx hb (kd_at lt_6_d 13 rfl) rfl (lv_at hl 2 rfl) ?_
  refine lw_push (j := 1) (jj := 1) hG hS1 hl (by omega) rfl (kd_at lt_6_d 14 rfl) (kd_at lt_6_d 15 rfl) (kd_at lt_6_d 16 rfl) (kd_at lt_6_d 17 rfl) (kd_at lt_6_d 18 rfl) ?_
  refine lw_push (j := 2) (jj := 2) hG hS1 hl (by omega) rfl (kd_at lt_6_d 19 rfl) (kd_at lt_6_d 20 rfl) (kd_at lt_6_d 21 rfl) (kd_at lt_6_d 22 rfl) (kd_at lt_6_d 23 rfl) ?_
  refine lw_hq C hsa (z := 211) (na := 2) (cp := 51) (a := 61) (As := [.int (xs (i + 1)), .int (xs (i + 2))]) (d := 24) (restM := []) pz_211 lk_m6 ll_m6 rfl he1 (Nat.le_of_ble_eq_true rfl) (by decide) rfl (lm_6 hI1 (xs (i + 1)) (xs (i + 2))) (fun r w' q => by rw [q.1.1.1, hI1.1.1]) hP1 hD1 hS1 hl.1 (by decide) (by decide) (by show cu ≤ 601024; omega) (by show su ≤ 7293034; omega) (by decide) (kd_at lt_6_d 24 rfl) ?_
  rintro r2 w2 H2 locs2 ⟨hI2, v2, rfl⟩ hP2 hD2 hS2 hz2 hk2
  have hH2 := lw_oq hG hH1 hI2 hP2 hD2 hS2 hz2 hk2
  refine lv_pop hx hb (kd_at lt_6_d 25 rfl) rfl ?_
  refine lv_goto (tgt := 1505) hx hb (kd_at lt_6_d 26 rfl) rfl ?_
  exact W.widen (by omega) (by omega) (kend H2 locs2 w2 ls hH2 hl)
def lt_7 : List (Nat × Instr × Nat) := [(462, .aload_n 1, 1), (463, .aload_n 0, 1), (464, .iload 4, 2), (466, .iconst 1, 1), (467, .iadd, 1), (468, .iaload, 1), (469, .invokevirtual 52, 3), (472, .pop, 1), (473, .aload_n 2, 1), (474, .aload_n 0, 1), (475, .iload 4, 2), (477, .iconst 1, 1), (478, .iadd, 1), (479, .iaload, 1), (480, .invokevirtual 56, 3), (483, .pop, 1), (484, .goto 1021, 3)]
set_option maxRecDepth 100000 in
theorem lt_7_d : (lt_7.all fun q => decide (decode code q.1 = .ok (q.2.1, q.2.2))) = true := by decide +kernel
theorem ll_x7 : Cond.methodLink "ReadBoundLaw" 52 mn_117 ∈ lw_tbl := List.mem_of_getElem? (i := 693) (by decide +kernel)
theorem ll_m7 : Cond.methodLink "ReadBoundLaw" 56 mn_213 ∈ lw_tbl := List.mem_of_getElem? (i := 1525) (by decide +kernel)
set_option maxRecDepth 100000 in
theorem lc_case7 {p : Program} {l : Launch} {e : Env} {s : State} {m : MethodId} {below : List Frame} {meth : Method} {c : Code} {Q : State → Prop} {D : va_G} {cA : Nat → ClassId} {sa sv : Nat} {ad : Nat → Nat} {b N oq : Nat} {xs : Nat → Int32} {cu su : Nat} {H : Heap} {locs : List Loc} {ls : Array Slot} {w : pi_W} {i : Nat} (hG : lw_G p s m c meth D cA sa sv ad b N oq xs) (hH : lw_H s D cA ad oq w H locs) (hl : lv_has ls 7 (lw_L ad b oq i)) (hi : i + 6 ≤ N) (hcu : cu + 6 ≤ 601024) (hsu : su + 36 ≤ 7293034) (kend : ∀ (H1 : Heap) (locs1 : List Loc) (w1 : pi_W) (ls1 : Array Slot), lw_H s D cA ad oq w1 H1 locs1 → lv_has ls1 7 (lw_L ad b oq i) → W p l e room_1 s m #[Value.ref b] below meth c H1 locs1 (cu + 6) (su + 36) Q (F0 m 1505 ls1 [])) : W p l e room_1 s m #[Value.ref b] below meth c H locs cu su Q (F0 m 462 ls []) := by
  obtain ⟨hI, hP, hD, hS, ho1, ho2, hof⟩ := id hH
  have C := hG.1
  have hsa := hG.2.1
  have hx := C.1
  have hb := C.2.1
  obtain ⟨e0, he0, fs0, rfl, -, -⟩ := hI.1.at (a := 0) (c := .inr (10, _)) rfl
  refine lv_aload_n hx hb (kd_at lt_7_d 0 rfl) rfl (lv_at hl 1 rfl) ?_
  refine lw_push (j := 1) (jj := 1) hG hS hl (by omega) rfl (kd_at lt_7_d 1 rfl) (kd_at lt_7_d 2 rfl) (kd_at lt_7_d 3 rfl) (kd_at lt_7_d 4 rfl) (kd_at lt_7_d 5 rfl) ?_
  refine lw_hq C hsa (z := 117) (na := 1) (cp := 52) (a := 0) (As := [.int (xs (i + 1))]) (d := 24) (restM := []) pz_117 lk_x7 ll_x7 rfl he0 (Nat.le_of_ble_eq_true rfl) (by decide) rfl (lx_7 hI (xs (i + 1))) (fun r w' q => by rw [q.1.1.1, hI.1.1]) hP hD hS hl.1 (by decide) (by decide) (by show cu ≤ 601024; omega) (by show su ≤ 7293034; omega) (by decide) (kd_at lt_7_d 6 rfl) ?_
  rintro r1 w1 H1 locs1 ⟨hI1, v1, rfl⟩ hP1 hD1 hS1 hz1 hk1
  have hH1 := lw_oq hG hH hI1 hP1 hD1 hS1 hz1 hk1
  obtain ⟨e1, he1, fs1, rfl, -, -⟩ := hI1.1.at (a := 61) (c := .inr (11, _)) rfl
  refine lv_pop hx hb (kd_at lt_7_d 7 rfl) rfl ?_
  refine lv_aload_n hx hb (kd_at lt_7_d 8 rfl) rfl (lv_at hl 2 rfl) ?_
  refine lw_push (j := 1) (jj := 1) hG hS1 hl (by omega) rfl (kd_at lt_7_d 9 rfl) (kd_at lt_7_d 10 rfl) (kd_at lt_7_d 11 rfl) (kd_at lt_7_d 12 rfl) (kd_at lt_7_d 13 rfl) ?_
  refine lw_hq C hsa (z := 213) (na := 1) (cp := 56) (a := 61) (As := [.int (xs (i + 1))]) (d := 24) (restM := []) pz_213 lk_m7 ll_m7 rfl he1 (Nat.le_of_ble_eq_true rfl) (by decide) rfl (lm_7 hI1 (xs (i + 1))) (fun r w' q => by rw [q.1.1.1, hI1.1.1]) hP1 hD1 hS1 hl.1 (by decide) (by decide) (by show cu ≤ 601024; omega) (by show su ≤ 7293034; omega) (by decide) (kd_at lt_7_d 14 rfl) ?_
  rintro r2 w2 H2 locs2 ⟨hI2, v2, rfl⟩ hP2 hD2 hS2 hz2 hk2
  have hH2 := lw_oq hG hH1 hI2 hP2 hD2 hS2 hz2 hk2
  refine lv_pop hx hb (kd_at lt_7_d 15 rfl) rfl ?_
  refine lv_goto (tgt := 1505) hx hb (kd_at lt_7_d 16 rfl) rfl ?_
  exact W.widen (by omega) (by omega) (kend H2 locs2 w2 ls hH2 hl)
def lt_8 : List (Nat × Instr × Nat) := [(487, .aload_n 1, 1), (488, .aload_n 0, 1), (489, .iload 4, 2), (491, .iconst 1, 1), (492, .iadd, 1), (493, .iaload, 1), (494, .aload_n 0, 1), (495, .iload 4, 2), (497, .iconst 2, 1), (498, .iadd, 1), (499, .iaload, 1), (500, .invokevirtual 57, 3), (503, .pop, 1), (504, .aload_n 2, 1), (505, .aload_n 0, 1), (506, .iload 4, 2), (508, .iconst 1, 1), (509, .iadd, 1), (510, .iaload, 1), (511, .aload_n 0, 1), (512, .iload 4, 2), (514, .iconst 2, 1), (515, .iadd, 1), (516, .iaload, 1), (517, .invokevirtual 60, 3), (520, .pop, 1), (521, .goto 984, 3)]
set_option maxRecDepth 100000 in
theorem lt_8_d : (lt_8.all fun q => decide (decode code q.1 = .ok (q.2.1, q.2.2))) = true := by decide +kernel
theorem ll_x8 : Cond.methodLink "ReadBoundLaw" 57 mn_118 ∈ lw_tbl := List.mem_of_getElem? (i := 740) (by decide +kernel)
theorem ll_m8 : Cond.methodLink "ReadBoundLaw" 60 mn_230 ∈ lw_tbl := List.mem_of_getElem? (i := 1552) (by decide +kernel)
set_option maxRecDepth 100000 in
theorem lc_case8 {p : Program} {l : Launch} {e : Env} {s : State} {m : MethodId} {below : List Frame} {meth : Method} {c : Code} {Q : State → Prop} {D : va_G} {cA : Nat → ClassId} {sa sv : Nat} {ad : Nat → Nat} {b N oq : Nat} {xs : Nat → Int32} {cu su : Nat} {H : Heap} {locs : List Loc} {ls : Array Slot} {w : pi_W} {i : Nat} (hG : lw_G p s m c meth D cA sa sv ad b N oq xs) (hH : lw_H s D cA ad oq w H locs) (hl : lv_has ls 7 (lw_L ad b oq i)) (hi : i + 6 ≤ N) (hcu : cu + 6 ≤ 601024) (hsu : su + 36 ≤ 7293034) (kend : ∀ (H1 : Heap) (locs1 : List Loc) (w1 : pi_W) (ls1 : Array Slot), lw_H s D cA ad oq w1 H1 locs1 → lv_has ls1 7 (lw_L ad b oq i) → W p l e room_1 s m #[Value.ref b] below meth c H1 locs1 (cu + 6) (su + 36) Q (F0 m 1505 ls1 [])) : W p l e room_1 s m #[Value.ref b] below meth c H locs cu su Q (F0 m 487 ls []) := by
  obtain ⟨hI, hP, hD, hS, ho1, ho2, hof⟩ := id hH
  have C := hG.1
  have hsa := hG.2.1
  have hx := C.1
  have hb := C.2.1
  obtain ⟨e0, he0, fs0, rfl, -, -⟩ := hI.1.at (a := 0) (c := .inr (10, _)) rfl
  refine lv_aload_n hx hb (kd_at lt_8_d 0 rfl) rfl (lv_at hl 1 rfl) ?_
  refine lw_push (j := 1) (jj := 1) hG hS hl (by omega) rfl (kd_at lt_8_d 1 rfl) (kd_at lt_8_d 2 rfl) (kd_at lt_8_d 3 rfl) (kd_at lt_8_d 4 rfl) (kd_at lt_8_d 5 rfl) ?_
  refine lw_push (j := 2) (jj := 2) hG hS hl (by omega) rfl (kd_at lt_8_d 6 rfl) (kd_at lt_8_d 7 rfl) (kd_at lt_8_d 8 rfl) (kd_at lt_8_d 9 rfl) (kd_at lt_8_d 10 rfl) ?_
  refine lw_hq C hsa (z := 118) (na := 2) (cp := 57) (a := 0) (As := [.int (xs (i + 1)), .int (xs (i + 2))]) (d := 24) (restM := []) pz_118 lk_x8 ll_x8 rfl he0 (Nat.le_of_ble_eq_true rfl) (by decide) rfl (lx_8 hI (xs (i + 1)) (xs (i + 2))) (fun r w' q => by rw [q.1.1.1, hI.1.1]) hP hD hS hl.1 (by decide) (by decide) (by show cu ≤ 601024; omega) (by show su ≤ 7293034; omega) (by decide) (kd_at lt_8_d 11 rfl) ?_
  rintro r1 w1 H1 locs1 ⟨hI1, v1, rfl⟩ hP1 hD1 hS1 hz1 hk1
  have hH1 := lw_oq hG hH hI1 hP1 hD1 hS1 hz1 hk1
  obtain ⟨e1, he1, fs1, rfl, -, -⟩ := hI1.1.at (a := 61) (c := .inr (11, _)) rfl
  refine lv_pop hx hb (kd_at lt_8_d 12 rfl) rfl ?_
  refine lv_aload_n hx hb (kd_at lt_8_d 13 rfl) rfl (lv_at hl 2 rfl) ?_
  refine lw_push (j := 1) (jj := 1) hG hS1 hl (by omega) rfl (kd_at lt_8_d 14 rfl) (kd_at lt_8_d 15 rfl) (kd_at lt_8_d 16 rfl) (kd_at lt_8_d 17 rfl) (kd_at lt_8_d 18 rfl) ?_
  refine lw_push (j := 2) (jj := 2) hG hS1 hl (by omega) rfl (kd_at lt_8_d 19 rfl) (kd_at lt_8_d 20 rfl) (kd_at lt_8_d 21 rfl) (kd_at lt_8_d 22 rfl) (kd_at lt_8_d 23 rfl) ?_
  refine lw_hq C hsa (z := 230) (na := 2) (cp := 60) (a := 61) (As := [.int (xs (i + 1)), .int (xs (i + 2))]) (d := 24) (restM := []) pz_230 lk_m8 ll_m8 rfl he1 (Nat.le_of_ble_eq_true rfl) (by decide) rfl (lm_8 hI1 (xs (i + 1)) (xs (i + 2))) (fun r w' q => by rw [q.1.1.1, hI1.1.1]) hP1 hD1 hS1 hl.1 (by decide) (by decide) (by show cu ≤ 601024; omega) (by show su ≤ 7293034; omega) (by decide) (kd_at lt_8_d 24 rfl) ?_
  rintro r2 w2 H2 locs2 ⟨hI2, v2, rfl⟩ hP2 hD2 hS2 hz2 hk2
  have hH2 := lw_oq hG hH1 hI2 hP2 hD2 hS2 hz2 hk2
  refine lv_pop hx hb (kd_at lt_8_d 25 rfl) rfl ?_
  refine lv_goto (tgt := 1505) hx hb (kd_at lt_8_d 26 rfl) rfl ?_
  exact W.widen (by omega) (by omega) (kend H2 locs2 w2 ls hH2 hl)
def lt_9 : List (Nat × Instr × Nat) := [(524, .aload_n 1, 1), (525, .aload_n 0, 1), (526, .iload 4, 2), (528, .iconst 1, 1), (529, .iadd, 1), (530, .iaload, 1), (531, .aload_n 0, 1), (532, .iload 4, 2), (534, .iconst 2, 1), (535, .iadd, 1), (536, .iaload, 1), (537, .invokevirtual 61, 3), (540, .pop, 1), (541, .aload_n 2, 1), (542, .aload_n 0, 1), (543, .iload 4, 2), (545, .iconst 1, 1), (546, .iadd, 1), (547, .iaload, 1), (548, .aload_n 0, 1), (549, .iload 4, 2), (551, .iconst 2, 1), (552, .iadd, 1), (553, .iaload, 1), (554, .invokevirtual 64, 3), (557, .pop, 1), (558, .goto 947, 3)]
set_option maxRecDepth 100000 in
theorem lt_9_d : (lt_9.all fun q => decide (decode code q.1 = .ok (q.2.1, q.2.2))) = true := by decide +kernel
theorem ll_x9 : Cond.methodLink "ReadBoundLaw" 61 mn_119 ∈ lw_tbl := List.mem_of_getElem? (i := 790) (by decide +kernel)
theorem ll_m9 : Cond.methodLink "ReadBoundLaw" 64 mn_231 ∈ lw_tbl := List.mem_of_getElem? (i := 1572) (by decide +kernel)
set_option maxRecDepth 100000 in
theorem lc_case9 {p : Program} {l : Launch} {e : Env} {s : State} {m : MethodId} {below : List Frame} {meth : Method} {c : Code} {Q : State → Prop} {D : va_G} {cA : Nat → ClassId} {sa sv : Nat} {ad : Nat → Nat} {b N oq : Nat} {xs : Nat → Int32} {cu su : Nat} {H : Heap} {locs : List Loc} {ls : Array Slot} {w : pi_W} {i : Nat} (hG : lw_G p s m c meth D cA sa sv ad b N oq xs) (hH : lw_H s D cA ad oq w H locs) (hl : lv_has ls 7 (lw_L ad b oq i)) (hi : i + 6 ≤ N) (hcu : cu + 6 ≤ 601024) (hsu : su + 36 ≤ 7293034) (kend : ∀ (H1 : Heap) (locs1 : List Loc) (w1 : pi_W) (ls1 : Array Slot), lw_H s D cA ad oq w1 H1 locs1 → lv_has ls1 7 (lw_L ad b oq i) → W p l e room_1 s m #[Value.ref b] below meth c H1 locs1 (cu + 6) (su + 36) Q (F0 m 1505 ls1 [])) : W p l e room_1 s m #[Value.ref b] below meth c H locs cu su Q (F0 m 524 ls []) := by
  obtain ⟨hI, hP, hD, hS, ho1, ho2, hof⟩ := id hH
  have C := hG.1
  have hsa := hG.2.1
  have hx := C.1
  have hb := C.2.1
  obtain ⟨e0, he0, fs0, rfl, -, -⟩ := hI.1.at (a := 0) (c := .inr (10, _)) rfl
  refine lv_aload_n hx hb (kd_at lt_9_d 0 rfl) rfl (lv_at hl 1 rfl) ?_
  refine lw_push (j := 1) (jj := 1) hG hS hl (by omega) rfl (kd_at lt_9_d 1 rfl) (kd_at lt_9_d 2 rfl) (kd_at lt_9_d 3 rfl) (kd_at lt_9_d 4 rfl) (kd_at lt_9_d 5 rfl) ?_
  refine lw_push (j := 2) (jj := 2) hG hS hl (by omega) rfl (kd_at lt_9_d 6 rfl) (kd_at lt_9_d 7 rfl) (kd_at lt_9_d 8 rfl) (kd_at lt_9_d 9 rfl) (kd_at lt_9_d 10 rfl) ?_
  refine lw_hq C hsa (z := 119) (na := 2) (cp := 61) (a := 0) (As := [.int (xs (i + 1)), .int (xs (i + 2))]) (d := 24) (restM := []) pz_119 lk_x9 ll_x9 rfl he0 (Nat.le_of_ble_eq_true rfl) (by decide) rfl (lx_9 hI (xs (i + 1)) (xs (i + 2))) (fun r w' q => by rw [q.1.1.1, hI.1.1]) hP hD hS hl.1 (by decide) (by decide) (by show cu ≤ 601024; omega) (by show su ≤ 7293034; omega) (by decide) (kd_at lt_9_d 11 rfl) ?_
  rintro r1 w1 H1 locs1 ⟨hI1, v1, rfl⟩ hP1 hD1 hS1 hz1 hk1
  have hH1 := lw_oq hG hH hI1 hP1 hD1 hS1 hz1 hk1
  obtain ⟨e1, he1, fs1, rfl, -, -⟩ := hI1.1.at (a := 61) (c := .inr (11, _)) rfl
  refine lv_pop hx hb (kd_at lt_9_d 12 rfl) rfl ?_
  refine lv_aload_n hx hb (kd_at lt_9_d 13 rfl) rfl (lv_at hl 2 rfl) ?_
  refine lw_push (j := 1) (jj := 1) hG hS1 hl (by omega) rfl (kd_at lt_9_d 14 rfl) (kd_at lt_9_d 15 rfl) (kd_at lt_9_d 16 rfl) (kd_at lt_9_d 17 rfl) (kd_at lt_9_d 18 rfl) ?_
  refine lw_push (j := 2) (jj := 2) hG hS1 hl (by omega) rfl (kd_at lt_9_d 19 rfl) (kd_at lt_9_d 20 rfl) (kd_at lt_9_d 21 rfl) (kd_at lt_9_d 22 rfl) (kd_at lt_9_d 23 rfl) ?_
  refine lw_hq C hsa (z := 231) (na := 2) (cp := 64) (a := 61) (As := [.int (xs (i + 1)), .int (xs (i + 2))]) (d := 24) (restM := []) pz_231 lk_m9 ll_m9 rfl he1 (Nat.le_of_ble_eq_true rfl) (by decide) rfl (lm_9 hI1 (xs (i + 1)) (xs (i + 2))) (fun r w' q => by rw [q.1.1.1, hI1.1.1]) hP1 hD1 hS1 hl.1 (by decide) (by decide) (by show cu ≤ 601024; omega) (by show su ≤ 7293034; omega) (by decide) (kd_at lt_9_d 24 rfl) ?_
  rintro r2 w2 H2 locs2 ⟨hI2, v2, rfl⟩ hP2 hD2 hS2 hz2 hk2
  have hH2 := lw_oq hG hH1 hI2 hP2 hD2 hS2 hz2 hk2
  refine lv_pop hx hb (kd_at lt_9_d 25 rfl) rfl ?_
  refine lv_goto (tgt := 1505) hx hb (kd_at lt_9_d 26 rfl) rfl ?_
  exact W.widen (by omega) (by omega) (kend H2 locs2 w2 ls hH2 hl)
def lt_10 : List (Nat × Instr × Nat) := [(561, .aload_n 1, 1), (562, .aload_n 0, 1), (563, .iload 4, 2), (565, .iconst 1, 1), (566, .iadd, 1), (567, .iaload, 1), (568, .aload_n 0, 1), (569, .iload 4, 2), (571, .iconst 2, 1), (572, .iadd, 1), (573, .iaload, 1), (574, .invokevirtual 65, 3), (577, .pop, 1), (578, .aload_n 2, 1), (579, .aload_n 0, 1), (580, .iload 4, 2), (582, .iconst 1, 1), (583, .iadd, 1), (584, .iaload, 1), (585, .aload_n 0, 1), (586, .iload 4, 2), (588, .iconst 2, 1), (589, .iadd, 1), (590, .iaload, 1), (591, .invokevirtual 68, 3), (594, .pop, 1), (595, .goto 910, 3)]
set_option maxRecDepth 100000 in
theorem lt_10_d : (lt_10.all fun q => decide (decode code q.1 = .ok (q.2.1, q.2.2))) = true := by decide +kernel
theorem ll_x10 : Cond.methodLink "ReadBoundLaw" 65 mn_120 ∈ lw_tbl := List.mem_of_getElem? (i := 794) (by decide +kernel)
theorem ll_m10 : Cond.methodLink "ReadBoundLaw" 68 mn_232 ∈ lw_tbl := List.mem_of_getElem? (i := 1596) (by decide +kernel)
set_option maxRecDepth 100000 in
theorem lc_case10 {p : Program} {l : Launch} {e : Env} {s : State} {m : MethodId} {below : List Frame} {meth : Method} {c : Code} {Q : State → Prop} {D : va_G} {cA : Nat → ClassId} {sa sv : Nat} {ad : Nat → Nat} {b N oq : Nat} {xs : Nat → Int32} {cu su : Nat} {H : Heap} {locs : List Loc} {ls : Array Slot} {w : pi_W} {i : Nat} (hG : lw_G p s m c meth D cA sa sv ad b N oq xs) (hH : lw_H s D cA ad oq w H locs) (hl : lv_has ls 7 (lw_L ad b oq i)) (hi : i + 6 ≤ N) (hcu : cu + 6 ≤ 601024) (hsu : su + 36 ≤ 7293034) (kend : ∀ (H1 : Heap) (locs1 : List Loc) (w1 : pi_W) (ls1 : Array Slot), lw_H s D cA ad oq w1 H1 locs1 → lv_has ls1 7 (lw_L ad b oq i) → W p l e room_1 s m #[Value.ref b] below meth c H1 locs1 (cu + 6) (su + 36) Q (F0 m 1505 ls1 [])) : W p l e room_1 s m #[Value.ref b] below meth c H locs cu su Q (F0 m 561 ls []) := by
  obtain ⟨hI, hP, hD, hS, ho1, ho2, hof⟩ := id hH
  have C := hG.1
  have hsa := hG.2.1
  have hx := C.1
  have hb := C.2.1
  obtain ⟨e0, he0, fs0, rfl, -, -⟩ := hI.1.at (a := 0) (c := .inr (10, _)) rfl
  refine lv_aload_n hx hb (kd_at lt_10_d 0 rfl) rfl (lv_at hl 1 rfl) ?_
  refine lw_push (j := 1) (jj := 1) hG hS hl (by omega) rfl (kd_at lt_10_d 1 rfl) (kd_at lt_10_d 2 rfl) (kd_at lt_10_d 3 rfl) (kd_at lt_10_d 4 rfl) (kd_at lt_10_d 5 rfl) ?_
  refine lw_push (j := 2) (jj := 2) hG hS hl (by omega) rfl (kd_at lt_10_d 6 rfl) (kd_at lt_10_d 7 rfl) (kd_at lt_10_d 8 rfl) (kd_at lt_10_d 9 rfl) (kd_at lt_10_d 10 rfl) ?_
  refine lw_hq C hsa (z := 120) (na := 2) (cp := 65) (a := 0) (As := [.int (xs (i + 1)), .int (xs (i + 2))]) (d := 24) (restM := []) pz_120 lk_x10 ll_x10 rfl he0 (Nat.le_of_ble_eq_true rfl) (by decide) rfl (lx_10 hI (xs (i + 1)) (xs (i + 2))) (fun r w' q => by rw [q.1.1.1, hI.1.1]) hP hD hS hl.1 (by decide) (by decide) (by show cu ≤ 601024; omega) (by show su ≤ 7293034; omega) (by decide) (kd_at lt_10_d 11 rfl) ?_
  rintro r1 w1 H1 locs1 ⟨hI1, v1, rfl⟩ hP1 hD1 hS1 hz1 hk1
  have hH1 := lw_oq hG hH hI1 hP1 hD1 hS1 hz1 hk1
  obtain ⟨e1, he1, fs1, rfl, -, -⟩ := hI1.1.at (a := 61) (c := .inr (11, _)) rfl
  refine lv_pop hx hb (kd_at lt_10_d 12 rfl) rfl ?_
  refine lv_aload_n hx hb (kd_at lt_10_d 13 rfl) rfl (lv_at hl 2 rfl) ?_
  refine lw_push (j := 1) (jj := 1) hG hS1 hl (by omega) rfl (kd_at lt_10_d 14 rfl) (kd_at lt_10_d 15 rfl) (kd_at lt_10_d 16 rfl) (kd_at lt_10_d 17 rfl) (kd_at lt_10_d 18 rfl) ?_
  refine lw_push (j := 2) (jj := 2) hG hS1 hl (by omega) rfl (kd_at lt_10_d 19 rfl) (kd_at lt_10_d 20 rfl) (kd_at lt_10_d 21 rfl) (kd_at lt_10_d 22 rfl) (kd_at lt_10_d 23 rfl) ?_
  refine lw_hq C hsa (z := 232) (na := 2) (cp := 68) (a := 61) (As := [.int (xs (i + 1)), .int (xs (i + 2))]) (d := 24) (restM := []) pz_232 lk_m10 ll_m10 rfl he1 (Nat.le_of_ble_eq_true rfl) (by decide) rfl (lm_10 hI1 (xs (i + 1)) (xs (i + 2))) (fun r w' q => by rw [q.1.1.1, hI1.1.1]) hP1 hD1 hS1 hl.1 (by decide) (by decide) (by show cu ≤ 601024; omega) (by show su ≤ 7293034; omega) (by decide) (kd_at lt_10_d 24 rfl) ?_
  rintro r2 w2 H2 locs2 ⟨hI2, v2, rfl⟩ hP2 hD2 hS2 hz2 hk2
  have hH2 := lw_oq hG hH1 hI2 hP2 hD2 hS2 hz2 hk2
  refine lv_pop hx hb (kd_at lt_10_d 25 rfl) rfl ?_
  refine lv_goto (tgt := 1505) hx hb (kd_at lt_10_d 26 rfl) rfl ?_
  exact W.widen (by omega) (by omega) (kend H2 locs2 w2 ls hH2 hl)
def lt_11 : List (Nat × Instr × Nat) := [(598, .aload_n 1, 1), (599, .aload_n 0, 1), (600, .iload 4, 2), (602, .iconst 1, 1), (603, .iadd, 1), (604, .iaload, 1), (605, .invokevirtual 69, 3), (608, .pop, 1), (609, .aload_n 2, 1), (610, .aload_n 0, 1), (611, .iload 4, 2), (613, .iconst 1, 1), (614, .iadd, 1), (615, .iaload, 1), (616, .invokevirtual 72, 3), (619, .pop, 1), (620, .goto 885, 3)]
set_option maxRecDepth 100000 in
theorem lt_11_d : (lt_11.all fun q => decide (decode code q.1 = .ok (q.2.1, q.2.2))) = true := by decide +kernel
theorem ll_x11 : Cond.methodLink "ReadBoundLaw" 69 mn_121 ∈ lw_tbl := List.mem_of_getElem? (i := 798) (by decide +kernel)
theorem ll_m11 : Cond.methodLink "ReadBoundLaw" 72 mn_233 ∈ lw_tbl := List.mem_of_getElem? (i := 1608) (by decide +kernel)
set_option maxRecDepth 100000 in
theorem lc_case11 {p : Program} {l : Launch} {e : Env} {s : State} {m : MethodId} {below : List Frame} {meth : Method} {c : Code} {Q : State → Prop} {D : va_G} {cA : Nat → ClassId} {sa sv : Nat} {ad : Nat → Nat} {b N oq : Nat} {xs : Nat → Int32} {cu su : Nat} {H : Heap} {locs : List Loc} {ls : Array Slot} {w : pi_W} {i : Nat} (hG : lw_G p s m c meth D cA sa sv ad b N oq xs) (hH : lw_H s D cA ad oq w H locs) (hl : lv_has ls 7 (lw_L ad b oq i)) (hi : i + 6 ≤ N) (hcu : cu + 6 ≤ 601024) (hsu : su + 36 ≤ 7293034) (kend : ∀ (H1 : Heap) (locs1 : List Loc) (w1 : pi_W) (ls1 : Array Slot), lw_H s D cA ad oq w1 H1 locs1 → lv_has ls1 7 (lw_L ad b oq i) → W p l e room_1 s m #[Value.ref b] below meth c H1 locs1 (cu + 6) (su + 36) Q (F0 m 1505 ls1 [])) : W p l e room_1 s m #[Value.ref b] below meth c H locs cu su Q (F0 m 598 ls []) := by
  obtain ⟨hI, hP, hD, hS, ho1, ho2, hof⟩ := id hH
  have C := hG.1
  have hsa := hG.2.1
  have hx := C.1
  have hb := C.2.1
  obtain ⟨e0, he0, fs0, rfl, -, -⟩ := hI.1.at (a := 0) (c := .inr (10, _)) rfl
  refine lv_aload_n hx hb (kd_at lt_11_d 0 rfl) rfl (lv_at hl 1 rfl) ?_
  refine lw_push (j := 1) (jj := 1) hG hS hl (by omega) rfl (kd_at lt_11_d 1 rfl) (kd_at lt_11_d 2 rfl) (kd_at lt_11_d 3 rfl) (kd_at lt_11_d 4 rfl) (kd_at lt_11_d 5 rfl) ?_
  refine lw_hq C hsa (z := 121) (na := 1) (cp := 69) (a := 0) (As := [.int (xs (i + 1))]) (d := 24) (restM := []) pz_121 lk_x11 ll_x11 rfl he0 (Nat.le_of_ble_eq_true rfl) (by decide) rfl (lx_11 hI (xs (i + 1))) (fun r w' q => by rw [q.1.1.1, hI.1.1]) hP hD hS hl.1 (by decide) (by decide) (by show cu ≤ 601024; omega) (by show su ≤ 7293034; omega) (by decide) (kd_at lt_11_d 6 rfl) ?_
  rintro r1 w1 H1 locs1 ⟨hI1, v1, rfl⟩ hP1 hD1 hS1 hz1 hk1
  have hH1 := lw_oq hG hH hI1 hP1 hD1 hS1 hz1 hk1
  obtain ⟨e1, he1, fs1, rfl, -, -⟩ := hI1.1.at (a := 61) (c := .inr (11, _)) rfl
  refine lv_pop hx hb (kd_at lt_11_d 7 rfl) rfl ?_
  refine lv_aload_n hx hb (kd_at lt_11_d 8 rfl) rfl (lv_at hl 2 rfl) ?_
  refine lw_push (j := 1) (jj := 1) hG hS1 hl (by omega) rfl (kd_at lt_11_d 9 rfl) (kd_at lt_11_d 10 rfl) (kd_at lt_11_d 11 rfl) (kd_at lt_11_d 12 rfl) (kd_at lt_11_d 13 rfl) ?_
  refine lw_hq C hsa (z := 233) (na := 1) (cp := 72) (a := 61) (As := [.int (xs (i + 1))]) (d := 24) (restM := []) pz_233 lk_m11 ll_m11 rfl he1 (Nat.le_of_ble_eq_true rfl) (by decide) rfl (lm_11 hI1 (xs (i + 1))) (fun r w' q => by rw [q.1.1.1, hI1.1.1]) hP1 hD1 hS1 hl.1 (by decide) (by decide) (by show cu ≤ 601024; omega) (by show su ≤ 7293034; omega) (by decide) (kd_at lt_11_d 14 rfl) ?_
  rintro r2 w2 H2 locs2 ⟨hI2, v2, rfl⟩ hP2 hD2 hS2 hz2 hk2
  have hH2 := lw_oq hG hH1 hI2 hP2 hD2 hS2 hz2 hk2
  refine lv_pop hx hb (kd_at lt_11_d 15 rfl) rfl ?_
  refine lv_goto (tgt := 1505) hx hb (kd_at lt_11_d 16 rfl) rfl ?_
  exact W.widen (by omega) (by omega) (kend H2 locs2 w2 ls hH2 hl)
def lt_12 : List (Nat × Instr × Nat) := [(623, .aload_n 1, 1), (624, .aload_n 0, 1), (625, .iload 4, 2), (627, .iconst 1, 1), (628, .iadd, 1), (629, .iaload, 1), (630, .aload_n 0, 1), (631, .iload 4, 2), (633, .iconst 2, 1), (634, .iadd, 1), (635, .iaload, 1), (636, .invokevirtual 73, 3), (639, .pop, 1), (640, .aload_n 2, 1), (641, .aload_n 0, 1), (642, .iload 4, 2), (644, .iconst 1, 1), (645, .iadd, 1), (646, .iaload, 1), (647, .aload_n 0, 1), (648, .iload 4, 2), (650, .iconst 2, 1), (651, .iadd, 1), (652, .iaload, 1), (653, .invokevirtual 76, 3), (656, .pop, 1), (657, .goto 848, 3)]
set_option maxRecDepth 100000 in
theorem lt_12_d : (lt_12.all fun q => decide (decode code q.1 = .ok (q.2.1, q.2.2))) = true := by decide +kernel
theorem ll_x12 : Cond.methodLink "ReadBoundLaw" 73 mn_122 ∈ lw_tbl := List.mem_of_getElem? (i := 802) (by decide +kernel)
theorem ll_m12 : Cond.methodLink "ReadBoundLaw" 76 mn_234 ∈ lw_tbl := List.mem_of_getElem? (i := 1624) (by decide +kernel)
set_option maxRecDepth 100000 in
theorem lc_case12 {p : Program} {l : Launch} {e : Env} {s : State} {m : MethodId} {below : List Frame} {meth : Method} {c : Code} {Q : State → Prop} {D : va_G} {cA : Nat → ClassId} {sa sv : Nat} {ad : Nat → Nat} {b N oq : Nat} {xs : Nat → Int32} {cu su : Nat} {H : Heap} {locs : List Loc} {ls : Array Slot} {w : pi_W} {i : Nat} (hG : lw_G p s m c meth D cA sa sv ad b N oq xs) (hH : lw_H s D cA ad oq w H locs) (hl : lv_has ls 7 (lw_L ad b oq i)) (hi : i + 6 ≤ N) (hcu : cu + 6 ≤ 601024) (hsu : su + 36 ≤ 7293034) (kend : ∀ (H1 : Heap) (locs1 : List Loc) (w1 : pi_W) (ls1 : Array Slot), lw_H s D cA ad oq w1 H1 locs1 → lv_has ls1 7 (lw_L ad b oq i) → W p l e room_1 s m #[Value.ref b] below meth c H1 locs1 (cu + 6) (su + 36) Q (F0 m 1505 ls1 [])) : W p l e room_1 s m #[Value.ref b] below meth c H locs cu su Q (F0 m 623 ls []) := by
  obtain ⟨hI, hP, hD, hS, ho1, ho2, hof⟩ := id hH
  have C := hG.1
  have hsa := hG.2.1
  have hx := C.1
  have hb := C.2.1
  obtain ⟨e0, he0, fs0, rfl, -, -⟩ := hI.1.at (a := 0) (c := .inr (10, _)) rfl
  refine lv_aload_n hx hb (kd_at lt_12_d 0 rfl) rfl (lv_at hl 1 rfl) ?_
  refine lw_push (j := 1) (jj := 1) hG hS hl (by omega) rfl (kd_at lt_12_d 1 rfl) (kd_at lt_12_d 2 rfl) (kd_at lt_12_d 3 rfl) (kd_at lt_12_d 4 rfl) (kd_at lt_12_d 5 rfl) ?_
  refine lw_push (j := 2) (jj := 2) hG hS hl (by omega) rfl (kd_at lt_12_d 6 rfl) (kd_at lt_12_d 7 rfl) (kd_at lt_12_d 8 rfl) (kd_at lt_12_d 9 rfl) (kd_at lt_12_d 10 rfl) ?_
  refine lw_hq C hsa (z := 122) (na := 2) (cp := 73) (a := 0) (As := [.int (xs (i + 1)), .int (xs (i + 2))]) (d := 24) (restM := []) pz_122 lk_x12 ll_x12 rfl he0 (Nat.le_of_ble_eq_true rfl) (by decide) rfl (lx_12 hI (xs (i + 1)) (xs (i + 2))) (fun r w' q => by rw [q.1.1.1, hI.1.1]) hP hD hS hl.1 (by decide) (by decide) (by show cu ≤ 601024; omega) (by show su ≤ 7293034; omega) (by decide) (kd_at lt_12_d 11 rfl) ?_
  rintro r1 w1 H1 locs1 ⟨hI1, v1, rfl⟩ hP1 hD1 hS1 hz1 hk1
  have hH1 := lw_oq hG hH hI1 hP1 hD1 hS1 hz1 hk1
  obtain ⟨e1, he1, fs1, rfl, -, -⟩ := hI1.1.at (a := 61) (c := .inr (11, _)) rfl
  refine lv_pop hx hb (kd_at lt_12_d 12 rfl) rfl ?_
  refine lv_aload_n hx hb (kd_at lt_12_d 13 rfl) rfl (lv_at hl 2 rfl) ?_
  refine lw_push (j := 1) (jj := 1) hG hS1 hl (by omega) rfl (kd_at lt_12_d 14 rfl) (kd_at lt_12_d 15 rfl) (kd_at lt_12_d 16 rfl) (kd_at lt_12_d 17 rfl) (kd_at lt_12_d 18 rfl) ?_
  refine lw_push (j := 2) (jj := 2) hG hS1 hl (by omega) rfl (kd_at lt_12_d 19 rfl) (kd_at lt_12_d 20 rfl) (kd_at lt_12_d 21 rfl) (kd_at lt_12_d 22 rfl) (kd_at lt_12_d 23 rfl) ?_
  refine lw_hq C hsa (z := 234) (na := 2) (cp := 76) (a := 61) (As := [.int (xs (i + 1)), .int (xs (i + 2))]) (d := 24) (restM := []) pz_234 lk_m12 ll_m12 rfl he1 (Nat.le_of_ble_eq_true rfl) (by decide) rfl (lm_12 hI1 (xs (i + 1)) (xs (i + 2))) (fun r w' q => by rw [q.1.1.1, hI1.1.1]) hP1 hD1 hS1 hl.1 (by decide) (by decide) (by show cu ≤ 601024; omega) (by show su ≤ 7293034; omega) (by decide) (kd_at lt_12_d 24 rfl) ?_
  rintro r2 w2 H2 locs2 ⟨hI2, v2, rfl⟩ hP2 hD2 hS2 hz2 hk2
  have hH2 := lw_oq hG hH1 hI2 hP2 hD2 hS2 hz2 hk2
  refine lv_pop hx hb (kd_at lt_12_d 25 rfl) rfl ?_
  refine lv_goto (tgt := 1505) hx hb (kd_at lt_12_d 26 rfl) rfl ?_
  exact W.widen (by omega) (by omega) (kend H2 locs2 w2 ls hH2 hl)
def lt_13 : List (Nat × Instr × Nat) := [(660, .aload_n 1, 1), (661, .aload_n 0, 1), (662, .iload 4, 2), (664, .iconst 1, 1), (665, .iadd, 1), (666, .iaload, 1), (667, .invokevirtual 77, 3), (670, .pop, 1), (671, .aload_n 2, 1), (672, .aload_n 0, 1), (673, .iload 4, 2), (675, .iconst 1, 1), (676, .iadd, 1), (677, .iaload, 1), (678, .invokevirtual 80, 3), (681, .pop, 1), (682, .goto 823, 3)]
set_option maxRecDepth 100000 in
theorem lt_13_d : (lt_13.all fun q => decide (decode code q.1 = .ok (q.2.1, q.2.2))) = true := by decide +kernel
theorem ll_x13 : Cond.methodLink "ReadBoundLaw" 77 mn_123 ∈ lw_tbl := List.mem_of_getElem? (i := 806) (by decide +kernel)
theorem ll_m13 : Cond.methodLink "ReadBoundLaw" 80 mn_235 ∈ lw_tbl := List.mem_of_getElem? (i := 1636) (by decide +kernel)
set_option maxRecDepth 100000 in
theorem lc_case13 {p : Program} {l : Launch} {e : Env} {s : State} {m : MethodId} {below : List Frame} {meth : Method} {c : Code} {Q : State → Prop} {D : va_G} {cA : Nat → ClassId} {sa sv : Nat} {ad : Nat → Nat} {b N oq : Nat} {xs : Nat → Int32} {cu su : Nat} {H : Heap} {locs : List Loc} {ls : Array Slot} {w : pi_W} {i : Nat} (hG : lw_G p s m c meth D cA sa sv ad b N oq xs) (hH : lw_H s D cA ad oq w H locs) (hl : lv_has ls 7 (lw_L ad b oq i)) (hi : i + 6 ≤ N) (hcu : cu + 6 ≤ 601024) (hsu : su + 36 ≤ 7293034) (kend : ∀ (H1 : Heap) (locs1 : List Loc) (w1 : pi_W) (ls1 : Array Slot), lw_H s D cA ad oq w1 H1 locs1 → lv_has ls1 7 (lw_L ad b oq i) → W p l e room_1 s m #[Value.ref b] below meth c H1 locs1 (cu + 6) (su + 36) Q (F0 m 1505 ls1 [])) : W p l e room_1 s m #[Value.ref b] below meth c H locs cu su Q (F0 m 660 ls []) := by
  obtain ⟨hI, hP, hD, hS, ho1, ho2, hof⟩ := id hH
  have C := hG.1
  have hsa := hG.2.1
  have hx := C.1
  have hb := C.2.1
  obtain ⟨e0, he0, fs0, rfl, -, -⟩ := hI.1.at (a := 0) (c := .inr (10, _)) rfl
  refine lv_aload_n hx hb (kd_at lt_13_d 0 rfl) rfl (lv_at hl 1 rfl) ?_
  refine lw_push (j := 1) (jj := 1) hG hS hl (by omega) rfl (kd_at lt_13_d 1 rfl) (kd_at lt_13_d 2 rfl) (kd_at lt_13_d 3 rfl) (kd_at lt_13_d 4 rfl) (kd_at lt_13_d 5 rfl) ?_
  refine lw_hq C hsa (z := 123) (na := 1) (cp := 77) (a := 0) (As := [.int (xs (i + 1))]) (d := 24) (restM := []) pz_123 lk_x13 ll_x13 rfl he0 (Nat.le_of_ble_eq_true rfl) (by decide) rfl (lx_13 hI (xs (i + 1))) (fun r w' q => by rw [q.1.1.1, hI.1.1]) hP hD hS hl.1 (by decide) (by decide) (by show cu ≤ 601024; omega) (by show su ≤ 7293034; omega) (by decide) (kd_at lt_13_d 6 rfl) ?_
  rintro r1 w1 H1 locs1 ⟨hI1, v1, rfl⟩ hP1 hD1 hS1 hz1 hk1
  have hH1 := lw_oq hG hH hI1 hP1 hD1 hS1 hz1 hk1
  obtain ⟨e1, he1, fs1, rfl, -, -⟩ := hI1.1.at (a := 61) (c := .inr (11, _)) rfl
  refine lv_pop hx hb (kd_at lt_13_d 7 rfl) rfl ?_
  refine lv_aload_n hx hb (kd_at lt_13_d 8 rfl) rfl (lv_at hl 2 rfl) ?_
  refine lw_push (j := 1) (jj := 1) hG hS1 hl (by omega) rfl (kd_at lt_13_d 9 rfl) (kd_at lt_13_d 10 rfl) (kd_at lt_13_d 11 rfl) (kd_at lt_13_d 12 rfl) (kd_at lt_13_d 13 rfl) ?_
  refine lw_hq C hsa (z := 235) (na := 1) (cp := 80) (a := 61) (As := [.int (xs (i + 1))]) (d := 24) (restM := []) pz_235 lk_m13 ll_m13 rfl he1 (Nat.le_of_ble_eq_true rfl) (by decide) rfl (lm_13 hI1 (xs (i + 1))) (fun r w' q => by rw [q.1.1.1, hI1.1.1]) hP1 hD1 hS1 hl.1 (by decide) (by decide) (by show cu ≤ 601024; omega) (by show su ≤ 7293034; omega) (by decide) (kd_at lt_13_d 14 rfl) ?_
  rintro r2 w2 H2 locs2 ⟨hI2, v2, rfl⟩ hP2 hD2 hS2 hz2 hk2
  have hH2 := lw_oq hG hH1 hI2 hP2 hD2 hS2 hz2 hk2
  refine lv_pop hx hb (kd_at lt_13_d 15 rfl) rfl ?_
  refine lv_goto (tgt := 1505) hx hb (kd_at lt_13_d 16 rfl) rfl ?_
  exact W.widen (by omega) (by omega) (kend H2 locs2 w2 ls hH2 hl)
def lt_14 : List (Nat × Instr × Nat) := [(685, .aload_n 1, 1), (686, .aload_n 0, 1), (687, .iload 4, 2), (689, .iconst 1, 1), (690, .iadd, 1), (691, .iaload, 1), (692, .invokevirtual 81, 3), (695, .pop, 1), (696, .aload_n 2, 1), (697, .aload_n 0, 1), (698, .iload 4, 2), (700, .iconst 1, 1), (701, .iadd, 1), (702, .iaload, 1), (703, .invokevirtual 84, 3), (706, .pop, 1), (707, .goto 798, 3)]
set_option maxRecDepth 100000 in
theorem lt_14_d : (lt_14.all fun q => decide (decode code q.1 = .ok (q.2.1, q.2.2))) = true := by decide +kernel
theorem ll_x14 : Cond.methodLink "ReadBoundLaw" 81 mn_124 ∈ lw_tbl := List.mem_of_getElem? (i := 810) (by decide +kernel)
theorem ll_m14 : Cond.methodLink "ReadBoundLaw" 84 mn_236 ∈ lw_tbl := List.mem_of_getElem? (i := 1648) (by decide +kernel)
set_option maxRecDepth 100000 in
theorem lc_case14 {p : Program} {l : Launch} {e : Env} {s : State} {m : MethodId} {below : List Frame} {meth : Method} {c : Code} {Q : State → Prop} {D : va_G} {cA : Nat → ClassId} {sa sv : Nat} {ad : Nat → Nat} {b N oq : Nat} {xs : Nat → Int32} {cu su : Nat} {H : Heap} {locs : List Loc} {ls : Array Slot} {w : pi_W} {i : Nat} (hG : lw_G p s m c meth D cA sa sv ad b N oq xs) (hH : lw_H s D cA ad oq w H locs) (hl : lv_has ls 7 (lw_L ad b oq i)) (hi : i + 6 ≤ N) (hcu : cu + 6 ≤ 601024) (hsu : su + 36 ≤ 7293034) (kend : ∀ (H1 : Heap) (locs1 : List Loc) (w1 : pi_W) (ls1 : Array Slot), lw_H s D cA ad oq w1 H1 locs1 → lv_has ls1 7 (lw_L ad b oq i) → W p l e room_1 s m #[Value.ref b] below meth c H1 locs1 (cu + 6) (su + 36) Q (F0 m 1505 ls1 [])) : W p l e room_1 s m #[Value.ref b] below meth c H locs cu su Q (F0 m 685 ls []) := by
  obtain ⟨hI, hP, hD, hS, ho1, ho2, hof⟩ := id hH
  have C := hG.1
  have hsa := hG.2.1
  have hx := C.1
  have hb := C.2.1
  obtain ⟨e0, he0, fs0, rfl, -, -⟩ := hI.1.at (a := 0) (c := .inr (10, _)) rfl
  refine lv_aload_n hx hb (kd_at lt_14_d 0 rfl) rfl (lv_at hl 1 rfl) ?_
  refine lw_push (j := 1) (jj := 1) hG hS hl (by omega) rfl (kd_at lt_14_d 1 rfl) (kd_at lt_14_d 2 rfl) (kd_at lt_14_d 3 rfl) (kd_at lt_14_d 4 rfl) (kd_at lt_14_d 5 rfl) ?_
  refine lw_hq C hsa (z := 124) (na := 1) (cp := 81) (a := 0) (As := [.int (xs (i + 1))]) (d := 24) (restM := []) pz_124 lk_x14 ll_x14 rfl he0 (Nat.le_of_ble_eq_true rfl) (by decide) rfl (lx_14 hI (xs (i + 1))) (fun r w' q => by rw [q.1.1.1, hI.1.1]) hP hD hS hl.1 (by decide) (by decide) (by show cu ≤ 601024; omega) (by show su ≤ 7293034; omega) (by decide) (kd_at lt_14_d 6 rfl) ?_
  rintro r1 w1 H1 locs1 ⟨hI1, v1, rfl⟩ hP1 hD1 hS1 hz1 hk1
  have hH1 := lw_oq hG hH hI1 hP1 hD1 hS1 hz1 hk1
  obtain ⟨e1, he1, fs1, rfl, -, -⟩ := hI1.1.at (a := 61) (c := .inr (11, _)) rfl
  refine lv_pop hx hb (kd_at lt_14_d 7 rfl) rfl ?_
  refine lv_aload_n hx hb (kd_at lt_14_d 8 rfl) rfl (lv_at hl 2 rfl) ?_
  refine lw_push (j := 1) (jj := 1) hG hS1 hl (by omega) rfl (kd_at lt_14_d 9 rfl) (kd_at lt_14_d 10 rfl) (kd_at lt_14_d 11 rfl) (kd_at lt_14_d 12 rfl) (kd_at lt_14_d 13 rfl) ?_
  refine lw_hq C hsa (z := 236) (na := 1) (cp := 84) (a := 61) (As := [.int (xs (i + 1))]) (d := 24) (restM := []) pz_236 lk_m14 ll_m14 rfl he1 (Nat.le_of_ble_eq_true rfl) (by decide) rfl (lm_14 hI1 (xs (i + 1))) (fun r w' q => by rw [q.1.1.1, hI1.1.1]) hP1 hD1 hS1 hl.1 (by decide) (by decide) (by show cu ≤ 601024; omega) (by show su ≤ 7293034; omega) (by decide) (kd_at lt_14_d 14 rfl) ?_
  rintro r2 w2 H2 locs2 ⟨hI2, v2, rfl⟩ hP2 hD2 hS2 hz2 hk2
  have hH2 := lw_oq hG hH1 hI2 hP2 hD2 hS2 hz2 hk2
  refine lv_pop hx hb (kd_at lt_14_d 15 rfl) rfl ?_
  refine lv_goto (tgt := 1505) hx hb (kd_at lt_14_d 16 rfl) rfl ?_
  exact W.widen (by omega) (by omega) (kend H2 locs2 w2 ls hH2 hl)
def lt_15 : List (Nat × Instr × Nat) := [(710, .aload_n 1, 1), (711, .invokevirtual 85, 3), (714, .pop, 1), (715, .aload_n 2, 1), (716, .invokevirtual 88, 3), (719, .pop, 1), (720, .goto 785, 3)]
set_option maxRecDepth 100000 in
theorem lt_15_d : (lt_15.all fun q => decide (decode code q.1 = .ok (q.2.1, q.2.2))) = true := by decide +kernel
theorem ll_x15 : Cond.methodLink "ReadBoundLaw" 85 mn_125 ∈ lw_tbl := List.mem_of_getElem? (i := 826) (by decide +kernel)
theorem ll_m15 : Cond.methodLink "ReadBoundLaw" 88 mn_238 ∈ lw_tbl := List.mem_of_getElem? (i := 1664) (by decide +kernel)
set_option maxRecDepth 100000 in
theorem lc_case15 {p : Program} {l : Launch} {e : Env} {s : State} {m : MethodId} {below : List Frame} {meth : Method} {c : Code} {Q : State → Prop} {D : va_G} {cA : Nat → ClassId} {sa sv : Nat} {ad : Nat → Nat} {b N oq : Nat} {xs : Nat → Int32} {cu su : Nat} {H : Heap} {locs : List Loc} {ls : Array Slot} {w : pi_W} {i : Nat} (hG : lw_G p s m c meth D cA sa sv ad b N oq xs) (hH : lw_H s D cA ad oq w H locs) (hl : lv_has ls 7 (lw_L ad b oq i)) (hi : i + 6 ≤ N) (hcu : cu + 6 ≤ 601024) (hsu : su + 36 ≤ 7293034) (kend : ∀ (H1 : Heap) (locs1 : List Loc) (w1 : pi_W) (ls1 : Array Slot), lw_H s D cA ad oq w1 H1 locs1 → lv_has ls1 7 (lw_L ad b oq i) → W p l e room_1 s m #[Value.ref b] below meth c H1 locs1 (cu + 6) (su + 36) Q (F0 m 1505 ls1 [])) : W p l e room_1 s m #[Value.ref b] below meth c H locs cu su Q (F0 m 710 ls []) := by
  obtain ⟨hI, hP, hD, hS, ho1, ho2, hof⟩ := id hH
  have C := hG.1
  have hsa := hG.2.1
  have hx := C.1
  have hb := C.2.1
  obtain ⟨e0, he0, fs0, rfl, -, -⟩ := hI.1.at (a := 0) (c := .inr (10, _)) rfl
  refine lv_aload_n hx hb (kd_at lt_15_d 0 rfl) rfl (lv_at hl 1 rfl) ?_
  refine lw_hq C hsa (z := 125) (na := 0) (cp := 85) (a := 0) (As := []) (d := 24) (restM := []) pz_125 lk_x15 ll_x15 rfl he0 (Nat.le_of_ble_eq_true rfl) (by decide) rfl (lx_15 hI) (fun r w' q => by rw [q.1.1.1, hI.1.1]) hP hD hS hl.1 (by decide) (by decide) (by show cu ≤ 601024; omega) (by show su ≤ 7293034; omega) (by decide) (kd_at lt_15_d 1 rfl) ?_
  rintro r1 w1 H1 locs1 ⟨hI1, v1, rfl⟩ hP1 hD1 hS1 hz1 hk1
  have hH1 := lw_oq hG hH hI1 hP1 hD1 hS1 hz1 hk1
  obtain ⟨e1, he1, fs1, rfl, -, -⟩ := hI1.1.at (a := 61) (c := .inr (11, _)) rfl
  refine lv_pop hx hb (kd_at lt_15_d 2 rfl) rfl ?_
  refine lv_aload_n hx hb (kd_at lt_15_d 3 rfl) rfl (lv_at hl 2 rfl) ?_
  refine lw_hq C hsa (z := 238) (na := 0) (cp := 88) (a := 61) (As := []) (d := 24) (restM := []) pz_238 lk_m15 ll_m15 rfl he1 (Nat.le_of_ble_eq_true rfl) (by decide) rfl (lm_15 hI1) (fun r w' q => by rw [q.1.1.1, hI1.1.1]) hP1 hD1 hS1 hl.1 (by decide) (by decide) (by show cu ≤ 601024; omega) (by show su ≤ 7293034; omega) (by decide) (kd_at lt_15_d 4 rfl) ?_
  rintro r2 w2 H2 locs2 ⟨hI2, v2, rfl⟩ hP2 hD2 hS2 hz2 hk2
  have hH2 := lw_oq hG hH1 hI2 hP2 hD2 hS2 hz2 hk2
  refine lv_pop hx hb (kd_at lt_15_d 5 rfl) rfl ?_
  refine lv_goto (tgt := 1505) hx hb (kd_at lt_15_d 6 rfl) rfl ?_
  exact W.widen (by omega) (by omega) (kend H2 locs2 w2 ls hH2 hl)
def lt_16 : List (Nat × Instr × Nat) := [(723, .aload_n 1, 1), (724, .aload_n 0, 1), (725, .iload 4, 2), (727, .iconst 1, 1), (728, .iadd, 1), (729, .iaload, 1), (730, .aload_n 0, 1), (731, .iload 4, 2), (733, .iconst 2, 1), (734, .iadd, 1), (735, .iaload, 1), (736, .invokevirtual 89, 3), (739, .pop, 1), (740, .aload_n 2, 1), (741, .aload_n 0, 1), (742, .iload 4, 2), (744, .iconst 1, 1), (745, .iadd, 1), (746, .iaload, 1), (747, .aload_n 0, 1), (748, .iload 4, 2), (750, .iconst 2, 1), (751, .iadd, 1), (752, .iaload, 1), (753, .invokevirtual 92, 3), (756, .pop, 1), (757, .goto 748, 3)]
set_option maxRecDepth 100000 in
theorem lt_16_d : (lt_16.all fun q => decide (decode code q.1 = .ok (q.2.1, q.2.2))) = true := by decide +kernel
theorem ll_x16 : Cond.methodLink "ReadBoundLaw" 89 mn_126 ∈ lw_tbl := List.mem_of_getElem? (i := 834) (by decide +kernel)
theorem ll_m16 : Cond.methodLink "ReadBoundLaw" 92 mn_241 ∈ lw_tbl := List.mem_of_getElem? (i := 1668) (by decide +kernel)
set_option maxRecDepth 100000 in
theorem lc_case16 {p : Program} {l : Launch} {e : Env} {s : State} {m : MethodId} {below : List Frame} {meth : Method} {c : Code} {Q : State → Prop} {D : va_G} {cA : Nat → ClassId} {sa sv : Nat} {ad : Nat → Nat} {b N oq : Nat} {xs : Nat → Int32} {cu su : Nat} {H : Heap} {locs : List Loc} {ls : Array Slot} {w : pi_W} {i : Nat} (hG : lw_G p s m c meth D cA sa sv ad b N oq xs) (hH : lw_H s D cA ad oq w H locs) (hl : lv_has ls 7 (lw_L ad b oq i)) (hi : i + 6 ≤ N) (hcu : cu + 6 ≤ 601024) (hsu : su + 36 ≤ 7293034) (kend : ∀ (H1 : Heap) (locs1 : List Loc) (w1 : pi_W) (ls1 : Array Slot), lw_H s D cA ad oq w1 H1 locs1 → lv_has ls1 7 (lw_L ad b oq i) → W p l e room_1 s m #[Value.ref b] below meth c H1 locs1 (cu + 6) (su + 36) Q (F0 m 1505 ls1 [])) : W p l e room_1 s m #[Value.ref b] below meth c H locs cu su Q (F0 m 723 ls []) := by
  obtain ⟨hI, hP, hD, hS, ho1, ho2, hof⟩ := id hH
  have C := hG.1
  have hsa := hG.2.1
  have hx := C.1
  have hb := C.2.1
  obtain ⟨e0, he0, fs0, rfl, -, -⟩ := hI.1.at (a := 0) (c := .inr (10, _)) rfl
  refine lv_aload_n hx hb (kd_at lt_16_d 0 rfl) rfl (lv_at hl 1 rfl) ?_
  refine lw_push (j := 1) (jj := 1) hG hS hl (by omega) rfl (kd_at lt_16_d 1 rfl) (kd_at lt_16_d 2 rfl) (kd_at lt_16_d 3 rfl) (kd_at lt_16_d 4 rfl) (kd_at lt_16_d 5 rfl) ?_
  refine lw_push (j := 2) (jj := 2) hG hS hl (by omega) rfl (kd_at lt_16_d 6 rfl) (kd_at lt_16_d 7 rfl) (kd_at lt_16_d 8 rfl) (kd_at lt_16_d 9 rfl) (kd_at lt_16_d 10 rfl) ?_
  refine lw_hq C hsa (z := 126) (na := 2) (cp := 89) (a := 0) (As := [.int (xs (i + 1)), .int (xs (i + 2))]) (d := 24) (restM := []) pz_126 lk_x16 ll_x16 rfl he0 (Nat.le_of_ble_eq_true rfl) (by decide) rfl (lx_16 hI (xs (i + 1)) (xs (i + 2))) (fun r w' q => by rw [q.1.1.1, hI.1.1]) hP hD hS hl.1 (by decide) (by decide) (by show cu ≤ 601024; omega) (by show su ≤ 7293034; omega) (by decide) (kd_at lt_16_d 11 rfl) ?_
  rintro r1 w1 H1 locs1 ⟨hI1, v1, rfl⟩ hP1 hD1 hS1 hz1 hk1
  have hH1 := lw_oq hG hH hI1 hP1 hD1 hS1 hz1 hk1
  obtain ⟨e1, he1, fs1, rfl, -, -⟩ := hI1.1.at (a := 61) (c := .inr (11, _)) rfl
  refine lv_pop hx hb (kd_at lt_16_d 12 rfl) rfl ?_
  refine lv_aload_n hx hb (kd_at lt_16_d 13 rfl) rfl (lv_at hl 2 rfl) ?_
  refine lw_push (j := 1) (jj := 1) hG hS1 hl (by omega) rfl (kd_at lt_16_d 14 rfl) (kd_at lt_16_d 15 rfl) (kd_at lt_16_d 16 rfl) (kd_at lt_16_d 17 rfl) (kd_at lt_16_d 18 rfl) ?_
  refine lw_push (j := 2) (jj := 2) hG hS1 hl (by omega) rfl (kd_at lt_16_d 19 rfl) (kd_at lt_16_d 20 rfl) (kd_at lt_16_d 21 rfl) (kd_at lt_16_d 22 rfl) (kd_at lt_16_d 23 rfl) ?_
  refine lw_hq C hsa (z := 241) (na := 2) (cp := 92) (a := 61) (As := [.int (xs (i + 1)), .int (xs (i + 2))]) (d := 24) (restM := []) pz_241 lk_m16 ll_m16 rfl he1 (Nat.le_of_ble_eq_true rfl) (by decide) rfl (lm_16 hI1 (xs (i + 1)) (xs (i + 2))) (fun r w' q => by rw [q.1.1.1, hI1.1.1]) hP1 hD1 hS1 hl.1 (by decide) (by decide) (by show cu ≤ 601024; omega) (by show su ≤ 7293034; omega) (by decide) (kd_at lt_16_d 24 rfl) ?_
  rintro r2 w2 H2 locs2 ⟨hI2, v2, rfl⟩ hP2 hD2 hS2 hz2 hk2
  have hH2 := lw_oq hG hH1 hI2 hP2 hD2 hS2 hz2 hk2
  refine lv_pop hx hb (kd_at lt_16_d 25 rfl) rfl ?_
  refine lv_goto (tgt := 1505) hx hb (kd_at lt_16_d 26 rfl) rfl ?_
  exact W.widen (by omega) (by omega) (kend H2 locs2 w2 ls hH2 hl)
def lt_17 : List (Nat × Instr × Nat) := [(760, .aload_n 1, 1), (761, .aload_n 0, 1), (762, .iload 4, 2), (764, .iconst 1, 1), (765, .iadd, 1), (766, .iaload, 1), (767, .aload_n 0, 1), (768, .iload 4, 2), (770, .iconst 2, 1), (771, .iadd, 1), (772, .iaload, 1), (773, .invokevirtual 93, 3), (776, .pop, 1), (777, .aload_n 2, 1), (778, .aload_n 0, 1), (779, .iload 4, 2), (781, .iconst 1, 1), (782, .iadd, 1), (783, .iaload, 1), (784, .aload_n 0, 1), (785, .iload 4, 2), (787, .iconst 2, 1), (788, .iadd, 1), (789, .iaload, 1), (790, .invokevirtual 96, 3), (793, .pop, 1), (794, .goto 711, 3)]
set_option maxRecDepth 100000 in
theorem lt_17_d : (lt_17.all fun q => decide (decode code q.1 = .ok (q.2.1, q.2.2))) = true := by decide +kernel
theorem ll_x17 : Cond.methodLink "ReadBoundLaw" 93 mn_127 ∈ lw_tbl := List.mem_of_getElem? (i := 843) (by decide +kernel)
theorem ll_m17 : Cond.methodLink "ReadBoundLaw" 96 mn_242 ∈ lw_tbl := List.mem_of_getElem? (i := 1672) (by decide +kernel)
set_option maxRecDepth 100000 in
theorem lc_case17 {p : Program} {l : Launch} {e : Env} {s : State} {m : MethodId} {below : List Frame} {meth : Method} {c : Code} {Q : State → Prop} {D : va_G} {cA : Nat → ClassId} {sa sv : Nat} {ad : Nat → Nat} {b N oq : Nat} {xs : Nat → Int32} {cu su : Nat} {H : Heap} {locs : List Loc} {ls : Array Slot} {w : pi_W} {i : Nat} (hG : lw_G p s m c meth D cA sa sv ad b N oq xs) (hH : lw_H s D cA ad oq w H locs) (hl : lv_has ls 7 (lw_L ad b oq i)) (hi : i + 6 ≤ N) (hcu : cu + 6 ≤ 601024) (hsu : su + 36 ≤ 7293034) (kend : ∀ (H1 : Heap) (locs1 : List Loc) (w1 : pi_W) (ls1 : Array Slot), lw_H s D cA ad oq w1 H1 locs1 → lv_has ls1 7 (lw_L ad b oq i) → W p l e room_1 s m #[Value.ref b] below meth c H1 locs1 (cu + 6) (su + 36) Q (F0 m 1505 ls1 [])) : W p l e room_1 s m #[Value.ref b] below meth c H locs cu su Q (F0 m 760 ls []) := by
  obtain ⟨hI, hP, hD, hS, ho1, ho2, hof⟩ := id hH
  have C := hG.1
  have hsa := hG.2.1
  have hx := C.1
  have hb := C.2.1
  obtain ⟨e0, he0, fs0, rfl, -, -⟩ := hI.1.at (a := 0) (c := .inr (10, _)) rfl
  refine lv_aload_n hx hb (kd_at lt_17_d 0 rfl) rfl (lv_at hl 1 rfl) ?_
  refine lw_push (j := 1) (jj := 1) hG hS hl (by omega) rfl (kd_at lt_17_d 1 rfl) (kd_at lt_17_d 2 rfl) (kd_at lt_17_d 3 rfl) (kd_at lt_17_d 4 rfl) (kd_at lt_17_d 5 rfl) ?_
  refine lw_push (j := 2) (jj := 2) hG hS hl (by omega) rfl (kd_at lt_17_d 6 rfl) (kd_at lt_17_d 7 rfl) (kd_at lt_17_d 8 rfl) (kd_at lt_17_d 9 rfl) (kd_at lt_17_d 10 rfl) ?_
  refine lw_hq C hsa (z := 127) (na := 2) (cp := 93) (a := 0) (As := [.int (xs (i + 1)), .int (xs (i + 2))]) (d := 24) (restM := []) pz_127 lk_x17 ll_x17 rfl he0 (Nat.le_of_ble_eq_true rfl) (by decide) rfl (lx_17 hI (xs (i + 1)) (xs (i + 2))) (fun r w' q => by rw [q.1.1.1, hI.1.1]) hP hD hS hl.1 (by decide) (by decide) (by show cu ≤ 601024; omega) (by show su ≤ 7293034; omega) (by decide) (kd_at lt_17_d 11 rfl) ?_
  rintro r1 w1 H1 locs1 ⟨hI1, v1, rfl⟩ hP1 hD1 hS1 hz1 hk1
  have hH1 := lw_oq hG hH hI1 hP1 hD1 hS1 hz1 hk1
  obtain ⟨e1, he1, fs1, rfl, -, -⟩ := hI1.1.at (a := 61) (c := .inr (11, _)) rfl
  refine lv_pop hx hb (kd_at lt_17_d 12 rfl) rfl ?_
  refine lv_aload_n hx hb (kd_at lt_17_d 13 rfl) rfl (lv_at hl 2 rfl) ?_
  refine lw_push (j := 1) (jj := 1) hG hS1 hl (by omega) rfl (kd_at lt_17_d 14 rfl) (kd_at lt_17_d 15 rfl) (kd_at lt_17_d 16 rfl) (kd_at lt_17_d 17 rfl) (kd_at lt_17_d 18 rfl) ?_
  refine lw_push (j := 2) (jj := 2) hG hS1 hl (by omega) rfl (kd_at lt_17_d 19 rfl) (kd_at lt_17_d 20 rfl) (kd_at lt_17_d 21 rfl) (kd_at lt_17_d 22 rfl) (kd_at lt_17_d 23 rfl) ?_
  refine lw_hq C hsa (z := 242) (na := 2) (cp := 96) (a := 61) (As := [.int (xs (i + 1)), .int (xs (i + 2))]) (d := 24) (restM := []) pz_242 lk_m17 ll_m17 rfl he1 (Nat.le_of_ble_eq_true rfl) (by decide) rfl (lm_17 hI1 (xs (i + 1)) (xs (i + 2))) (fun r w' q => by rw [q.1.1.1, hI1.1.1]) hP1 hD1 hS1 hl.1 (by decide) (by decide) (by show cu ≤ 601024; omega) (by show su ≤ 7293034; omega) (by decide) (kd_at lt_17_d 24 rfl) ?_
  rintro r2 w2 H2 locs2 ⟨hI2, v2, rfl⟩ hP2 hD2 hS2 hz2 hk2
  have hH2 := lw_oq hG hH1 hI2 hP2 hD2 hS2 hz2 hk2
  refine lv_pop hx hb (kd_at lt_17_d 25 rfl) rfl ?_
  refine lv_goto (tgt := 1505) hx hb (kd_at lt_17_d 26 rfl) rfl ?_
  exact W.widen (by omega) (by omega) (kend H2 locs2 w2 ls hH2 hl)
