/-! ===== the law's loop, more; by program ===== -/
def lt_00 : List (Nat × Instr × Nat) := [(224, .aload_n 1, 1), (225, .aload_n 0, 1), (226, .iload 4, 2), (228, .iconst 1, 1), (229, .iadd, 1), (230, .iaload, 1), (231, .aload_n 0, 1), (232, .iload 4, 2), (234, .iconst 2, 1), (235, .iadd, 1), (236, .iaload, 1), (237, .aload_n 0, 1), (238, .iload 4, 2), (240, .iconst 3, 1), (241, .iadd, 1), (242, .iaload, 1), (243, .aload_n 0, 1), (244, .iload 4, 2), (246, .iconst 4, 1), (247, .iadd, 1), (248, .iaload, 1), (249, .aload_n 0, 1), (250, .iload 4, 2), (252, .iconst 5, 1), (253, .iadd, 1), (254, .iaload, 1), (255, .invokevirtual 19, 3), (258, .pop, 1), (259, .aload_n 2, 1), (260, .aload_n 0, 1), (261, .iload 4, 2), (263, .iconst 1, 1), (264, .iadd, 1), (265, .iaload, 1), (266, .aload_n 0, 1), (267, .iload 4, 2), (269, .iconst 2, 1), (270, .iadd, 1), (271, .iaload, 1), (272, .aload_n 0, 1), (273, .iload 4, 2), (275, .iconst 3, 1), (276, .iadd, 1), (277, .iaload, 1), (278, .aload_n 0, 1), (279, .iload 4, 2), (281, .iconst 4, 1), (282, .iadd, 1), (283, .iaload, 1), (284, .aload_n 0, 1), (285, .iload 4, 2), (287, .iconst 5, 1), (288, .iadd, 1), (289, .iaload, 1), (290, .invokevirtual 23, 3), (293, .pop, 1), (294, .goto 1211, 3)]
set_option maxRecDepth 100000 in
theorem lt_00_d : (lt_00.all fun q => decide (decode code q.1 = .ok (q.2.1, q.2.2))) = true := by decide +kernel
theorem ll_x0 : Cond.methodLink "ReadBoundLaw" 19 mn_111 ∈ lw_tbl := List.mem_of_getElem? (i := 459) (by decide +kernel)
theorem ll_m0 : Cond.methodLink "ReadBoundLaw" 23 mn_163 ∈ lw_tbl := List.mem_of_getElem? (i := 1200) (by decide +kernel)
set_option maxRecDepth 100000 in
theorem lc_case0 {p : Program} {l : Launch} {e : Env} {s : State} {m : MethodId} {below : List Frame} {meth : Method} {c : Code} {Q : State → Prop} {D : va_G} {cA : Nat → ClassId} {sa sv : Nat} {ad : Nat → Nat} {b N oq : Nat} {xs : Nat → Int32} {cu su : Nat} {H : Heap} {locs : List Loc} {ls : Array Slot} {w : pi_W} {i : Nat} (hG : lw_G p s m c meth D cA sa sv ad b N oq xs) (hH : lw_H s D cA ad oq w H locs) (hl : lv_has ls 7 (lw_L ad b oq i)) (hi : i + 6 ≤ N) (hcu : cu + 6 ≤ 601024) (hsu : su + 36 ≤ 7293034) (kend : ∀ (H1 : Heap) (locs1 : List Loc) (w1 : pi_W) (ls1 : Array Slot), lw_H s D cA ad oq w1 H1 locs1 → lv_has ls1 7 (lw_L ad b oq i) → W p l e room_1 s m #[Value.ref b] below meth c H1 locs1 (cu + 6) (su + 36) Q (F0 m 1505 ls1 [])) : W p l e room_1 s m #[Value.ref b] below meth c H locs cu su Q (F0 m 224 ls []) := by
  obtain ⟨hI, hP, hD, hS, ho1, ho2, hof⟩ := id hH
  have C := hG.1
  have hsa := hG.2.1
  have hx := C.1
  have hb := C.2.1
  obtain ⟨e0, he0, fs0, rfl, -, -⟩ := hI.1.at (a := 0) (c := .inr (10, _)) rfl
  refine lv_aload_n hx hb (kd_at lt_00_d 0 rfl) rfl (lv_at hl 1 rfl) ?_
  refine lw_push (j := 1) (jj := 1) hG hS hl (by omega) rfl (kd_at lt_00_d 1 rfl) (kd_at lt_00_d 2 rfl) (kd_at lt_00_d 3 rfl) (kd_at lt_00_d 4 rfl) (kd_at lt_00_d 5 rfl) ?_
  refine lw_push (j := 2) (jj := 2) hG hS hl (by omega) rfl (kd_at lt_00_d 6 rfl) (kd_at lt_00_d 7 rfl) (kd_at lt_00_d 8 rfl) (kd_at lt_00_d 9 rfl) (kd_at lt_00_d 10 rfl) ?_
  refine lw_push (j := 3) (jj := 3) hG hS hl (by omega) rfl (kd_at lt_00_d 11 rfl) (kd_at lt_00_d 12 rfl) (kd_at lt_00_d 13 rfl) (kd_at lt_00_d 14 rfl) (kd_at lt_00_d 15 rfl) ?_
  refine lw_push (j := 4) (jj := 4) hG hS hl (by omega) rfl (kd_at lt_00_d 16 rfl) (kd_at lt_00_d 17 rfl) (kd_at lt_00_d 18 rfl) (kd_at lt_00_d 19 rfl) (kd_at lt_00_d 20 rfl) ?_
  refine lw_push (j := 5) (jj := 5) hG hS hl (by omega) rfl (kd_at lt_00_d 21 rfl) (kd_at lt_00_d 22 rfl) (kd_at lt_00_d 23 rfl) (kd_at lt_00_d 24 rfl) (kd_at lt_00_d 25 rfl) ?_
  refine lw_hq C hsa (z := 111) (na := 5) (cp := 19) (a := 0) (As := [.int (xs (i + 1)), .int (xs (i + 2)), .int (xs (i + 3)), .int (xs (i + 4)), .int (xs (i + 5))]) (d := 24) (restM := []) pz_111 lk_x0 ll_x0 rfl he0 (Nat.le_of_ble_eq_true rfl) (by decide) rfl (lx_0 hI (xs (i + 1)) (xs (i + 2)) (xs (i + 3)) (xs (i + 4)) (xs (i + 5))) (fun r w' q => by rw [q.1.1.1, hI.1.1]) hP hD hS hl.1 (by decide) (by decide) (by show cu ≤ 601024; omega) (by show su ≤ 7293034; omega) (by decide) (kd_at lt_00_d 26 rfl) ?_
  rintro r1 w1 H1 locs1 ⟨hI1, v1, rfl⟩ hP1 hD1 hS1 hz1 hk1
  have hH1 := lw_oq hG hH hI1 hP1 hD1 hS1 hz1 hk1
  obtain ⟨e1, he1, fs1, rfl, -, -⟩ := hI1.1.at (a := 61) (c := .inr (11, _)) rfl
  refine lv_pop hx hb (kd_at lt_00_d 27 rfl) rfl ?_
  refine lv_aload_n hx hb (kd_at lt_00_d 28 rfl) rfl (lv_at hl 2 rfl) ?_
  refine lw_push (j := 1) (jj := 1) hG hS1 hl (by omega) rfl (kd_at lt_00_d 29 rfl) (kd_at lt_00_d 30 rfl) (kd_at lt_00_d 31 rfl) (kd_at lt_00_d 32 rfl) (kd_at lt_00_d 33 rfl) ?_
  refine lw_push (j := 2) (jj := 2) hG hS1 hl (by omega) rfl (kd_at lt_00_d 34 rfl) (kd_at lt_00_d 35 rfl) (kd_at lt_00_d 36 rfl) (kd_at lt_00_d 37 rfl) (kd_at lt_00_d 38 rfl) ?_
  refine lw_push (j := 3) (jj := 3) hG hS1 hl (by omega) rfl (kd_at lt_00_d 39 rfl) (kd_at lt_00_d 40 rfl) (kd_at lt_00_d 41 rfl) (kd_at lt_00_d 42 rfl) (kd_at lt_00_d 43 rfl) ?_
  refine lw_push (j := 4) (jj := 4) hG hS1 hl (by omega) rfl (kd_at lt_00_d 44 rfl) (kd_at lt_00_d 45 rfl) (kd_at lt_00_d 46 rfl) (kd_at lt_00_d 47 rfl) (kd_at lt_00_d 48 rfl) ?_
  refine lw_push (j := 5) (jj := 5) hG hS1 hl (by omega) rfl (kd_at lt_00_d 49 rfl) (kd_at lt_00_d 50 rfl) (kd_at lt_00_d 51 rfl) (kd_at lt_00_d 52 rfl) (kd_at lt_00_d 53 rfl) ?_
  refine lw_hq C hsa (z := 163) (na := 5) (cp := 23) (a := 61) (As := [.int (xs (i + 1)), .int (xs (i + 2)), .int (xs (i + 3)), .int (xs (i + 4)), .int (xs (i + 5))]) (d := 24) (restM := []) pz_163 lk_m0 ll_m0 rfl he1 (Nat.le_of_ble_eq_true rfl) (by decide) rfl (lm_0 hI1 (xs (i + 1)) (xs (i + 2)) (xs (i + 3)) (xs (i + 4)) (xs (i + 5))) (fun r w' q => by rw [q.1.1.1, hI1.1.1]) hP1 hD1 hS1 hl.1 (by decide) (by decide) (by show cu ≤ 601024; omega) (by show su ≤ 7293034; omega) (by decide) (kd_at lt_00_d 54 rfl) ?_
  rintro r2 w2 H2 locs2 ⟨hI2, v2, rfl⟩ hP2 hD2 hS2 hz2 hk2
  have hH2 := lw_oq hG hH1 hI2 hP2 hD2 hS2 hz2 hk2
  refine lv_pop hx hb (kd_at lt_00_d 55 rfl) rfl ?_
  refine lv_goto (tgt := 1505) hx hb (kd_at lt_00_d 56 rfl) rfl ?_
  exact W.widen (by omega) (by omega) (kend H2 locs2 w2 ls hH2 hl)
