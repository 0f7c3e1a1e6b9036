def lt_00 : List (Nat × Instr × Nat) := [(224, .aload_n 1, 1), (225, .aload_n 0, 1), (226, .iload 4, 2), (228, .iconst 1, 1), (229, .iadd, 1), (230, .iaload, 1), (231, .aload_n 0, 1), (232, .iload 4, 2), (234, .iconst 2, 1), (235, .iadd, 1), (236, .iaload, 1), (237, .aload_n 0, 1), (238, .iload 4, 2), (240, .iconst 3, 1), (241, .iadd, 1), (242, .iaload, 1), (243, .aload_n 0, 1), (244, .iload 4, 2), (246, .iconst 4, 1), (247, .iadd, 1), (248, .iaload, 1), (249, .aload_n 0, 1), (250, .iload 4, 2), (252, .iconst 5, 1), (253, .iadd, 1), (254, .iaload, 1), (255, .invokevirtual 19, 3), (258, .pop, 1), (259, .aload_n 2, 1), (260, .aload_n 0, 1), (261, .iload 4, 2), (263, .iconst 1, 1), (264, .iadd, 1), (265, .iaload, 1), (266, .aload_n 0, 1), (267, .iload 4, 2), (269, .iconst 2, 1), (270, .iadd, 1), (271, .iaload, 1), (272, .aload_n 0, 1), (273, .iload 4, 2), (275, .iconst 3, 1), (276, .iadd, 1), (277, .iaload, 1), (278, .aload_n 0, 1), (279, .iload 4, 2), (281, .iconst 4, 1), (282, .iadd, 1), (283, .iaload, 1), (284, .aload_n 0, 1), (285, .iload 4, 2), (287, .iconst 5, 1), (288, .iadd, 1), (289, .iaload, 1), (290, .invokevirtual 23, 3), (293, .pop, 1), (294, .goto 1211, 3)]
set_option maxRecDepth 100000 in
theorem lt_00_d : (lt_00.all fun q => decide (decode code q.1 = .ok (q.2.1, q.2.2))) = true := by decide +kernel
theorem ll_x0 : Cond.methodLink "ReadBoundLaw" 19 mn_111 ∈ lw_tbl := List.mem_of_getElem? (i := 459) (by decide +kernel)
theorem ll_m0 : Cond.methodLink "ReadBoundLaw" 23 mn_163 ∈ lw_tbl := List.mem_of_getElem? (i := 1200) (by decide +kernel)
set_option maxRecDepth 100000 in
theorem lc_case0 {p : Program} {l : Launch} {e : Env} {s : State} {m : MethodId} {below : List Frame} {meth : Method} {c : Code} {Q : State → Prop} {D : va_G} {cA : Nat → ClassId} {sa sv : Nat} {ad : Nat → Nat} {b N oq : Nat} {xs : Nat → Int32} {cu su : Nat} {H : Heap} {locs : List Loc} {ls : Array Slot} {w : pi_W} {i : Nat} (hG : lw_G p s m c meth D cA sa sv ad b N oq xs) (hH : lw_H s D cA ad oq w H locs) (hE : lw_e w) (hl : lv_has ls 7 (lw_L ad b oq i)) (hi : i + 6 ≤ N) (hcu : cu + 6 ≤ 601024) (hsu : su + 36 ≤ 7293034) (kend : ∀ (H1 : Heap) (locs1 : List Loc) (w1 : pi_W) (ls1 : Array Slot), lw_H s D cA ad oq w1 H1 locs1 → lw_e w1 → lv_has ls1 7 (lw_L ad b oq i) → W p l e room_1 s m #[Value.ref b] below meth c H1 locs1 (cu + 6) (su + 36) Q (F0 m 1505 ls1 [])) : W p l e room_1 s m #[Value.ref b] below meth c H locs cu su Q (F0 m 224 ls []) := by
  obtain ⟨hI, hP, hD, hS, ho1, ho2, hof⟩ := id hH
  have C := hG.1
  have hsa := hG.2.1
  have hx := C.1
  have hb := C.2.1
  obtain ⟨e0, he0, fs0, rfl, -, -⟩ := hI.1.at (a := 0) (c := .inr (10, _)) rfl
  refine lv_aload_n hx hb (kd_at lt_00_d 0 rfl) rfl (lv_at hl 1 rfl) ?_
  refine lw_push (j := 1) (jj := 1) hG hS hl (by omega) rfl (kd_at lt_00_d 1 rfl) (kd_at lt_00_d 2 rfl) (kd_at lt_00_d 3 rfl) (kd_at lt_00_d 4 rfl) (kd_at lt_00_d 5 rfl) ?_
  refine lw_push (j := 2) (jj := 2) hG hS hl (by omega) rfl (kd_at lt_00_d 6 rfl) (kd_at lt_00_d 7 rfl) (kd_at lt_00_d 8 rfl) (kd_at lt_00_d 9 rfl) (kd_at lt_00_d 10 rfl) ?_
  refine lw_push (j := 3) (jj := 3) hG hS hl (by omega) rfl (kd_at lt_00_d 11 rfl) (kd_at lt_00_d 12 rfl) (kd_at lt_00_d 13 rfl) (kd_at lt_00_d 14 rfl) (kd_at lt_00_d 15 rfl) ?_
  refine lw_push (j := 4) (jj := 4) hG hS hl (by omega) rfl (kd_at lt_00_d 16 rfl) (kd_at lt_00_d 17 rfl) (kd_at lt_00_d 18 rfl) (kd_at lt_00_d 19 rfl) (kd_at lt_00_d 20 rfl) ?_
  refine lw_push (j := 5) (jj := 5) hG hS hl (by omega) rfl (kd_at lt_00_d 21 rfl) (kd_at lt_00_d 22 rfl) (kd_at lt_00_d 23 rfl) (kd_at lt_00_d 24 rfl) (kd_at lt_00_d 25 rfl) ?_
  refine lw_hq C hsa (z := 111) (na := 5) (cp := 19) (a := 0) (As := [.int (xs (i + 1)), .int (xs (i + 2)), .int (xs (i + 3)), .int (xs (i + 4)), .int (xs (i + 5))]) (d := 24) (restM := []) pz_111 lk_x0 ll_x0 rfl he0 (Nat.le_of_ble_eq_true rfl) (by decide) rfl (lx_0 hI (hE.b hI) (xs (i + 1)) (xs (i + 2)) (xs (i + 3)) (xs (i + 4)) (xs (i + 5))) (fun r w' q => by rw [q.1.1.1.1, hI.1.1]) hP hD hS hl.1 (by decide) (by decide) (by show cu ≤ 601024; omega) (by show su ≤ 7293034; omega) (by decide) (kd_at lt_00_d 26 rfl) ?_
  rintro r1 w1 H1 locs1 ⟨⟨hI1, q1⟩, t1, v1, rfl, hv1⟩ hP1 hD1 hS1 hz1 hk1
  have hH1 := lw_oq hG hH hI1 hP1 hD1 hS1 hz1 hk1
  have x12 : gI w1 1 2 = fdB (gI w 1 2) := t1.1
  have x612 : gI w1 61 2 = gI w 61 2 := q1.g (by decide)
  have x383 : gI w1 38 3 = gI w 38 3 := q1.g (by decide)
  have x493 : gI w1 49 3 = gI w 49 3 := q1.g (by decide)
  have x780 : gI w1 78 0 = gI w 78 0 := q1.g (by decide)
  have x781 : gI w1 78 1 = gI w 78 1 := q1.g (by decide)
  obtain ⟨e1, he1, fs1, rfl, -, -⟩ := hI1.1.at (a := 61) (c := .inr (11, _)) rfl
  refine lv_pop hx hb (kd_at lt_00_d 27 rfl) rfl ?_
  refine lv_aload_n hx hb (kd_at lt_00_d 28 rfl) rfl (lv_at hl 2 rfl) ?_
  refine lw_push (j := 1) (jj := 1) hG hS1 hl (by omega) rfl (kd_at lt_00_d 29 rfl) (kd_at lt_00_d 30 rfl) (kd_at lt_00_d 31 rfl) (kd_at lt_00_d 32 rfl) (kd_at lt_00_d 33 rfl) ?_
  refine lw_push (j := 2) (jj := 2) hG hS1 hl (by omega) rfl (kd_at lt_00_d 34 rfl) (kd_at lt_00_d 35 rfl) (kd_at lt_00_d 36 rfl) (kd_at lt_00_d 37 rfl) (kd_at lt_00_d 38 rfl) ?_
  refine lw_push (j := 3) (jj := 3) hG hS1 hl (by omega) rfl (kd_at lt_00_d 39 rfl) (kd_at lt_00_d 40 rfl) (kd_at lt_00_d 41 rfl) (kd_at lt_00_d 42 rfl) (kd_at lt_00_d 43 rfl) ?_
  refine lw_push (j := 4) (jj := 4) hG hS1 hl (by omega) rfl (kd_at lt_00_d 44 rfl) (kd_at lt_00_d 45 rfl) (kd_at lt_00_d 46 rfl) (kd_at lt_00_d 47 rfl) (kd_at lt_00_d 48 rfl) ?_
  refine lw_push (j := 5) (jj := 5) hG hS1 hl (by omega) rfl (kd_at lt_00_d 49 rfl) (kd_at lt_00_d 50 rfl) (kd_at lt_00_d 51 rfl) (kd_at lt_00_d 52 rfl) (kd_at lt_00_d 53 rfl) ?_
  refine lw_hq C hsa (z := 163) (na := 5) (cp := 23) (a := 61) (As := [.int (xs (i + 1)), .int (xs (i + 2)), .int (xs (i + 3)), .int (xs (i + 4)), .int (xs (i + 5))]) (d := 24) (restM := []) pz_163 lk_m0 ll_m0 rfl he1 (Nat.le_of_ble_eq_true rfl) (by decide) rfl (lm_0 hI1 (by rw [x612, ← hE.1]; exact hE.b hI) (xs (i + 1)) (xs (i + 2)) (xs (i + 3)) (xs (i + 4)) (xs (i + 5))) (fun r w' q => by rw [q.1.1.1.1, hI1.1.1]) hP1 hD1 hS1 hl.1 (by decide) (by decide) (by show cu ≤ 601024; omega) (by show su ≤ 7293034; omega) (by decide) (kd_at lt_00_d 54 rfl) ?_
  rintro r2 w2 H2 locs2 ⟨⟨hI2, q2⟩, t2, v2, rfl, hv2⟩ hP2 hD2 hS2 hz2 hk2
  have hH2 := lw_oq hG hH1 hI2 hP2 hD2 hS2 hz2 hk2
  have m12 : gI w2 1 2 = gI w1 1 2 := q2.g (by decide)
  have m612 : gI w2 61 2 = fdB (gI w1 61 2) := t2.1
  have m383 : gI w2 38 3 = gI w1 38 3 := q2.g (by decide)
  have m493 : gI w2 49 3 = gI w1 49 3 := q2.g (by decide)
  have m780 : gI w2 78 0 = gI w1 78 0 := q2.g (by decide)
  have m781 : gI w2 78 1 = gI w1 78 1 := q2.g (by decide)
  have hE2 : lw_e w2 := by
    refine ⟨?_, ?_, ?_, fun n hn => ?_, fun k hk => ?_, fun k hk => ?_, ?_, ?_, ?_, ?_⟩
    · rw [m12, x12, m612, x612, hE.1]
    · rw [m383, x383, m780, x780, hE.2.1]
    · rw [m493, x493, m781, x781, hE.2.2.1]
    · rw [q2.gv (c := 2) (k := 940) (by decide) hn, t1.2 n hn, t2.2 n hn, x612, ← hE.1]
      exact fdT_c (fun n hn => (hE.2.2.2.1 n hn).trans (q1.gv (c := 62) (k := 940) (by decide) hn).symm) _ _ _ _ _ _ n hn
    · rw [q2.gl (c := 3) (k := 29) (by decide) hk, q1.gl (c := 3) (k := 29) (by decide) hk]
      exact hE.2.2.2.2.1 k hk
    · rw [q2.gl (c := 67) (k := 29) (by decide) hk, q1.gl (c := 67) (k := 29) (by decide) hk]
      exact hE.2.2.2.2.2.1 k hk
    · exact hE.2.2.2.2.2.2.1.cp ((q1.CP (fa := 5) (na := 6) (by decide) (by decide)).tr (q2.CP (fa := 5) (na := 6) (by decide) (by decide))) ((q1.MP (sa := 63) (so := 0) (ma := 66) (mo := 0) (N := 115) (M := 27) (by decide) (by decide) (by decide) (by decide)).tr (q2.MP (sa := 63) (so := 0) (ma := 66) (mo := 0) (N := 115) (M := 27) (by decide) (by decide) (by decide) (by decide)))
    · exact hE.2.2.2.2.2.2.2.1.cp ((q1.CP (fa := 40) (na := 41) (by decide) (by decide)).tr (q2.CP (fa := 40) (na := 41) (by decide) (by decide))) ((q1.MP (sa := 76) (so := 0) (ma := 77) (mo := 0) (N := 822) (M := 54) (by decide) (by decide) (by decide) (by decide)).tr (q2.MP (sa := 76) (so := 0) (ma := 77) (mo := 0) (N := 822) (M := 54) (by decide) (by decide) (by decide) (by decide)))
    · exact hE.2.2.2.2.2.2.2.2.1.cp ((q1.CP (fa := 51) (na := 52) (by decide) (by decide)).tr (q2.CP (fa := 51) (na := 52) (by decide) (by decide))) ((q1.MP (sa := 76) (so := 411) (ma := 77) (mo := 27) (N := 822) (M := 54) (by decide) (by decide) (by decide) (by decide)).tr (q2.MP (sa := 76) (so := 411) (ma := 77) (mo := 27) (N := 822) (M := 54) (by decide) (by decide) (by decide) (by decide)))
    · unfold ft_e
      rw [q2.g (c := 1) (i := 10) (by decide), q1.g (c := 1) (i := 10) (by decide), q2.g (c := 61) (i := 15) (by decide), q1.g (c := 61) (i := 15) (by decide)]
      exact hE.2.2.2.2.2.2.2.2.2
  refine lv_pop hx hb (kd_at lt_00_d 55 rfl) rfl ?_
  refine lv_goto (tgt := 1505) hx hb (kd_at lt_00_d 56 rfl) rfl ?_
  exact W.widen (by omega) (by omega) (kend H2 locs2 w2 ls hH2 hE2 hl)
def lt_1 : List (Nat × Instr × Nat) := [(297, .aload_n 1, 1), (298, .aload_n 0, 1), (299, .iload 4, 2), (301, .iconst 1, 1), (302, .iadd, 1), (303, .iaload, 1), (304, .invokevirtual 24, 3), (307, .pop, 1), (308, .aload_n 2, 1), (309, .aload_n 0, 1), (310, .iload 4, 2), (312, .iconst 1, 1), (313, .iadd, 1), (314, .iaload, 1), (315, .invokevirtual 28, 3), (318, .pop, 1), (319, .goto 1186, 3)]
set_option maxRecDepth 100000 in
theorem lt_1_d : (lt_1.all fun q => decide (decode code q.1 = .ok (q.2.1, q.2.2))) = true := by decide +kernel
theorem ll_x1 : Cond.methodLink "ReadBoundLaw" 24 mn_112 ∈ lw_tbl := List.mem_of_getElem? (i := 467) (by decide +kernel)
theorem ll_m1 : Cond.methodLink "ReadBoundLaw" 28 mn_165 ∈ lw_tbl := List.mem_of_getElem? (i := 1209) (by decide +kernel)
set_option maxRecDepth 100000 in
theorem lc_case1 {p : Program} {l : Launch} {e : Env} {s : State} {m : MethodId} {below : List Frame} {meth : Method} {c : Code} {Q : State → Prop} {D : va_G} {cA : Nat → ClassId} {sa sv : Nat} {ad : Nat → Nat} {b N oq : Nat} {xs : Nat → Int32} {cu su : Nat} {H : Heap} {locs : List Loc} {ls : Array Slot} {w : pi_W} {i : Nat} (hG : lw_G p s m c meth D cA sa sv ad b N oq xs) (hH : lw_H s D cA ad oq w H locs) (hE : lw_e w) (hl : lv_has ls 7 (lw_L ad b oq i)) (hi : i + 6 ≤ N) (hcu : cu + 6 ≤ 601024) (hsu : su + 36 ≤ 7293034) (kend : ∀ (H1 : Heap) (locs1 : List Loc) (w1 : pi_W) (ls1 : Array Slot), lw_H s D cA ad oq w1 H1 locs1 → lw_e w1 → lv_has ls1 7 (lw_L ad b oq i) → W p l e room_1 s m #[Value.ref b] below meth c H1 locs1 (cu + 6) (su + 36) Q (F0 m 1505 ls1 [])) : W p l e room_1 s m #[Value.ref b] below meth c H locs cu su Q (F0 m 297 ls []) := by
  obtain ⟨hI, hP, hD, hS, ho1, ho2, hof⟩ := id hH
  have C := hG.1
  have hsa := hG.2.1
  have hx := C.1
  have hb := C.2.1
  obtain ⟨e0, he0, fs0, rfl, -, -⟩ := hI.1.at (a := 0) (c := .inr (10, _)) rfl
  refine lv_aload_n hx hb (kd_at lt_1_d 0 rfl) rfl (lv_at hl 1 rfl) ?_
  refine lw_push (j := 1) (jj := 1) hG hS hl (by omega) rfl (kd_at lt_1_d 1 rfl) (kd_at lt_1_d 2 rfl) (kd_at lt_1_d 3 rfl) (kd_at lt_1_d 4 rfl) (kd_at lt_1_d 5 rfl) ?_
  refine lw_hq C hsa (z := 112) (na := 1) (cp := 24) (a := 0) (As := [.int (xs (i + 1))]) (d := 24) (restM := []) pz_112 lk_x1 ll_x1 rfl he0 (Nat.le_of_ble_eq_true rfl) (by decide) rfl (lx_1 hI (xs (i + 1))) (fun r w' q => by rw [q.1.1.1.1, hI.1.1]) hP hD hS hl.1 (by decide) (by decide) (by show cu ≤ 601024; omega) (by show su ≤ 7293034; omega) (by decide) (kd_at lt_1_d 6 rfl) ?_
  rintro r1 w1 H1 locs1 ⟨⟨hI1, q1⟩, t1, v1, rfl, hv1⟩ hP1 hD1 hS1 hz1 hk1
  have hH1 := lw_oq hG hH hI1 hP1 hD1 hS1 hz1 hk1
  have x12 : gI w1 1 2 = enB (xs (i + 1)).toInt (gI w 1 2) := t1
  have x612 : gI w1 61 2 = gI w 61 2 := q1.g (by decide)
  have x383 : gI w1 38 3 = gI w 38 3 := q1.g (by decide)
  have x493 : gI w1 49 3 = gI w 49 3 := q1.g (by decide)
  have x780 : gI w1 78 0 = gI w 78 0 := q1.g (by decide)
  have x781 : gI w1 78 1 = gI w 78 1 := q1.g (by decide)
  obtain ⟨e1, he1, fs1, rfl, -, -⟩ := hI1.1.at (a := 61) (c := .inr (11, _)) rfl
  refine lv_pop hx hb (kd_at lt_1_d 7 rfl) rfl ?_
  refine lv_aload_n hx hb (kd_at lt_1_d 8 rfl) rfl (lv_at hl 2 rfl) ?_
  refine lw_push (j := 1) (jj := 1) hG hS1 hl (by omega) rfl (kd_at lt_1_d 9 rfl) (kd_at lt_1_d 10 rfl) (kd_at lt_1_d 11 rfl) (kd_at lt_1_d 12 rfl) (kd_at lt_1_d 13 rfl) ?_
  refine lw_hq C hsa (z := 165) (na := 1) (cp := 28) (a := 61) (As := [.int (xs (i + 1))]) (d := 24) (restM := []) pz_165 lk_m1 ll_m1 rfl he1 (Nat.le_of_ble_eq_true rfl) (by decide) rfl (lm_1 hI1 (xs (i + 1))) (fun r w' q => by rw [q.1.1.1.1, hI1.1.1]) hP1 hD1 hS1 hl.1 (by decide) (by decide) (by show cu ≤ 601024; omega) (by show su ≤ 7293034; omega) (by decide) (kd_at lt_1_d 14 rfl) ?_
  rintro r2 w2 H2 locs2 ⟨⟨hI2, q2⟩, t2, v2, rfl, hv2⟩ hP2 hD2 hS2 hz2 hk2
  have hH2 := lw_oq hG hH1 hI2 hP2 hD2 hS2 hz2 hk2
  have m12 : gI w2 1 2 = gI w1 1 2 := q2.g (by decide)
  have m612 : gI w2 61 2 = enB (xs (i + 1)).toInt (gI w1 61 2) := t2
  have m383 : gI w2 38 3 = gI w1 38 3 := q2.g (by decide)
  have m493 : gI w2 49 3 = gI w1 49 3 := q2.g (by decide)
  have m780 : gI w2 78 0 = gI w1 78 0 := q2.g (by decide)
  have m781 : gI w2 78 1 = gI w1 78 1 := q2.g (by decide)
  have hE2 : lw_e w2 := by
    refine ⟨?_, ?_, ?_, fun n hn => ?_, fun k hk => ?_, fun k hk => ?_, ?_, ?_, ?_, ?_⟩
    · rw [m12, x12, m612, x612, hE.1]
    · rw [m383, x383, m780, x780, hE.2.1]
    · rw [m493, x493, m781, x781, hE.2.2.1]
    · rw [q2.gv (c := 2) (k := 940) (by decide) hn, q1.gv (c := 2) (k := 940) (by decide) hn, q2.gv (c := 62) (k := 940) (by decide) hn, q1.gv (c := 62) (k := 940) (by decide) hn]
      exact hE.2.2.2.1 n hn
    · rw [q2.gl (c := 3) (k := 29) (by decide) hk, q1.gl (c := 3) (k := 29) (by decide) hk]
      exact hE.2.2.2.2.1 k hk
    · rw [q2.gl (c := 67) (k := 29) (by decide) hk, q1.gl (c := 67) (k := 29) (by decide) hk]
      exact hE.2.2.2.2.2.1 k hk
    · exact hE.2.2.2.2.2.2.1.cp ((q1.CP (fa := 5) (na := 6) (by decide) (by decide)).tr (q2.CP (fa := 5) (na := 6) (by decide) (by decide))) ((q1.MP (sa := 63) (so := 0) (ma := 66) (mo := 0) (N := 115) (M := 27) (by decide) (by decide) (by decide) (by decide)).tr (q2.MP (sa := 63) (so := 0) (ma := 66) (mo := 0) (N := 115) (M := 27) (by decide) (by decide) (by decide) (by decide)))
    · exact hE.2.2.2.2.2.2.2.1.cp ((q1.CP (fa := 40) (na := 41) (by decide) (by decide)).tr (q2.CP (fa := 40) (na := 41) (by decide) (by decide))) ((q1.MP (sa := 76) (so := 0) (ma := 77) (mo := 0) (N := 822) (M := 54) (by decide) (by decide) (by decide) (by decide)).tr (q2.MP (sa := 76) (so := 0) (ma := 77) (mo := 0) (N := 822) (M := 54) (by decide) (by decide) (by decide) (by decide)))
    · exact hE.2.2.2.2.2.2.2.2.1.cp ((q1.CP (fa := 51) (na := 52) (by decide) (by decide)).tr (q2.CP (fa := 51) (na := 52) (by decide) (by decide))) ((q1.MP (sa := 76) (so := 411) (ma := 77) (mo := 27) (N := 822) (M := 54) (by decide) (by decide) (by decide) (by decide)).tr (q2.MP (sa := 76) (so := 411) (ma := 77) (mo := 27) (N := 822) (M := 54) (by decide) (by decide) (by decide) (by decide)))
    · unfold ft_e
      rw [q2.g (c := 1) (i := 10) (by decide), q1.g (c := 1) (i := 10) (by decide), q2.g (c := 61) (i := 15) (by decide), q1.g (c := 61) (i := 15) (by decide)]
      exact hE.2.2.2.2.2.2.2.2.2
  refine lv_pop hx hb (kd_at lt_1_d 15 rfl) rfl ?_
  refine lv_goto (tgt := 1505) hx hb (kd_at lt_1_d 16 rfl) rfl ?_
  exact W.widen (by omega) (by omega) (kend H2 locs2 w2 ls hH2 hE2 hl)
def lt_2 : List (Nat × Instr × Nat) := [(322, .aload_n 1, 1), (323, .invokevirtual 29, 3), (326, .pop, 1), (327, .aload_n 2, 1), (328, .invokevirtual 33, 3), (331, .pop, 1), (332, .goto 1173, 3)]
set_option maxRecDepth 100000 in
theorem lt_2_d : (lt_2.all fun q => decide (decode code q.1 = .ok (q.2.1, q.2.2))) = true := by decide +kernel
theorem ll_x2 : Cond.methodLink "ReadBoundLaw" 29 mn_113 ∈ lw_tbl := List.mem_of_getElem? (i := 471) (by decide +kernel)
theorem ll_m2 : Cond.methodLink "ReadBoundLaw" 33 mn_192 ∈ lw_tbl := List.mem_of_getElem? (i := 1384) (by decide +kernel)
set_option maxRecDepth 100000 in
theorem lc_case2 {p : Program} {l : Launch} {e : Env} {s : State} {m : MethodId} {below : List Frame} {meth : Method} {c : Code} {Q : State → Prop} {D : va_G} {cA : Nat → ClassId} {sa sv : Nat} {ad : Nat → Nat} {b N oq : Nat} {xs : Nat → Int32} {cu su : Nat} {H : Heap} {locs : List Loc} {ls : Array Slot} {w : pi_W} {i : Nat} (hG : lw_G p s m c meth D cA sa sv ad b N oq xs) (hH : lw_H s D cA ad oq w H locs) (hE : lw_e w) (hl : lv_has ls 7 (lw_L ad b oq i)) (hi : i + 6 ≤ N) (hcu : cu + 6 ≤ 601024) (hsu : su + 36 ≤ 7293034) (kend : ∀ (H1 : Heap) (locs1 : List Loc) (w1 : pi_W) (ls1 : Array Slot), lw_H s D cA ad oq w1 H1 locs1 → lw_e w1 → lv_has ls1 7 (lw_L ad b oq i) → W p l e room_1 s m #[Value.ref b] below meth c H1 locs1 (cu + 6) (su + 36) Q (F0 m 1505 ls1 [])) : W p l e room_1 s m #[Value.ref b] below meth c H locs cu su Q (F0 m 322 ls []) := by
  obtain ⟨hI, hP, hD, hS, ho1, ho2, hof⟩ := id hH
  have C := hG.1
  have hsa := hG.2.1
  have hx := C.1
  have hb := C.2.1
  obtain ⟨e0, he0, fs0, rfl, -, -⟩ := hI.1.at (a := 0) (c := .inr (10, _)) rfl
  refine lv_aload_n hx hb (kd_at lt_2_d 0 rfl) rfl (lv_at hl 1 rfl) ?_
  refine lw_hq C hsa (z := 113) (na := 0) (cp := 29) (a := 0) (As := []) (d := 24) (restM := []) pz_113 lk_x2 ll_x2 rfl he0 (Nat.le_of_ble_eq_true rfl) (by decide) rfl (lx_2c hI (hE.b hI) hE.2.2.2.2.1) (fun r w' q => by rw [q.1.1.1.1, hI.1.1]) hP hD hS hl.1 (by decide) (by decide) (by show cu ≤ 601024; omega) (by show su ≤ 7293034; omega) (by decide) (kd_at lt_2_d 1 rfl) ?_
  rintro r1 w1 H1 locs1 ⟨⟨hI1, q1⟩, t1, v1, rfl, hv1⟩ hP1 hD1 hS1 hz1 hk1
  have hH1 := lw_oq hG hH hI1 hP1 hD1 hS1 hz1 hk1
  have x12 : gI w1 1 2 = 0 := t1.1
  have x612 : gI w1 61 2 = gI w 61 2 := q1.g (by decide)
  have x383 : gI w1 38 3 = gI w 38 3 := q1.g (by decide)
  have x493 : gI w1 49 3 = gI w 49 3 := q1.g (by decide)
  have x780 : gI w1 78 0 = gI w 78 0 := q1.g (by decide)
  have x781 : gI w1 78 1 = gI w 78 1 := q1.g (by decide)
  obtain ⟨e1, he1, fs1, rfl, -, -⟩ := hI1.1.at (a := 61) (c := .inr (11, _)) rfl
  refine lv_pop hx hb (kd_at lt_2_d 2 rfl) rfl ?_
  refine lv_aload_n hx hb (kd_at lt_2_d 3 rfl) rfl (lv_at hl 2 rfl) ?_
  refine lw_hq C hsa (z := 192) (na := 0) (cp := 33) (a := 61) (As := []) (d := 24) (restM := []) pz_192 lk_m2 ll_m2 rfl he1 (Nat.le_of_ble_eq_true rfl) (by decide) rfl (lm_2c hI1 (by rw [x612, ← hE.1]; exact hE.b hI) (fun k hk => by rw [q1.gl (c := 67) (k := 29) (by decide) hk]; exact hE.2.2.2.2.2.1 k hk)) (fun r w' q => by rw [q.1.1.1.1, hI1.1.1]) hP1 hD1 hS1 hl.1 (by decide) (by decide) (by show cu ≤ 601024; omega) (by show su ≤ 7293034; omega) (by decide) (kd_at lt_2_d 4 rfl) ?_
  rintro r2 w2 H2 locs2 ⟨⟨hI2, q2⟩, t2, v2, rfl, hv2⟩ hP2 hD2 hS2 hz2 hk2
  have hH2 := lw_oq hG hH1 hI2 hP2 hD2 hS2 hz2 hk2
  have m12 : gI w2 1 2 = gI w1 1 2 := q2.g (by decide)
  have m612 : gI w2 61 2 = 0 := t2.1
  have m383 : gI w2 38 3 = gI w1 38 3 := q2.g (by decide)
  have m493 : gI w2 49 3 = gI w1 49 3 := q2.g (by decide)
  have m780 : gI w2 78 0 = gI w1 78 0 := q2.g (by decide)
  have m781 : gI w2 78 1 = gI w1 78 1 := q2.g (by decide)
  have hE2 : lw_e w2 := by
    refine ⟨?_, ?_, ?_, fun n hn => ?_, fun k hk => ?_, fun k hk => ?_, ?_, ?_, ?_, ?_⟩
    · rw [m12, x12, m612]
    · rw [m383, x383, m780, x780, hE.2.1]
    · rw [m493, x493, m781, x781, hE.2.2.1]
    · rw [q2.gv (c := 2) (k := 940) (by decide) hn, q1.gv (c := 2) (k := 940) (by decide) hn, q2.gv (c := 62) (k := 940) (by decide) hn, q1.gv (c := 62) (k := 940) (by decide) hn]
      exact hE.2.2.2.1 n hn
    · rw [q2.gl (c := 3) (k := 29) (by decide) hk, q1.gl (c := 3) (k := 29) (by decide) hk]
      exact hE.2.2.2.2.1 k hk
    · rw [q2.gl (c := 67) (k := 29) (by decide) hk, q1.gl (c := 67) (k := 29) (by decide) hk]
      exact hE.2.2.2.2.2.1 k hk
    · have eT : ld_LR (ld_tp w1 62) (gI w1 61 2).toNat = ld_LR (ld_tp w 2) (gI w 1 2).toNat := by
        have e : ld_tp w1 62 = ld_tp w 2 := by
          funext n
          unfold ld_tp
          by_cases hn : n < 940
          · rw [if_pos hn, if_pos hn, q1.gv (c := 62) (k := 940) (by decide) hn, ← hE.2.2.2.1 n hn]
          · rw [if_neg hn, if_neg hn]
        rw [e, x612, ← hE.1]
      have t22 := t2.2
      rw [eT] at t22
      rcases hLR : ld_LR (ld_tp w 2) (gI w 1 2).toNat with ⟨k, p⟩ | ⟨i0, σ⟩
      · exact hE.2.2.2.2.2.2.1.cp ((t1.2.2 k p hLR).tr (q2.CP (fa := 5) (na := 6) (by decide) (by decide))) ((q1.MP (sa := 63) (so := 0) (ma := 66) (mo := 0) (N := 115) (M := 27) (by decide) (by decide) (by decide) (by decide)).tr (t22.2 k p hLR))
      · obtain ⟨h9, hJ, hS⟩ := t22.1 i0 σ hLR
        exact ⟨σ, hJ, (t1.2.1 i0 σ hLR h9).cp (q2.CP (fa := 5) (na := 6) (by decide) (by decide)), hS⟩
    · exact hE.2.2.2.2.2.2.2.1.cp ((q1.CP (fa := 40) (na := 41) (by decide) (by decide)).tr (q2.CP (fa := 40) (na := 41) (by decide) (by decide))) ((q1.MP (sa := 76) (so := 0) (ma := 77) (mo := 0) (N := 822) (M := 54) (by decide) (by decide) (by decide) (by decide)).tr (q2.MP (sa := 76) (so := 0) (ma := 77) (mo := 0) (N := 822) (M := 54) (by decide) (by decide) (by decide) (by decide)))
    · exact hE.2.2.2.2.2.2.2.2.1.cp ((q1.CP (fa := 51) (na := 52) (by decide) (by decide)).tr (q2.CP (fa := 51) (na := 52) (by decide) (by decide))) ((q1.MP (sa := 76) (so := 411) (ma := 77) (mo := 27) (N := 822) (M := 54) (by decide) (by decide) (by decide) (by decide)).tr (q2.MP (sa := 76) (so := 411) (ma := 77) (mo := 27) (N := 822) (M := 54) (by decide) (by decide) (by decide) (by decide)))
    · have eT : ld_tp w1 62 = ld_tp w 2 := by
        funext n
        unfold ld_tp
        by_cases hn : n < 940
        · rw [if_pos hn, if_pos hn, q1.gv (c := 62) (k := 940) (by decide) hn, ← hE.2.2.2.1 n hn]
        · rw [if_neg hn, if_neg hn]
      unfold ft_e
      rw [q2.g (c := 1) (i := 10) (by decide)]
      rw [eT, x612, ← hE.1] at hv2
      rcases hv1 with ⟨σ, q⟩ | q
      · exact absurd q (hv2.2 σ)
      · rw [q, hv2.1]
  refine lv_pop hx hb (kd_at lt_2_d 5 rfl) rfl ?_
  refine lv_goto (tgt := 1505) hx hb (kd_at lt_2_d 6 rfl) rfl ?_
  exact W.widen (by omega) (by omega) (kend H2 locs2 w2 ls hH2 hE2 hl)
def lt_3 : List (Nat × Instr × Nat) := [(335, .aload_n 1, 1), (336, .invokevirtual 34, 3), (339, .aload_n 2, 1), (340, .invokevirtual 37, 3), (343, .if_icmp .eq 1162, 3), (346, .iconst 0, 1), (347, .ireturn, 1)]
set_option maxRecDepth 100000 in
theorem lt_3_d : (lt_3.all fun q => decide (decode code q.1 = .ok (q.2.1, q.2.2))) = true := by decide +kernel
theorem ll_x3 : Cond.methodLink "ReadBoundLaw" 34 mn_114 ∈ lw_tbl := List.mem_of_getElem? (i := 664) (by decide +kernel)
theorem ll_m3 : Cond.methodLink "ReadBoundLaw" 37 mn_193 ∈ lw_tbl := List.mem_of_getElem? (i := 1493) (by decide +kernel)
set_option maxRecDepth 100000 in
theorem lc_case3 {p : Program} {l : Launch} {e : Env} {s : State} {m : MethodId} {below : List Frame} {meth : Method} {c : Code} {Q : State → Prop} {D : va_G} {cA : Nat → ClassId} {sa sv : Nat} {ad : Nat → Nat} {b N oq : Nat} {xs : Nat → Int32} {cu su : Nat} {H : Heap} {locs : List Loc} {ls : Array Slot} {w : pi_W} {i : Nat} (hG : lw_G p s m c meth D cA sa sv ad b N oq xs) (hH : lw_H s D cA ad oq w H locs) (hE : lw_e w) (hl : lv_has ls 7 (lw_L ad b oq i)) (hi : i + 6 ≤ N) (hcu : cu + 6 ≤ 601024) (hsu : su + 36 ≤ 7293034) (kend : ∀ (H1 : Heap) (locs1 : List Loc) (w1 : pi_W) (ls1 : Array Slot), lw_H s D cA ad oq w1 H1 locs1 → lw_e w1 → lv_has ls1 7 (lw_L ad b oq i) → W p l e room_1 s m #[Value.ref b] below meth c H1 locs1 (cu + 6) (su + 36) Q (F0 m 1505 ls1 [])) : W p l e room_1 s m #[Value.ref b] below meth c H locs cu su Q (F0 m 335 ls []) := by
  obtain ⟨hI, hP, hD, hS, ho1, ho2, hof⟩ := id hH
  have C := hG.1
  have hsa := hG.2.1
  have hx := C.1
  have hb := C.2.1
  obtain ⟨e0, he0, fs0, rfl, -, -⟩ := hI.1.at (a := 0) (c := .inr (10, _)) rfl
  refine lv_aload_n hx hb (kd_at lt_3_d 0 rfl) rfl (lv_at hl 1 rfl) ?_
  refine lw_hq C hsa (z := 114) (na := 0) (cp := 34) (a := 0) (As := []) (d := 24) (restM := []) pz_114 lk_x3 ll_x3 rfl he0 (Nat.le_of_ble_eq_true rfl) (by decide) rfl (lx_3c hI) (fun r w' q => by rw [q.1.1.1.1, hI.1.1]) hP hD hS hl.1 (by decide) (by decide) (by show cu ≤ 601024; omega) (by show su ≤ 7293034; omega) (by decide) (kd_at lt_3_d 1 rfl) ?_
  rintro r1 w1 H1 locs1 ⟨⟨hI1, q1⟩, t1, v1, rfl, hv1⟩ hP1 hD1 hS1 hz1 hk1
  have hH1 := lw_oq hG hH hI1 hP1 hD1 hS1 hz1 hk1
  have x12 : gI w1 1 2 = gI w 1 2 := q1.g (by decide)
  have x612 : gI w1 61 2 = gI w 61 2 := q1.g (by decide)
  have x383 : gI w1 38 3 = gI w 38 3 := q1.g (by decide)
  have x493 : gI w1 49 3 = gI w 49 3 := q1.g (by decide)
  have x780 : gI w1 78 0 = gI w 78 0 := q1.g (by decide)
  have x781 : gI w1 78 1 = gI w 78 1 := q1.g (by decide)
  obtain ⟨e1, he1, fs1, rfl, -, -⟩ := hI1.1.at (a := 61) (c := .inr (11, _)) rfl
  refine lv_aload_n hx hb (kd_at lt_3_d 2 rfl) rfl (lv_at hl 2 rfl) ?_
  refine lw_hq C hsa (z := 193) (na := 0) (cp := 37) (a := 61) (As := []) (d := 24) (restM := [.int v1]) pz_193 lk_m3 ll_m3 rfl he1 (Nat.le_of_ble_eq_true rfl) (by decide) rfl (lm_3c hI1) (fun r w' q => by rw [q.1.1.1.1, hI1.1.1]) hP1 hD1 hS1 hl.1 (by decide) (by decide) (by show cu ≤ 601024; omega) (by show su ≤ 7293034; omega) (by simp [Value.category]) (kd_at lt_3_d 3 rfl) ?_
  rintro r2 w2 H2 locs2 ⟨⟨hI2, q2⟩, t2, v2, rfl, hv2⟩ hP2 hD2 hS2 hz2 hk2
  have hH2 := lw_oq hG hH1 hI2 hP2 hD2 hS2 hz2 hk2
  have m12 : gI w2 1 2 = gI w1 1 2 := q2.g (by decide)
  have m612 : gI w2 61 2 = gI w1 61 2 := q2.g (by decide)
  have m383 : gI w2 38 3 = gI w1 38 3 := q2.g (by decide)
  have m493 : gI w2 49 3 = gI w1 49 3 := q2.g (by decide)
  have m780 : gI w2 78 0 = gI w1 78 0 := q2.g (by decide)
  have m781 : gI w2 78 1 = gI w1 78 1 := q2.g (by decide)
  have hE2 : lw_e w2 := by
    refine ⟨?_, ?_, ?_, fun n hn => ?_, fun k hk => ?_, fun k hk => ?_, ?_, ?_, ?_, ?_⟩
    · rw [m12, x12, m612, x612, hE.1]
    · rw [m383, x383, m780, x780, hE.2.1]
    · rw [m493, x493, m781, x781, hE.2.2.1]
    · rw [q2.gv (c := 2) (k := 940) (by decide) hn, q1.gv (c := 2) (k := 940) (by decide) hn, q2.gv (c := 62) (k := 940) (by decide) hn, q1.gv (c := 62) (k := 940) (by decide) hn]
      exact hE.2.2.2.1 n hn
    · rw [q2.gl (c := 3) (k := 29) (by decide) hk, q1.gl (c := 3) (k := 29) (by decide) hk]
      exact hE.2.2.2.2.1 k hk
    · rw [q2.gl (c := 67) (k := 29) (by decide) hk, q1.gl (c := 67) (k := 29) (by decide) hk]
      exact hE.2.2.2.2.2.1 k hk
    · exact hE.2.2.2.2.2.2.1.cp ((q1.CP (fa := 5) (na := 6) (by decide) (by decide)).tr (q2.CP (fa := 5) (na := 6) (by decide) (by decide))) ((q1.MP (sa := 63) (so := 0) (ma := 66) (mo := 0) (N := 115) (M := 27) (by decide) (by decide) (by decide) (by decide)).tr (q2.MP (sa := 63) (so := 0) (ma := 66) (mo := 0) (N := 115) (M := 27) (by decide) (by decide) (by decide) (by decide)))
    · exact hE.2.2.2.2.2.2.2.1.cp ((q1.CP (fa := 40) (na := 41) (by decide) (by decide)).tr (q2.CP (fa := 40) (na := 41) (by decide) (by decide))) ((q1.MP (sa := 76) (so := 0) (ma := 77) (mo := 0) (N := 822) (M := 54) (by decide) (by decide) (by decide) (by decide)).tr (q2.MP (sa := 76) (so := 0) (ma := 77) (mo := 0) (N := 822) (M := 54) (by decide) (by decide) (by decide) (by decide)))
    · exact hE.2.2.2.2.2.2.2.2.1.cp ((q1.CP (fa := 51) (na := 52) (by decide) (by decide)).tr (q2.CP (fa := 51) (na := 52) (by decide) (by decide))) ((q1.MP (sa := 76) (so := 411) (ma := 77) (mo := 27) (N := 822) (M := 54) (by decide) (by decide) (by decide) (by decide)).tr (q2.MP (sa := 76) (so := 411) (ma := 77) (mo := 27) (N := 822) (M := 54) (by decide) (by decide) (by decide) (by decide)))
    · unfold ft_e
      rw [q2.g (c := 1) (i := 10) (by decide), q1.g (c := 1) (i := 10) (by decide), q2.g (c := 61) (i := 15) (by decide), q1.g (c := 61) (i := 15) (by decide)]
      exact hE.2.2.2.2.2.2.2.2.2
  have ev : v1 = v2 := Int32.toInt_inj.mp (by rw [hv1, hv2, q1.g (c := 61) (i := 15) (by decide)]; exact hE.2.2.2.2.2.2.2.2.2)
  refine lv_icmp_eq (tgt := 1505) hx hb (kd_at lt_3_d 4 rfl) rfl (fun _ => ?_) (fun h => absurd ev h)
  exact W.widen (by omega) (by omega) (kend H2 locs2 w2 ls hH2 hE2 hl)
def lt_4 : List (Nat × Instr × Nat) := [(348, .aload_n 1, 1), (349, .aload_n 0, 1), (350, .iload 4, 2), (352, .iconst 1, 1), (353, .iadd, 1), (354, .iaload, 1), (355, .aload_n 0, 1), (356, .iload 4, 2), (358, .iconst 2, 1), (359, .iadd, 1), (360, .iaload, 1), (361, .invokevirtual 38, 3), (364, .pop, 1), (365, .aload_n 2, 1), (366, .aload_n 0, 1), (367, .iload 4, 2), (369, .iconst 1, 1), (370, .iadd, 1), (371, .iaload, 1), (372, .aload_n 0, 1), (373, .iload 4, 2), (375, .iconst 2, 1), (376, .iadd, 1), (377, .iaload, 1), (378, .invokevirtual 41, 3), (381, .pop, 1), (382, .goto 1123, 3)]
set_option maxRecDepth 100000 in
theorem lt_4_d : (lt_4.all fun q => decide (decode code q.1 = .ok (q.2.1, q.2.2))) = true := by decide +kernel
theorem ll_x4 : Cond.methodLink "ReadBoundLaw" 38 mn_115 ∈ lw_tbl := List.mem_of_getElem? (i := 668) (by decide +kernel)
theorem ll_m4 : Cond.methodLink "ReadBoundLaw" 41 mn_209 ∈ lw_tbl := List.mem_of_getElem? (i := 1497) (by decide +kernel)
set_option maxRecDepth 100000 in
theorem lc_case4 {p : Program} {l : Launch} {e : Env} {s : State} {m : MethodId} {below : List Frame} {meth : Method} {c : Code} {Q : State → Prop} {D : va_G} {cA : Nat → ClassId} {sa sv : Nat} {ad : Nat → Nat} {b N oq : Nat} {xs : Nat → Int32} {cu su : Nat} {H : Heap} {locs : List Loc} {ls : Array Slot} {w : pi_W} {i : Nat} (hG : lw_G p s m c meth D cA sa sv ad b N oq xs) (hH : lw_H s D cA ad oq w H locs) (hE : lw_e w) (hl : lv_has ls 7 (lw_L ad b oq i)) (hi : i + 6 ≤ N) (hcu : cu + 6 ≤ 601024) (hsu : su + 36 ≤ 7293034) (kend : ∀ (H1 : Heap) (locs1 : List Loc) (w1 : pi_W) (ls1 : Array Slot), lw_H s D cA ad oq w1 H1 locs1 → lw_e w1 → lv_has ls1 7 (lw_L ad b oq i) → W p l e room_1 s m #[Value.ref b] below meth c H1 locs1 (cu + 6) (su + 36) Q (F0 m 1505 ls1 [])) : W p l e room_1 s m #[Value.ref b] below meth c H locs cu su Q (F0 m 348 ls []) := by
  obtain ⟨hI, hP, hD, hS, ho1, ho2, hof⟩ := id hH
  have C := hG.1
  have hsa := hG.2.1
  have hx := C.1
  have hb := C.2.1
  obtain ⟨e0, he0, fs0, rfl, -, -⟩ := hI.1.at (a := 0) (c := .inr (10, _)) rfl
  refine lv_aload_n hx hb (kd_at lt_4_d 0 rfl) rfl (lv_at hl 1 rfl) ?_
  refine lw_push (j := 1) (jj := 1) hG hS hl (by omega) rfl (kd_at lt_4_d 1 rfl) (kd_at lt_4_d 2 rfl) (kd_at lt_4_d 3 rfl) (kd_at lt_4_d 4 rfl) (kd_at lt_4_d 5 rfl) ?_
  refine lw_push (j := 2) (jj := 2) hG hS hl (by omega) rfl (kd_at lt_4_d 6 rfl) (kd_at lt_4_d 7 rfl) (kd_at lt_4_d 8 rfl) (kd_at lt_4_d 9 rfl) (kd_at lt_4_d 10 rfl) ?_
  refine lw_hq C hsa (z := 115) (na := 2) (cp := 38) (a := 0) (As := [.int (xs (i + 1)), .int (xs (i + 2))]) (d := 24) (restM := []) pz_115 lk_x4 ll_x4 rfl he0 (Nat.le_of_ble_eq_true rfl) (by decide) rfl (lx_4 hI (xs (i + 1)) (xs (i + 2))) (fun r w' q => by rw [q.1.1.1.1, hI.1.1]) hP hD hS hl.1 (by decide) (by decide) (by show cu ≤ 601024; omega) (by show su ≤ 7293034; omega) (by decide) (kd_at lt_4_d 11 rfl) ?_
  rintro r1 w1 H1 locs1 ⟨⟨hI1, q1⟩, v1, rfl⟩ hP1 hD1 hS1 hz1 hk1
  have hH1 := lw_oq hG hH hI1 hP1 hD1 hS1 hz1 hk1
  have x12 : gI w1 1 2 = gI w 1 2 := q1.g (by decide)
  have x612 : gI w1 61 2 = gI w 61 2 := q1.g (by decide)
  have x383 : gI w1 38 3 = gI w 38 3 := q1.g (by decide)
  have x493 : gI w1 49 3 = gI w 49 3 := q1.g (by decide)
  have x780 : gI w1 78 0 = gI w 78 0 := q1.g (by decide)
  have x781 : gI w1 78 1 = gI w 78 1 := q1.g (by decide)
  obtain ⟨e1, he1, fs1, rfl, -, -⟩ := hI1.1.at (a := 61) (c := .inr (11, _)) rfl
  refine lv_pop hx hb (kd_at lt_4_d 12 rfl) rfl ?_
  refine lv_aload_n hx hb (kd_at lt_4_d 13 rfl) rfl (lv_at hl 2 rfl) ?_
  refine lw_push (j := 1) (jj := 1) hG hS1 hl (by omega) rfl (kd_at lt_4_d 14 rfl) (kd_at lt_4_d 15 rfl) (kd_at lt_4_d 16 rfl) (kd_at lt_4_d 17 rfl) (kd_at lt_4_d 18 rfl) ?_
  refine lw_push (j := 2) (jj := 2) hG hS1 hl (by omega) rfl (kd_at lt_4_d 19 rfl) (kd_at lt_4_d 20 rfl) (kd_at lt_4_d 21 rfl) (kd_at lt_4_d 22 rfl) (kd_at lt_4_d 23 rfl) ?_
  refine lw_hq C hsa (z := 209) (na := 2) (cp := 41) (a := 61) (As := [.int (xs (i + 1)), .int (xs (i + 2))]) (d := 24) (restM := []) pz_209 lk_m4 ll_m4 rfl he1 (Nat.le_of_ble_eq_true rfl) (by decide) rfl (lm_4 hI1 (xs (i + 1)) (xs (i + 2))) (fun r w' q => by rw [q.1.1.1.1, hI1.1.1]) hP1 hD1 hS1 hl.1 (by decide) (by decide) (by show cu ≤ 601024; omega) (by show su ≤ 7293034; omega) (by decide) (kd_at lt_4_d 24 rfl) ?_
  rintro r2 w2 H2 locs2 ⟨⟨hI2, q2⟩, v2, rfl⟩ hP2 hD2 hS2 hz2 hk2
  have hH2 := lw_oq hG hH1 hI2 hP2 hD2 hS2 hz2 hk2
  have m12 : gI w2 1 2 = gI w1 1 2 := q2.g (by decide)
  have m612 : gI w2 61 2 = gI w1 61 2 := q2.g (by decide)
  have m383 : gI w2 38 3 = gI w1 38 3 := q2.g (by decide)
  have m493 : gI w2 49 3 = gI w1 49 3 := q2.g (by decide)
  have m780 : gI w2 78 0 = gI w1 78 0 := q2.g (by decide)
  have m781 : gI w2 78 1 = gI w1 78 1 := q2.g (by decide)
  have hE2 : lw_e w2 := by
    refine ⟨?_, ?_, ?_, fun n hn => ?_, fun k hk => ?_, fun k hk => ?_, ?_, ?_, ?_, ?_⟩
    · rw [m12, x12, m612, x612, hE.1]
    · rw [m383, x383, m780, x780, hE.2.1]
    · rw [m493, x493, m781, x781, hE.2.2.1]
    · rw [q2.gv (c := 2) (k := 940) (by decide) hn, q1.gv (c := 2) (k := 940) (by decide) hn, q2.gv (c := 62) (k := 940) (by decide) hn, q1.gv (c := 62) (k := 940) (by decide) hn]
      exact hE.2.2.2.1 n hn
    · rw [q2.gl (c := 3) (k := 29) (by decide) hk, q1.gl (c := 3) (k := 29) (by decide) hk]
      exact hE.2.2.2.2.1 k hk
    · rw [q2.gl (c := 67) (k := 29) (by decide) hk, q1.gl (c := 67) (k := 29) (by decide) hk]
      exact hE.2.2.2.2.2.1 k hk
    · exact hE.2.2.2.2.2.2.1.cp ((q1.CP (fa := 5) (na := 6) (by decide) (by decide)).tr (q2.CP (fa := 5) (na := 6) (by decide) (by decide))) ((q1.MP (sa := 63) (so := 0) (ma := 66) (mo := 0) (N := 115) (M := 27) (by decide) (by decide) (by decide) (by decide)).tr (q2.MP (sa := 63) (so := 0) (ma := 66) (mo := 0) (N := 115) (M := 27) (by decide) (by decide) (by decide) (by decide)))
    · exact hE.2.2.2.2.2.2.2.1.cp ((q1.CP (fa := 40) (na := 41) (by decide) (by decide)).tr (q2.CP (fa := 40) (na := 41) (by decide) (by decide))) ((q1.MP (sa := 76) (so := 0) (ma := 77) (mo := 0) (N := 822) (M := 54) (by decide) (by decide) (by decide) (by decide)).tr (q2.MP (sa := 76) (so := 0) (ma := 77) (mo := 0) (N := 822) (M := 54) (by decide) (by decide) (by decide) (by decide)))
    · exact hE.2.2.2.2.2.2.2.2.1.cp ((q1.CP (fa := 51) (na := 52) (by decide) (by decide)).tr (q2.CP (fa := 51) (na := 52) (by decide) (by decide))) ((q1.MP (sa := 76) (so := 411) (ma := 77) (mo := 27) (N := 822) (M := 54) (by decide) (by decide) (by decide) (by decide)).tr (q2.MP (sa := 76) (so := 411) (ma := 77) (mo := 27) (N := 822) (M := 54) (by decide) (by decide) (by decide) (by decide)))
    · unfold ft_e
      rw [q2.g (c := 1) (i := 10) (by decide), q1.g (c := 1) (i := 10) (by decide), q2.g (c := 61) (i := 15) (by decide), q1.g (c := 61) (i := 15) (by decide)]
      exact hE.2.2.2.2.2.2.2.2.2
  refine lv_pop hx hb (kd_at lt_4_d 25 rfl) rfl ?_
  refine lv_goto (tgt := 1505) hx hb (kd_at lt_4_d 26 rfl) rfl ?_
  exact W.widen (by omega) (by omega) (kend H2 locs2 w2 ls hH2 hE2 hl)
def lt_6 : List (Nat × Instr × Nat) := [(425, .aload_n 1, 1), (426, .aload_n 0, 1), (427, .iload 4, 2), (429, .iconst 1, 1), (430, .iadd, 1), (431, .iaload, 1), (432, .aload_n 0, 1), (433, .iload 4, 2), (435, .iconst 2, 1), (436, .iadd, 1), (437, .iaload, 1), (438, .invokevirtual 48, 3), (441, .pop, 1), (442, .aload_n 2, 1), (443, .aload_n 0, 1), (444, .iload 4, 2), (446, .iconst 1, 1), (447, .iadd, 1), (448, .iaload, 1), (449, .aload_n 0, 1), (450, .iload 4, 2), (452, .iconst 2, 1), (453, .iadd, 1), (454, .iaload, 1), (455, .invokevirtual 51, 3), (458, .pop, 1), (459, .goto 1046, 3)]
set_option maxRecDepth 100000 in
theorem lt_6_d : (lt_6.all fun q => decide (decode code q.1 = .ok (q.2.1, q.2.2))) = true := by decide +kernel
theorem ll_x6 : Cond.methodLink "ReadBoundLaw" 48 mn_116 ∈ lw_tbl := List.mem_of_getElem? (i := 685) (by decide +kernel)
theorem ll_m6 : Cond.methodLink "ReadBoundLaw" 51 mn_211 ∈ lw_tbl := List.mem_of_getElem? (i := 1517) (by decide +kernel)
set_option maxRecDepth 100000 in
theorem lc_case6 {p : Program} {l : Launch} {e : Env} {s : State} {m : MethodId} {below : List Frame} {meth : Method} {c : Code} {Q : State → Prop} {D : va_G} {cA : Nat → ClassId} {sa sv : Nat} {ad : Nat → Nat} {b N oq : Nat} {xs : Nat → Int32} {cu su : Nat} {H : Heap} {locs : List Loc} {ls : Array Slot} {w : pi_W} {i : Nat} (hG : lw_G p s m c meth D cA sa sv ad b N oq xs) (hH : lw_H s D cA ad oq w H locs) (hE : lw_e w) (hl : lv_has ls 7 (lw_L ad b oq i)) (hi : i + 6 ≤ N) (hcu : cu + 6 ≤ 601024) (hsu : su + 36 ≤ 7293034) (kend : ∀ (H1 : Heap) (locs1 : List Loc) (w1 : pi_W) (ls1 : Array Slot), lw_H s D cA ad oq w1 H1 locs1 → lw_e w1 → lv_has ls1 7 (lw_L ad b oq i) → W p l e room_1 s m #[Value.ref b] below meth c H1 locs1 (cu + 6) (su + 36) Q (F0 m 1505 ls1 [])) : W p l e room_1 s m #[Value.ref b] below meth c H locs cu su Q (F0 m 425 ls []) := by
  obtain ⟨hI, hP, hD, hS, ho1, ho2, hof⟩ := id hH
  have C := hG.1
  have hsa := hG.2.1
  have hx := C.1
  have hb := C.2.1
  obtain ⟨e0, he0, fs0, rfl, -, -⟩ := hI.1.at (a := 0) (c := .inr (10, _)) rfl
  refine lv_aload_n hx hb (kd_at lt_6_d 0 rfl) rfl (lv_at hl 1 rfl) ?_
  refine lw_push (j := 1) (jj := 1) hG hS hl (by omega) rfl (kd_at lt_6_d 1 rfl) (kd_at lt_6_d 2 rfl) (kd_at lt_6_d 3 rfl) (kd_at lt_6_d 4 rfl) (kd_at lt_6_d 5 rfl) ?_
  refine lw_push (j := 2) (jj := 2) hG hS hl (by omega) rfl (kd_at lt_6_d 6 rfl) (kd_at lt_6_d 7 rfl) (kd_at lt_6_d 8 rfl) (kd_at lt_6_d 9 rfl) (kd_at lt_6_d 10 rfl) ?_
  refine lw_hq C hsa (z := 116) (na := 2) (cp := 48) (a := 0) (As := [.int (xs (i + 1)), .int (xs (i + 2))]) (d := 24) (restM := []) pz_116 lk_x6 ll_x6 rfl he0 (Nat.le_of_ble_eq_true rfl) (by decide) rfl (lx_6 hI (xs (i + 1)) (xs (i + 2))) (fun r w' q => by rw [q.1.1.1.1, hI.1.1]) hP hD hS hl.1 (by decide) (by decide) (by show cu ≤ 601024; omega) (by show su ≤ 7293034; omega) (by decide) (kd_at lt_6_d 11 rfl) ?_
  rintro r1 w1 H1 locs1 ⟨⟨hI1, q1⟩, v1, rfl⟩ hP1 hD1 hS1 hz1 hk1
  have hH1 := lw_oq hG hH hI1 hP1 hD1 hS1 hz1 hk1
  have x12 : gI w1 1 2 = gI w 1 2 := q1.g (by decide)
  have x612 : gI w1 61 2 = gI w 61 2 := q1.g (by decide)
  have x383 : gI w1 38 3 = gI w 38 3 := q1.g (by decide)
  have x493 : gI w1 49 3 = gI w 49 3 := q1.g (by decide)
  have x780 : gI w1 78 0 = gI w 78 0 := q1.g (by decide)
  have x781 : gI w1 78 1 = gI w 78 1 := q1.g (by decide)
  obtain ⟨e1, he1, fs1, rfl, -, -⟩ := hI1.1.at (a := 61) (c := .inr (11, _)) rfl
  refine lv_pop hx hb (kd_at lt_6_d 12 rfl) rfl ?_
  refine lv_aload_n hx hb (kd_at lt_6_d 13 rfl) rfl (lv_at hl 2 rfl) ?_
  refine lw_push (j := 1) (jj := 1) hG hS1 hl (by omega) rfl (kd_at lt_6_d 14 rfl) (kd_at lt_6_d 15 rfl) (kd_at lt_6_d 16 rfl) (kd_at lt_6_d 17 rfl) (kd_at lt_6_d 18 rfl) ?_
  refine lw_push (j := 2) (jj := 2) hG hS1 hl (by omega) rfl (kd_at lt_6_d 19 rfl) (kd_at lt_6_d 20 rfl) (kd_at lt_6_d 21 rfl) (kd_at lt_6_d 22 rfl) (kd_at lt_6_d 23 rfl) ?_
  refine lw_hq C hsa (z := 211) (na := 2) (cp := 51) (a := 61) (As := [.int (xs (i + 1)), .int (xs (i + 2))]) (d := 24) (restM := []) pz_211 lk_m6 ll_m6 rfl he1 (Nat.le_of_ble_eq_true rfl) (by decide) rfl (lm_6 hI1 (xs (i + 1)) (xs (i + 2))) (fun r w' q => by rw [q.1.1.1.1, hI1.1.1]) hP1 hD1 hS1 hl.1 (by decide) (by decide) (by show cu ≤ 601024; omega) (by show su ≤ 7293034; omega) (by decide) (kd_at lt_6_d 24 rfl) ?_
  rintro r2 w2 H2 locs2 ⟨⟨hI2, q2⟩, v2, rfl⟩ hP2 hD2 hS2 hz2 hk2
  have hH2 := lw_oq hG hH1 hI2 hP2 hD2 hS2 hz2 hk2
  have m12 : gI w2 1 2 = gI w1 1 2 := q2.g (by decide)
  have m612 : gI w2 61 2 = gI w1 61 2 := q2.g (by decide)
  have m383 : gI w2 38 3 = gI w1 38 3 := q2.g (by decide)
  have m493 : gI w2 49 3 = gI w1 49 3 := q2.g (by decide)
  have m780 : gI w2 78 0 = gI w1 78 0 := q2.g (by decide)
  have m781 : gI w2 78 1 = gI w1 78 1 := q2.g (by decide)
  have hE2 : lw_e w2 := by
    refine ⟨?_, ?_, ?_, fun n hn => ?_, fun k hk => ?_, fun k hk => ?_, ?_, ?_, ?_, ?_⟩
    · rw [m12, x12, m612, x612, hE.1]
    · rw [m383, x383, m780, x780, hE.2.1]
    · rw [m493, x493, m781, x781, hE.2.2.1]
    · rw [q2.gv (c := 2) (k := 940) (by decide) hn, q1.gv (c := 2) (k := 940) (by decide) hn, q2.gv (c := 62) (k := 940) (by decide) hn, q1.gv (c := 62) (k := 940) (by decide) hn]
      exact hE.2.2.2.1 n hn
    · rw [q2.gl (c := 3) (k := 29) (by decide) hk, q1.gl (c := 3) (k := 29) (by decide) hk]
      exact hE.2.2.2.2.1 k hk
    · rw [q2.gl (c := 67) (k := 29) (by decide) hk, q1.gl (c := 67) (k := 29) (by decide) hk]
      exact hE.2.2.2.2.2.1 k hk
    · exact hE.2.2.2.2.2.2.1.cp ((q1.CP (fa := 5) (na := 6) (by decide) (by decide)).tr (q2.CP (fa := 5) (na := 6) (by decide) (by decide))) ((q1.MP (sa := 63) (so := 0) (ma := 66) (mo := 0) (N := 115) (M := 27) (by decide) (by decide) (by decide) (by decide)).tr (q2.MP (sa := 63) (so := 0) (ma := 66) (mo := 0) (N := 115) (M := 27) (by decide) (by decide) (by decide) (by decide)))
    · exact hE.2.2.2.2.2.2.2.1.cp ((q1.CP (fa := 40) (na := 41) (by decide) (by decide)).tr (q2.CP (fa := 40) (na := 41) (by decide) (by decide))) ((q1.MP (sa := 76) (so := 0) (ma := 77) (mo := 0) (N := 822) (M := 54) (by decide) (by decide) (by decide) (by decide)).tr (q2.MP (sa := 76) (so := 0) (ma := 77) (mo := 0) (N := 822) (M := 54) (by decide) (by decide) (by decide) (by decide)))
    · exact hE.2.2.2.2.2.2.2.2.1.cp ((q1.CP (fa := 51) (na := 52) (by decide) (by decide)).tr (q2.CP (fa := 51) (na := 52) (by decide) (by decide))) ((q1.MP (sa := 76) (so := 411) (ma := 77) (mo := 27) (N := 822) (M := 54) (by decide) (by decide) (by decide) (by decide)).tr (q2.MP (sa := 76) (so := 411) (ma := 77) (mo := 27) (N := 822) (M := 54) (by decide) (by decide) (by decide) (by decide)))
    · unfold ft_e
      rw [q2.g (c := 1) (i := 10) (by decide), q1.g (c := 1) (i := 10) (by decide), q2.g (c := 61) (i := 15) (by decide), q1.g (c := 61) (i := 15) (by decide)]
      exact hE.2.2.2.2.2.2.2.2.2
  refine lv_pop hx hb (kd_at lt_6_d 25 rfl) rfl ?_
  refine lv_goto (tgt := 1505) hx hb (kd_at lt_6_d 26 rfl) rfl ?_
  exact W.widen (by omega) (by omega) (kend H2 locs2 w2 ls hH2 hE2 hl)
def lt_7 : List (Nat × Instr × Nat) := [(462, .aload_n 1, 1), (463, .aload_n 0, 1), (464, .iload 4, 2), (466, .iconst 1, 1), (467, .iadd, 1), (468, .iaload, 1), (469, .invokevirtual 52, 3), (472, .pop, 1), (473, .aload_n 2, 1), (474, .aload_n 0, 1), (475, .iload 4, 2), (477, .iconst 1, 1), (478, .iadd, 1), (479, .iaload, 1), (480, .invokevirtual 56, 3), (483, .pop, 1), (484, .goto 1021, 3)]
set_option maxRecDepth 100000 in
theorem lt_7_d : (lt_7.all fun q => decide (decode code q.1 = .ok (q.2.1, q.2.2))) = true := by decide +kernel
theorem ll_x7 : Cond.methodLink "ReadBoundLaw" 52 mn_117 ∈ lw_tbl := List.mem_of_getElem? (i := 693) (by decide +kernel)
theorem ll_m7 : Cond.methodLink "ReadBoundLaw" 56 mn_213 ∈ lw_tbl := List.mem_of_getElem? (i := 1525) (by decide +kernel)
set_option maxRecDepth 100000 in
theorem lc_case7 {p : Program} {l : Launch} {e : Env} {s : State} {m : MethodId} {below : List Frame} {meth : Method} {c : Code} {Q : State → Prop} {D : va_G} {cA : Nat → ClassId} {sa sv : Nat} {ad : Nat → Nat} {b N oq : Nat} {xs : Nat → Int32} {cu su : Nat} {H : Heap} {locs : List Loc} {ls : Array Slot} {w : pi_W} {i : Nat} (hG : lw_G p s m c meth D cA sa sv ad b N oq xs) (hH : lw_H s D cA ad oq w H locs) (hE : lw_e w) (hl : lv_has ls 7 (lw_L ad b oq i)) (hi : i + 6 ≤ N) (hcu : cu + 6 ≤ 601024) (hsu : su + 36 ≤ 7293034) (kend : ∀ (H1 : Heap) (locs1 : List Loc) (w1 : pi_W) (ls1 : Array Slot), lw_H s D cA ad oq w1 H1 locs1 → lw_e w1 → lv_has ls1 7 (lw_L ad b oq i) → W p l e room_1 s m #[Value.ref b] below meth c H1 locs1 (cu + 6) (su + 36) Q (F0 m 1505 ls1 [])) : W p l e room_1 s m #[Value.ref b] below meth c H locs cu su Q (F0 m 462 ls []) := by
  obtain ⟨hI, hP, hD, hS, ho1, ho2, hof⟩ := id hH
  have C := hG.1
  have hsa := hG.2.1
  have hx := C.1
  have hb := C.2.1
  obtain ⟨e0, he0, fs0, rfl, -, -⟩ := hI.1.at (a := 0) (c := .inr (10, _)) rfl
  refine lv_aload_n hx hb (kd_at lt_7_d 0 rfl) rfl (lv_at hl 1 rfl) ?_
  refine lw_push (j := 1) (jj := 1) hG hS hl (by omega) rfl (kd_at lt_7_d 1 rfl) (kd_at lt_7_d 2 rfl) (kd_at lt_7_d 3 rfl) (kd_at lt_7_d 4 rfl) (kd_at lt_7_d 5 rfl) ?_
  refine lw_hq C hsa (z := 117) (na := 1) (cp := 52) (a := 0) (As := [.int (xs (i + 1))]) (d := 24) (restM := []) pz_117 lk_x7 ll_x7 rfl he0 (Nat.le_of_ble_eq_true rfl) (by decide) rfl (lx_7 hI (xs (i + 1))) (fun r w' q => by rw [q.1.1.1.1, hI.1.1]) hP hD hS hl.1 (by decide) (by decide) (by show cu ≤ 601024; omega) (by show su ≤ 7293034; omega) (by decide) (kd_at lt_7_d 6 rfl) ?_
  rintro r1 w1 H1 locs1 ⟨⟨hI1, q1⟩, v1, rfl⟩ hP1 hD1 hS1 hz1 hk1
  have hH1 := lw_oq hG hH hI1 hP1 hD1 hS1 hz1 hk1
  have x12 : gI w1 1 2 = gI w 1 2 := q1.g (by decide)
  have x612 : gI w1 61 2 = gI w 61 2 := q1.g (by decide)
  have x383 : gI w1 38 3 = gI w 38 3 := q1.g (by decide)
  have x493 : gI w1 49 3 = gI w 49 3 := q1.g (by decide)
  have x780 : gI w1 78 0 = gI w 78 0 := q1.g (by decide)
  have x781 : gI w1 78 1 = gI w 78 1 := q1.g (by decide)
  obtain ⟨e1, he1, fs1, rfl, -, -⟩ := hI1.1.at (a := 61) (c := .inr (11, _)) rfl
  refine lv_pop hx hb (kd_at lt_7_d 7 rfl) rfl ?_
  refine lv_aload_n hx hb (kd_at lt_7_d 8 rfl) rfl (lv_at hl 2 rfl) ?_
  refine lw_push (j := 1) (jj := 1) hG hS1 hl (by omega) rfl (kd_at lt_7_d 9 rfl) (kd_at lt_7_d 10 rfl) (kd_at lt_7_d 11 rfl) (kd_at lt_7_d 12 rfl) (kd_at lt_7_d 13 rfl) ?_
  refine lw_hq C hsa (z := 213) (na := 1) (cp := 56) (a := 61) (As := [.int (xs (i + 1))]) (d := 24) (restM := []) pz_213 lk_m7 ll_m7 rfl he1 (Nat.le_of_ble_eq_true rfl) (by decide) rfl (lm_7 hI1 (xs (i + 1))) (fun r w' q => by rw [q.1.1.1.1, hI1.1.1]) hP1 hD1 hS1 hl.1 (by decide) (by decide) (by show cu ≤ 601024; omega) (by show su ≤ 7293034; omega) (by decide) (kd_at lt_7_d 14 rfl) ?_
  rintro r2 w2 H2 locs2 ⟨⟨hI2, q2⟩, v2, rfl⟩ hP2 hD2 hS2 hz2 hk2
  have hH2 := lw_oq hG hH1 hI2 hP2 hD2 hS2 hz2 hk2
  have m12 : gI w2 1 2 = gI w1 1 2 := q2.g (by decide)
  have m612 : gI w2 61 2 = gI w1 61 2 := q2.g (by decide)
  have m383 : gI w2 38 3 = gI w1 38 3 := q2.g (by decide)
  have m493 : gI w2 49 3 = gI w1 49 3 := q2.g (by decide)
  have m780 : gI w2 78 0 = gI w1 78 0 := q2.g (by decide)
  have m781 : gI w2 78 1 = gI w1 78 1 := q2.g (by decide)
  have hE2 : lw_e w2 := by
    refine ⟨?_, ?_, ?_, fun n hn => ?_, fun k hk => ?_, fun k hk => ?_, ?_, ?_, ?_, ?_⟩
    · rw [m12, x12, m612, x612, hE.1]
    · rw [m383, x383, m780, x780, hE.2.1]
    · rw [m493, x493, m781, x781, hE.2.2.1]
    · rw [q2.gv (c := 2) (k := 940) (by decide) hn, q1.gv (c := 2) (k := 940) (by decide) hn, q2.gv (c := 62) (k := 940) (by decide) hn, q1.gv (c := 62) (k := 940) (by decide) hn]
      exact hE.2.2.2.1 n hn
    · rw [q2.gl (c := 3) (k := 29) (by decide) hk, q1.gl (c := 3) (k := 29) (by decide) hk]
      exact hE.2.2.2.2.1 k hk
    · rw [q2.gl (c := 67) (k := 29) (by decide) hk, q1.gl (c := 67) (k := 29) (by decide) hk]
      exact hE.2.2.2.2.2.1 k hk
    · exact hE.2.2.2.2.2.2.1.cp ((q1.CP (fa := 5) (na := 6) (by decide) (by decide)).tr (q2.CP (fa := 5) (na := 6) (by decide) (by decide))) ((q1.MP (sa := 63) (so := 0) (ma := 66) (mo := 0) (N := 115) (M := 27) (by decide) (by decide) (by decide) (by decide)).tr (q2.MP (sa := 63) (so := 0) (ma := 66) (mo := 0) (N := 115) (M := 27) (by decide) (by decide) (by decide) (by decide)))
    · exact hE.2.2.2.2.2.2.2.1.cp ((q1.CP (fa := 40) (na := 41) (by decide) (by decide)).tr (q2.CP (fa := 40) (na := 41) (by decide) (by decide))) ((q1.MP (sa := 76) (so := 0) (ma := 77) (mo := 0) (N := 822) (M := 54) (by decide) (by decide) (by decide) (by decide)).tr (q2.MP (sa := 76) (so := 0) (ma := 77) (mo := 0) (N := 822) (M := 54) (by decide) (by decide) (by decide) (by decide)))
    · exact hE.2.2.2.2.2.2.2.2.1.cp ((q1.CP (fa := 51) (na := 52) (by decide) (by decide)).tr (q2.CP (fa := 51) (na := 52) (by decide) (by decide))) ((q1.MP (sa := 76) (so := 411) (ma := 77) (mo := 27) (N := 822) (M := 54) (by decide) (by decide) (by decide) (by decide)).tr (q2.MP (sa := 76) (so := 411) (ma := 77) (mo := 27) (N := 822) (M := 54) (by decide) (by decide) (by decide) (by decide)))
    · unfold ft_e
      rw [q2.g (c := 1) (i := 10) (by decide), q1.g (c := 1) (i := 10) (by decide), q2.g (c := 61) (i := 15) (by decide), q1.g (c := 61) (i := 15) (by decide)]
      exact hE.2.2.2.2.2.2.2.2.2
  refine lv_pop hx hb (kd_at lt_7_d 15 rfl) rfl ?_
  refine lv_goto (tgt := 1505) hx hb (kd_at lt_7_d 16 rfl) rfl ?_
  exact W.widen (by omega) (by omega) (kend H2 locs2 w2 ls hH2 hE2 hl)
def lt_8 : List (Nat × Instr × Nat) := [(487, .aload_n 1, 1), (488, .aload_n 0, 1), (489, .iload 4, 2), (491, .iconst 1, 1), (492, .iadd, 1), (493, .iaload, 1), (494, .aload_n 0, 1), (495, .iload 4, 2), (497, .iconst 2, 1), (498, .iadd, 1), (499, .iaload, 1), (500, .invokevirtual 57, 3), (503, .pop, 1), (504, .aload_n 2, 1), (505, .aload_n 0, 1), (506, .iload 4, 2), (508, .iconst 1, 1), (509, .iadd, 1), (510, .iaload, 1), (511, .aload_n 0, 1), (512, .iload 4, 2), (514, .iconst 2, 1), (515, .iadd, 1), (516, .iaload, 1), (517, .invokevirtual 60, 3), (520, .pop, 1), (521, .goto 984, 3)]
set_option maxRecDepth 100000 in
theorem lt_8_d : (lt_8.all fun q => decide (decode code q.1 = .ok (q.2.1, q.2.2))) = true := by decide +kernel
theorem ll_x8 : Cond.methodLink "ReadBoundLaw" 57 mn_118 ∈ lw_tbl := List.mem_of_getElem? (i := 740) (by decide +kernel)
theorem ll_m8 : Cond.methodLink "ReadBoundLaw" 60 mn_230 ∈ lw_tbl := List.mem_of_getElem? (i := 1552) (by decide +kernel)
set_option maxRecDepth 100000 in
theorem lc_case8 {p : Program} {l : Launch} {e : Env} {s : State} {m : MethodId} {below : List Frame} {meth : Method} {c : Code} {Q : State → Prop} {D : va_G} {cA : Nat → ClassId} {sa sv : Nat} {ad : Nat → Nat} {b N oq : Nat} {xs : Nat → Int32} {cu su : Nat} {H : Heap} {locs : List Loc} {ls : Array Slot} {w : pi_W} {i : Nat} (hG : lw_G p s m c meth D cA sa sv ad b N oq xs) (hH : lw_H s D cA ad oq w H locs) (hE : lw_e w) (hl : lv_has ls 7 (lw_L ad b oq i)) (hi : i + 6 ≤ N) (hcu : cu + 6 ≤ 601024) (hsu : su + 36 ≤ 7293034) (kend : ∀ (H1 : Heap) (locs1 : List Loc) (w1 : pi_W) (ls1 : Array Slot), lw_H s D cA ad oq w1 H1 locs1 → lw_e w1 → lv_has ls1 7 (lw_L ad b oq i) → W p l e room_1 s m #[Value.ref b] below meth c H1 locs1 (cu + 6) (su + 36) Q (F0 m 1505 ls1 [])) : W p l e room_1 s m #[Value.ref b] below meth c H locs cu su Q (F0 m 487 ls []) := by
  obtain ⟨hI, hP, hD, hS, ho1, ho2, hof⟩ := id hH
  have C := hG.1
  have hsa := hG.2.1
  have hx := C.1
  have hb := C.2.1
  obtain ⟨e0, he0, fs0, rfl, -, -⟩ := hI.1.at (a := 0) (c := .inr (10, _)) rfl
  refine lv_aload_n hx hb (kd_at lt_8_d 0 rfl) rfl (lv_at hl 1 rfl) ?_
  refine lw_push (j := 1) (jj := 1) hG hS hl (by omega) rfl (kd_at lt_8_d 1 rfl) (kd_at lt_8_d 2 rfl) (kd_at lt_8_d 3 rfl) (kd_at lt_8_d 4 rfl) (kd_at lt_8_d 5 rfl) ?_
  refine lw_push (j := 2) (jj := 2) hG hS hl (by omega) rfl (kd_at lt_8_d 6 rfl) (kd_at lt_8_d 7 rfl) (kd_at lt_8_d 8 rfl) (kd_at lt_8_d 9 rfl) (kd_at lt_8_d 10 rfl) ?_
  refine lw_hq C hsa (z := 118) (na := 2) (cp := 57) (a := 0) (As := [.int (xs (i + 1)), .int (xs (i + 2))]) (d := 24) (restM := []) pz_118 lk_x8 ll_x8 rfl he0 (Nat.le_of_ble_eq_true rfl) (by decide) rfl (lx_8 hI (xs (i + 1)) (xs (i + 2))) (fun r w' q => by rw [q.1.1.1.1, hI.1.1]) hP hD hS hl.1 (by decide) (by decide) (by show cu ≤ 601024; omega) (by show su ≤ 7293034; omega) (by decide) (kd_at lt_8_d 11 rfl) ?_
  rintro r1 w1 H1 locs1 ⟨⟨hI1, q1⟩, v1, rfl⟩ hP1 hD1 hS1 hz1 hk1
  have hH1 := lw_oq hG hH hI1 hP1 hD1 hS1 hz1 hk1
  have x12 : gI w1 1 2 = gI w 1 2 := q1.g (by decide)
  have x612 : gI w1 61 2 = gI w 61 2 := q1.g (by decide)
  have x383 : gI w1 38 3 = gI w 38 3 := q1.g (by decide)
  have x493 : gI w1 49 3 = gI w 49 3 := q1.g (by decide)
  have x780 : gI w1 78 0 = gI w 78 0 := q1.g (by decide)
  have x781 : gI w1 78 1 = gI w 78 1 := q1.g (by decide)
  obtain ⟨e1, he1, fs1, rfl, -, -⟩ := hI1.1.at (a := 61) (c := .inr (11, _)) rfl
  refine lv_pop hx hb (kd_at lt_8_d 12 rfl) rfl ?_
  refine lv_aload_n hx hb (kd_at lt_8_d 13 rfl) rfl (lv_at hl 2 rfl) ?_
  refine lw_push (j := 1) (jj := 1) hG hS1 hl (by omega) rfl (kd_at lt_8_d 14 rfl) (kd_at lt_8_d 15 rfl) (kd_at lt_8_d 16 rfl) (kd_at lt_8_d 17 rfl) (kd_at lt_8_d 18 rfl) ?_
  refine lw_push (j := 2) (jj := 2) hG hS1 hl (by omega) rfl (kd_at lt_8_d 19 rfl) (kd_at lt_8_d 20 rfl) (kd_at lt_8_d 21 rfl) (kd_at lt_8_d 22 rfl) (kd_at lt_8_d 23 rfl) ?_
  refine lw_hq C hsa (z := 230) (na := 2) (cp := 60) (a := 61) (As := [.int (xs (i + 1)), .int (xs (i + 2))]) (d := 24) (restM := []) pz_230 lk_m8 ll_m8 rfl he1 (Nat.le_of_ble_eq_true rfl) (by decide) rfl (lm_8 hI1 (xs (i + 1)) (xs (i + 2))) (fun r w' q => by rw [q.1.1.1.1, hI1.1.1]) hP1 hD1 hS1 hl.1 (by decide) (by decide) (by show cu ≤ 601024; omega) (by show su ≤ 7293034; omega) (by decide) (kd_at lt_8_d 24 rfl) ?_
  rintro r2 w2 H2 locs2 ⟨⟨hI2, q2⟩, v2, rfl⟩ hP2 hD2 hS2 hz2 hk2
  have hH2 := lw_oq hG hH1 hI2 hP2 hD2 hS2 hz2 hk2
  have m12 : gI w2 1 2 = gI w1 1 2 := q2.g (by decide)
  have m612 : gI w2 61 2 = gI w1 61 2 := q2.g (by decide)
  have m383 : gI w2 38 3 = gI w1 38 3 := q2.g (by decide)
  have m493 : gI w2 49 3 = gI w1 49 3 := q2.g (by decide)
  have m780 : gI w2 78 0 = gI w1 78 0 := q2.g (by decide)
  have m781 : gI w2 78 1 = gI w1 78 1 := q2.g (by decide)
  have hE2 : lw_e w2 := by
    refine ⟨?_, ?_, ?_, fun n hn => ?_, fun k hk => ?_, fun k hk => ?_, ?_, ?_, ?_, ?_⟩
    · rw [m12, x12, m612, x612, hE.1]
    · rw [m383, x383, m780, x780, hE.2.1]
    · rw [m493, x493, m781, x781, hE.2.2.1]
    · rw [q2.gv (c := 2) (k := 940) (by decide) hn, q1.gv (c := 2) (k := 940) (by decide) hn, q2.gv (c := 62) (k := 940) (by decide) hn, q1.gv (c := 62) (k := 940) (by decide) hn]
      exact hE.2.2.2.1 n hn
    · rw [q2.gl (c := 3) (k := 29) (by decide) hk, q1.gl (c := 3) (k := 29) (by decide) hk]
      exact hE.2.2.2.2.1 k hk
    · rw [q2.gl (c := 67) (k := 29) (by decide) hk, q1.gl (c := 67) (k := 29) (by decide) hk]
      exact hE.2.2.2.2.2.1 k hk
    · exact hE.2.2.2.2.2.2.1.cp ((q1.CP (fa := 5) (na := 6) (by decide) (by decide)).tr (q2.CP (fa := 5) (na := 6) (by decide) (by decide))) ((q1.MP (sa := 63) (so := 0) (ma := 66) (mo := 0) (N := 115) (M := 27) (by decide) (by decide) (by decide) (by decide)).tr (q2.MP (sa := 63) (so := 0) (ma := 66) (mo := 0) (N := 115) (M := 27) (by decide) (by decide) (by decide) (by decide)))
    · exact hE.2.2.2.2.2.2.2.1.cp ((q1.CP (fa := 40) (na := 41) (by decide) (by decide)).tr (q2.CP (fa := 40) (na := 41) (by decide) (by decide))) ((q1.MP (sa := 76) (so := 0) (ma := 77) (mo := 0) (N := 822) (M := 54) (by decide) (by decide) (by decide) (by decide)).tr (q2.MP (sa := 76) (so := 0) (ma := 77) (mo := 0) (N := 822) (M := 54) (by decide) (by decide) (by decide) (by decide)))
    · exact hE.2.2.2.2.2.2.2.2.1.cp ((q1.CP (fa := 51) (na := 52) (by decide) (by decide)).tr (q2.CP (fa := 51) (na := 52) (by decide) (by decide))) ((q1.MP (sa := 76) (so := 411) (ma := 77) (mo := 27) (N := 822) (M := 54) (by decide) (by decide) (by decide) (by decide)).tr (q2.MP (sa := 76) (so := 411) (ma := 77) (mo := 27) (N := 822) (M := 54) (by decide) (by decide) (by decide) (by decide)))
    · unfold ft_e
      rw [q2.g (c := 1) (i := 10) (by decide), q1.g (c := 1) (i := 10) (by decide), q2.g (c := 61) (i := 15) (by decide), q1.g (c := 61) (i := 15) (by decide)]
      exact hE.2.2.2.2.2.2.2.2.2
  refine lv_pop hx hb (kd_at lt_8_d 25 rfl) rfl ?_
  refine lv_goto (tgt := 1505) hx hb (kd_at lt_8_d 26 rfl) rfl ?_
  exact W.widen (by omega) (by omega) (kend H2 locs2 w2 ls hH2 hE2 hl)
def lt_9 : List (Nat × Instr × Nat) := [(524, .aload_n 1, 1), (525, .aload_n 0, 1), (526, .iload 4, 2), (528, .iconst 1, 1), (529, .iadd, 1), (530, .iaload, 1), (531, .aload_n 0, 1), (532, .iload 4, 2), (534, .iconst 2, 1), (535, .iadd, 1), (536, .iaload, 1), (537, .invokevirtual 61, 3), (540, .pop, 1), (541, .aload_n 2, 1), (542, .aload_n 0, 1), (543, .iload 4, 2), (545, .iconst 1, 1), (546, .iadd, 1), (547, .iaload, 1), (548, .aload_n 0, 1), (549, .iload 4, 2), (551, .iconst 2, 1), (552, .iadd, 1), (553, .iaload, 1), (554, .invokevirtual 64, 3), (557, .pop, 1), (558, .goto 947, 3)]
set_option maxRecDepth 100000 in
theorem lt_9_d : (lt_9.all fun q => decide (decode code q.1 = .ok (q.2.1, q.2.2))) = true := by decide +kernel
theorem ll_x9 : Cond.methodLink "ReadBoundLaw" 61 mn_119 ∈ lw_tbl := List.mem_of_getElem? (i := 790) (by decide +kernel)
theorem ll_m9 : Cond.methodLink "ReadBoundLaw" 64 mn_231 ∈ lw_tbl := List.mem_of_getElem? (i := 1572) (by decide +kernel)
set_option maxRecDepth 100000 in
theorem lc_case9 {p : Program} {l : Launch} {e : Env} {s : State} {m : MethodId} {below : List Frame} {meth : Method} {c : Code} {Q : State → Prop} {D : va_G} {cA : Nat → ClassId} {sa sv : Nat} {ad : Nat → Nat} {b N oq : Nat} {xs : Nat → Int32} {cu su : Nat} {H : Heap} {locs : List Loc} {ls : Array Slot} {w : pi_W} {i : Nat} (hG : lw_G p s m c meth D cA sa sv ad b N oq xs) (hH : lw_H s D cA ad oq w H locs) (hE : lw_e w) (hl : lv_has ls 7 (lw_L ad b oq i)) (hi : i + 6 ≤ N) (hcu : cu + 6 ≤ 601024) (hsu : su + 36 ≤ 7293034) (kend : ∀ (H1 : Heap) (locs1 : List Loc) (w1 : pi_W) (ls1 : Array Slot), lw_H s D cA ad oq w1 H1 locs1 → lw_e w1 → lv_has ls1 7 (lw_L ad b oq i) → W p l e room_1 s m #[Value.ref b] below meth c H1 locs1 (cu + 6) (su + 36) Q (F0 m 1505 ls1 [])) : W p l e room_1 s m #[Value.ref b] below meth c H locs cu su Q (F0 m 524 ls []) := by
  obtain ⟨hI, hP, hD, hS, ho1, ho2, hof⟩ := id hH
  have C := hG.1
  have hsa := hG.2.1
  have hx := C.1
  have hb := C.2.1
  obtain ⟨e0, he0, fs0, rfl, -, -⟩ := hI.1.at (a := 0) (c := .inr (10, _)) rfl
  refine lv_aload_n hx hb (kd_at lt_9_d 0 rfl) rfl (lv_at hl 1 rfl) ?_
  refine lw_push (j := 1) (jj := 1) hG hS hl (by omega) rfl (kd_at lt_9_d 1 rfl) (kd_at lt_9_d 2 rfl) (kd_at lt_9_d 3 rfl) (kd_at lt_9_d 4 rfl) (kd_at lt_9_d 5 rfl) ?_
  refine lw_push (j := 2) (jj := 2) hG hS hl (by omega) rfl (kd_at lt_9_d 6 rfl) (kd_at lt_9_d 7 rfl) (kd_at lt_9_d 8 rfl) (kd_at lt_9_d 9 rfl) (kd_at lt_9_d 10 rfl) ?_
  refine lw_hq C hsa (z := 119) (na := 2) (cp := 61) (a := 0) (As := [.int (xs (i + 1)), .int (xs (i + 2))]) (d := 24) (restM := []) pz_119 lk_x9 ll_x9 rfl he0 (Nat.le_of_ble_eq_true rfl) (by decide) rfl (lx_9 hI (xs (i + 1)) (xs (i + 2))) (fun r w' q => by rw [q.1.1.1.1, hI.1.1]) hP hD hS hl.1 (by decide) (by decide) (by show cu ≤ 601024; omega) (by show su ≤ 7293034; omega) (by decide) (kd_at lt_9_d 11 rfl) ?_
  rintro r1 w1 H1 locs1 ⟨⟨hI1, q1⟩, v1, rfl⟩ hP1 hD1 hS1 hz1 hk1
  have hH1 := lw_oq hG hH hI1 hP1 hD1 hS1 hz1 hk1
  have x12 : gI w1 1 2 = gI w 1 2 := q1.g (by decide)
  have x612 : gI w1 61 2 = gI w 61 2 := q1.g (by decide)
  have x383 : gI w1 38 3 = gI w 38 3 := q1.g (by decide)
  have x493 : gI w1 49 3 = gI w 49 3 := q1.g (by decide)
  have x780 : gI w1 78 0 = gI w 78 0 := q1.g (by decide)
  have x781 : gI w1 78 1 = gI w 78 1 := q1.g (by decide)
  obtain ⟨e1, he1, fs1, rfl, -, -⟩ := hI1.1.at (a := 61) (c := .inr (11, _)) rfl
  refine lv_pop hx hb (kd_at lt_9_d 12 rfl) rfl ?_
  refine lv_aload_n hx hb (kd_at lt_9_d 13 rfl) rfl (lv_at hl 2 rfl) ?_
  refine lw_push (j := 1) (jj := 1) hG hS1 hl (by omega) rfl (kd_at lt_9_d 14 rfl) (kd_at lt_9_d 15 rfl) (kd_at lt_9_d 16 rfl) (kd_at lt_9_d 17 rfl) (kd_at lt_9_d 18 rfl) ?_
  refine lw_push (j := 2) (jj := 2) hG hS1 hl (by omega) rfl (kd_at lt_9_d 19 rfl) (kd_at lt_9_d 20 rfl) (kd_at lt_9_d 21 rfl) (kd_at lt_9_d 22 rfl) (kd_at lt_9_d 23 rfl) ?_
  refine lw_hq C hsa (z := 231) (na := 2) (cp := 64) (a := 61) (As := [.int (xs (i + 1)), .int (xs (i + 2))]) (d := 24) (restM := []) pz_231 lk_m9 ll_m9 rfl he1 (Nat.le_of_ble_eq_true rfl) (by decide) rfl (lm_9 hI1 (xs (i + 1)) (xs (i + 2))) (fun r w' q => by rw [q.1.1.1.1, hI1.1.1]) hP1 hD1 hS1 hl.1 (by decide) (by decide) (by show cu ≤ 601024; omega) (by show su ≤ 7293034; omega) (by decide) (kd_at lt_9_d 24 rfl) ?_
  rintro r2 w2 H2 locs2 ⟨⟨hI2, q2⟩, v2, rfl⟩ hP2 hD2 hS2 hz2 hk2
  have hH2 := lw_oq hG hH1 hI2 hP2 hD2 hS2 hz2 hk2
  have m12 : gI w2 1 2 = gI w1 1 2 := q2.g (by decide)
  have m612 : gI w2 61 2 = gI w1 61 2 := q2.g (by decide)
  have m383 : gI w2 38 3 = gI w1 38 3 := q2.g (by decide)
  have m493 : gI w2 49 3 = gI w1 49 3 := q2.g (by decide)
  have m780 : gI w2 78 0 = gI w1 78 0 := q2.g (by decide)
  have m781 : gI w2 78 1 = gI w1 78 1 := q2.g (by decide)
  have hE2 : lw_e w2 := by
    refine ⟨?_, ?_, ?_, fun n hn => ?_, fun k hk => ?_, fun k hk => ?_, ?_, ?_, ?_, ?_⟩
    · rw [m12, x12, m612, x612, hE.1]
    · rw [m383, x383, m780, x780, hE.2.1]
    · rw [m493, x493, m781, x781, hE.2.2.1]
    · rw [q2.gv (c := 2) (k := 940) (by decide) hn, q1.gv (c := 2) (k := 940) (by decide) hn, q2.gv (c := 62) (k := 940) (by decide) hn, q1.gv (c := 62) (k := 940) (by decide) hn]
      exact hE.2.2.2.1 n hn
    · rw [q2.gl (c := 3) (k := 29) (by decide) hk, q1.gl (c := 3) (k := 29) (by decide) hk]
      exact hE.2.2.2.2.1 k hk
    · rw [q2.gl (c := 67) (k := 29) (by decide) hk, q1.gl (c := 67) (k := 29) (by decide) hk]
      exact hE.2.2.2.2.2.1 k hk
    · exact hE.2.2.2.2.2.2.1.cp ((q1.CP (fa := 5) (na := 6) (by decide) (by decide)).tr (q2.CP (fa := 5) (na := 6) (by decide) (by decide))) ((q1.MP (sa := 63) (so := 0) (ma := 66) (mo := 0) (N := 115) (M := 27) (by decide) (by decide) (by decide) (by decide)).tr (q2.MP (sa := 63) (so := 0) (ma := 66) (mo := 0) (N := 115) (M := 27) (by decide) (by decide) (by decide) (by decide)))
    · exact hE.2.2.2.2.2.2.2.1.cp ((q1.CP (fa := 40) (na := 41) (by decide) (by decide)).tr (q2.CP (fa := 40) (na := 41) (by decide) (by decide))) ((q1.MP (sa := 76) (so := 0) (ma := 77) (mo := 0) (N := 822) (M := 54) (by decide) (by decide) (by decide) (by decide)).tr (q2.MP (sa := 76) (so := 0) (ma := 77) (mo := 0) (N := 822) (M := 54) (by decide) (by decide) (by decide) (by decide)))
    · exact hE.2.2.2.2.2.2.2.2.1.cp ((q1.CP (fa := 51) (na := 52) (by decide) (by decide)).tr (q2.CP (fa := 51) (na := 52) (by decide) (by decide))) ((q1.MP (sa := 76) (so := 411) (ma := 77) (mo := 27) (N := 822) (M := 54) (by decide) (by decide) (by decide) (by decide)).tr (q2.MP (sa := 76) (so := 411) (ma := 77) (mo := 27) (N := 822) (M := 54) (by decide) (by decide) (by decide) (by decide)))
    · unfold ft_e
      rw [q2.g (c := 1) (i := 10) (by decide), q1.g (c := 1) (i := 10) (by decide), q2.g (c := 61) (i := 15) (by decide), q1.g (c := 61) (i := 15) (by decide)]
      exact hE.2.2.2.2.2.2.2.2.2
  refine lv_pop hx hb (kd_at lt_9_d 25 rfl) rfl ?_
  refine lv_goto (tgt := 1505) hx hb (kd_at lt_9_d 26 rfl) rfl ?_
  exact W.widen (by omega) (by omega) (kend H2 locs2 w2 ls hH2 hE2 hl)
def lt_10 : List (Nat × Instr × Nat) := [(561, .aload_n 1, 1), (562, .aload_n 0, 1), (563, .iload 4, 2), (565, .iconst 1, 1), (566, .iadd, 1), (567, .iaload, 1), (568, .aload_n 0, 1), (569, .iload 4, 2), (571, .iconst 2, 1), (572, .iadd, 1), (573, .iaload, 1), (574, .invokevirtual 65, 3), (577, .pop, 1), (578, .aload_n 2, 1), (579, .aload_n 0, 1), (580, .iload 4, 2), (582, .iconst 1, 1), (583, .iadd, 1), (584, .iaload, 1), (585, .aload_n 0, 1), (586, .iload 4, 2), (588, .iconst 2, 1), (589, .iadd, 1), (590, .iaload, 1), (591, .invokevirtual 68, 3), (594, .pop, 1), (595, .goto 910, 3)]
set_option maxRecDepth 100000 in
theorem lt_10_d : (lt_10.all fun q => decide (decode code q.1 = .ok (q.2.1, q.2.2))) = true := by decide +kernel
theorem ll_x10 : Cond.methodLink "ReadBoundLaw" 65 mn_120 ∈ lw_tbl := List.mem_of_getElem? (i := 794) (by decide +kernel)
theorem ll_m10 : Cond.methodLink "ReadBoundLaw" 68 mn_232 ∈ lw_tbl := List.mem_of_getElem? (i := 1596) (by decide +kernel)
set_option maxRecDepth 100000 in
theorem lc_case10 {p : Program} {l : Launch} {e : Env} {s : State} {m : MethodId} {below : List Frame} {meth : Method} {c : Code} {Q : State → Prop} {D : va_G} {cA : Nat → ClassId} {sa sv : Nat} {ad : Nat → Nat} {b N oq : Nat} {xs : Nat → Int32} {cu su : Nat} {H : Heap} {locs : List Loc} {ls : Array Slot} {w : pi_W} {i : Nat} (hG : lw_G p s m c meth D cA sa sv ad b N oq xs) (hH : lw_H s D cA ad oq w H locs) (hE : lw_e w) (hl : lv_has ls 7 (lw_L ad b oq i)) (hi : i + 6 ≤ N) (hcu : cu + 6 ≤ 601024) (hsu : su + 36 ≤ 7293034) (kend : ∀ (H1 : Heap) (locs1 : List Loc) (w1 : pi_W) (ls1 : Array Slot), lw_H s D cA ad oq w1 H1 locs1 → lw_e w1 → lv_has ls1 7 (lw_L ad b oq i) → W p l e room_1 s m #[Value.ref b] below meth c H1 locs1 (cu + 6) (su + 36) Q (F0 m 1505 ls1 [])) : W p l e room_1 s m #[Value.ref b] below meth c H locs cu su Q (F0 m 561 ls []) := by
  obtain ⟨hI, hP, hD, hS, ho1, ho2, hof⟩ := id hH
  have C := hG.1
  have hsa := hG.2.1
  have hx := C.1
  have hb := C.2.1
  obtain ⟨e0, he0, fs0, rfl, -, -⟩ := hI.1.at (a := 0) (c := .inr (10, _)) rfl
  refine lv_aload_n hx hb (kd_at lt_10_d 0 rfl) rfl (lv_at hl 1 rfl) ?_
  refine lw_push (j := 1) (jj := 1) hG hS hl (by omega) rfl (kd_at lt_10_d 1 rfl) (kd_at lt_10_d 2 rfl) (kd_at lt_10_d 3 rfl) (kd_at lt_10_d 4 rfl) (kd_at lt_10_d 5 rfl) ?_
  refine lw_push (j := 2) (jj := 2) hG hS hl (by omega) rfl (kd_at lt_10_d 6 rfl) (kd_at lt_10_d 7 rfl) (kd_at lt_10_d 8 rfl) (kd_at lt_10_d 9 rfl) (kd_at lt_10_d 10 rfl) ?_
  refine lw_hq C hsa (z := 120) (na := 2) (cp := 65) (a := 0) (As := [.int (xs (i + 1)), .int (xs (i + 2))]) (d := 24) (restM := []) pz_120 lk_x10 ll_x10 rfl he0 (Nat.le_of_ble_eq_true rfl) (by decide) rfl (lx_10 hI (xs (i + 1)) (xs (i + 2))) (fun r w' q => by rw [q.1.1.1.1, hI.1.1]) hP hD hS hl.1 (by decide) (by decide) (by show cu ≤ 601024; omega) (by show su ≤ 7293034; omega) (by decide) (kd_at lt_10_d 11 rfl) ?_
  rintro r1 w1 H1 locs1 ⟨⟨hI1, q1⟩, v1, rfl⟩ hP1 hD1 hS1 hz1 hk1
  have hH1 := lw_oq hG hH hI1 hP1 hD1 hS1 hz1 hk1
  have x12 : gI w1 1 2 = gI w 1 2 := q1.g (by decide)
  have x612 : gI w1 61 2 = gI w 61 2 := q1.g (by decide)
  have x383 : gI w1 38 3 = gI w 38 3 := q1.g (by decide)
  have x493 : gI w1 49 3 = gI w 49 3 := q1.g (by decide)
  have x780 : gI w1 78 0 = gI w 78 0 := q1.g (by decide)
  have x781 : gI w1 78 1 = gI w 78 1 := q1.g (by decide)
  obtain ⟨e1, he1, fs1, rfl, -, -⟩ := hI1.1.at (a := 61) (c := .inr (11, _)) rfl
  refine lv_pop hx hb (kd_at lt_10_d 12 rfl) rfl ?_
  refine lv_aload_n hx hb (kd_at lt_10_d 13 rfl) rfl (lv_at hl 2 rfl) ?_
  refine lw_push (j := 1) (jj := 1) hG hS1 hl (by omega) rfl (kd_at lt_10_d 14 rfl) (kd_at lt_10_d 15 rfl) (kd_at lt_10_d 16 rfl) (kd_at lt_10_d 17 rfl) (kd_at lt_10_d 18 rfl) ?_
  refine lw_push (j := 2) (jj := 2) hG hS1 hl (by omega) rfl (kd_at lt_10_d 19 rfl) (kd_at lt_10_d 20 rfl) (kd_at lt_10_d 21 rfl) (kd_at lt_10_d 22 rfl) (kd_at lt_10_d 23 rfl) ?_
  refine lw_hq C hsa (z := 232) (na := 2) (cp := 68) (a := 61) (As := [.int (xs (i + 1)), .int (xs (i + 2))]) (d := 24) (restM := []) pz_232 lk_m10 ll_m10 rfl he1 (Nat.le_of_ble_eq_true rfl) (by decide) rfl (lm_10 hI1 (xs (i + 1)) (xs (i + 2))) (fun r w' q => by rw [q.1.1.1.1, hI1.1.1]) hP1 hD1 hS1 hl.1 (by decide) (by decide) (by show cu ≤ 601024; omega) (by show su ≤ 7293034; omega) (by decide) (kd_at lt_10_d 24 rfl) ?_
  rintro r2 w2 H2 locs2 ⟨⟨hI2, q2⟩, v2, rfl⟩ hP2 hD2 hS2 hz2 hk2
  have hH2 := lw_oq hG hH1 hI2 hP2 hD2 hS2 hz2 hk2
  have m12 : gI w2 1 2 = gI w1 1 2 := q2.g (by decide)
  have m612 : gI w2 61 2 = gI w1 61 2 := q2.g (by decide)
  have m383 : gI w2 38 3 = gI w1 38 3 := q2.g (by decide)
  have m493 : gI w2 49 3 = gI w1 49 3 := q2.g (by decide)
  have m780 : gI w2 78 0 = gI w1 78 0 := q2.g (by decide)
  have m781 : gI w2 78 1 = gI w1 78 1 := q2.g (by decide)
  have hE2 : lw_e w2 := by
    refine ⟨?_, ?_, ?_, fun n hn => ?_, fun k hk => ?_, fun k hk => ?_, ?_, ?_, ?_, ?_⟩
    · rw [m12, x12, m612, x612, hE.1]
    · rw [m383, x383, m780, x780, hE.2.1]
    · rw [m493, x493, m781, x781, hE.2.2.1]
    · rw [q2.gv (c := 2) (k := 940) (by decide) hn, q1.gv (c := 2) (k := 940) (by decide) hn, q2.gv (c := 62) (k := 940) (by decide) hn, q1.gv (c := 62) (k := 940) (by decide) hn]
      exact hE.2.2.2.1 n hn
    · rw [q2.gl (c := 3) (k := 29) (by decide) hk, q1.gl (c := 3) (k := 29) (by decide) hk]
      exact hE.2.2.2.2.1 k hk
    · rw [q2.gl (c := 67) (k := 29) (by decide) hk, q1.gl (c := 67) (k := 29) (by decide) hk]
      exact hE.2.2.2.2.2.1 k hk
    · exact hE.2.2.2.2.2.2.1.cp ((q1.CP (fa := 5) (na := 6) (by decide) (by decide)).tr (q2.CP (fa := 5) (na := 6) (by decide) (by decide))) ((q1.MP (sa := 63) (so := 0) (ma := 66) (mo := 0) (N := 115) (M := 27) (by decide) (by decide) (by decide) (by decide)).tr (q2.MP (sa := 63) (so := 0) (ma := 66) (mo := 0) (N := 115) (M := 27) (by decide) (by decide) (by decide) (by decide)))
    · exact hE.2.2.2.2.2.2.2.1.cp ((q1.CP (fa := 40) (na := 41) (by decide) (by decide)).tr (q2.CP (fa := 40) (na := 41) (by decide) (by decide))) ((q1.MP (sa := 76) (so := 0) (ma := 77) (mo := 0) (N := 822) (M := 54) (by decide) (by decide) (by decide) (by decide)).tr (q2.MP (sa := 76) (so := 0) (ma := 77) (mo := 0) (N := 822) (M := 54) (by decide) (by decide) (by decide) (by decide)))
    · exact hE.2.2.2.2.2.2.2.2.1.cp ((q1.CP (fa := 51) (na := 52) (by decide) (by decide)).tr (q2.CP (fa := 51) (na := 52) (by decide) (by decide))) ((q1.MP (sa := 76) (so := 411) (ma := 77) (mo := 27) (N := 822) (M := 54) (by decide) (by decide) (by decide) (by decide)).tr (q2.MP (sa := 76) (so := 411) (ma := 77) (mo := 27) (N := 822) (M := 54) (by decide) (by decide) (by decide) (by decide)))
    · unfold ft_e
      rw [q2.g (c := 1) (i := 10) (by decide), q1.g (c := 1) (i := 10) (by decide), q2.g (c := 61) (i := 15) (by decide), q1.g (c := 61) (i := 15) (by decide)]
      exact hE.2.2.2.2.2.2.2.2.2
  refine lv_pop hx hb (kd_at lt_10_d 25 rfl) rfl ?_
  refine lv_goto (tgt := 1505) hx hb (kd_at lt_10_d 26 rfl) rfl ?_
  exact W.widen (by omega) (by omega) (kend H2 locs2 w2 ls hH2 hE2 hl)
