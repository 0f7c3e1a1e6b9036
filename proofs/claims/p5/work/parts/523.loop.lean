def lt_22 : List (Nat × Instr × Nat) := [(897, .aload_n 1, 1), (898, .aload_n 0, 1), (899, .iload 4, 2), (901, .iconst 1, 1), (902, .iadd, 1), (903, .iaload, 1), (904, .aload_n 0, 1), (905, .iload 4, 2), (907, .iconst 2, 1), (908, .iadd, 1), (909, .iaload, 1), (910, .invokevirtual 113, 3), (913, .pop, 1), (914, .aload_n 2, 1), (915, .aload_n 0, 1), (916, .iload 4, 2), (918, .iconst 1, 1), (919, .iadd, 1), (920, .iaload, 1), (921, .aload_n 0, 1), (922, .iload 4, 2), (924, .iconst 2, 1), (925, .iadd, 1), (926, .iaload, 1), (927, .invokevirtual 116, 3), (930, .pop, 1), (931, .goto 574, 3)]
set_option maxRecDepth 100000 in
theorem lt_22_d : (lt_22.all fun q => decide (decode code q.1 = .ok (q.2.1, q.2.2))) = true := by decide +kernel
theorem ll_x22 : Cond.methodLink "ReadBoundLaw" 113 mn_132 ∈ lw_tbl := List.mem_of_getElem? (i := 874) (by decide +kernel)
theorem ll_m22 : Cond.methodLink "ReadBoundLaw" 116 mn_247 ∈ lw_tbl := List.mem_of_getElem? (i := 1692) (by decide +kernel)
set_option maxRecDepth 100000 in
theorem lc_case22 {p : Program} {l : Launch} {e : Env} {s : State} {m : MethodId} {below : List Frame} {meth : Method} {c : Code} {Q : State → Prop} {D : va_G} {cA : Nat → ClassId} {sa sv : Nat} {ad : Nat → Nat} {b N oq : Nat} {xs : Nat → Int32} {cu su : Nat} {H : Heap} {locs : List Loc} {ls : Array Slot} {w : pi_W} {i : Nat} (hG : lw_G p s m c meth D cA sa sv ad b N oq xs) (hH : lw_H s D cA ad oq w H locs) (hE : lw_e w) (hl : lv_has ls 7 (lw_L ad b oq i)) (hi : i + 6 ≤ N) (hcu : cu + 6 ≤ 601024) (hsu : su + 36 ≤ 7293034) (kend : ∀ (H1 : Heap) (locs1 : List Loc) (w1 : pi_W) (ls1 : Array Slot), lw_H s D cA ad oq w1 H1 locs1 → lw_e w1 → lv_has ls1 7 (lw_L ad b oq i) → W p l e room_1 s m #[Value.ref b] below meth c H1 locs1 (cu + 6) (su + 36) Q (F0 m 1505 ls1 [])) : W p l e room_1 s m #[Value.ref b] below meth c H locs cu su Q (F0 m 897 ls []) := by
  obtain ⟨hI, hP, hD, hS, ho1, ho2, hof⟩ := id hH
  have C := hG.1
  have hsa := hG.2.1
  have hx := C.1
  have hb := C.2.1
  obtain ⟨e0, he0, fs0, rfl, -, -⟩ := hI.1.at (a := 0) (c := .inr (10, _)) rfl
  refine lv_aload_n hx hb (kd_at lt_22_d 0 rfl) rfl (lv_at hl 1 rfl) ?_
  refine lw_push (j := 1) (jj := 1) hG hS hl (by omega) rfl (kd_at lt_22_d 1 rfl) (kd_at lt_22_d 2 rfl) (kd_at lt_22_d 3 rfl) (kd_at lt_22_d 4 rfl) (kd_at lt_22_d 5 rfl) ?_
  refine lw_push (j := 2) (jj := 2) hG hS hl (by omega) rfl (kd_at lt_22_d 6 rfl) (kd_at lt_22_d 7 rfl) (kd_at lt_22_d 8 rfl) (kd_at lt_22_d 9 rfl) (kd_at lt_22_d 10 rfl) ?_
  refine lw_hq C hsa (z := 132) (na := 2) (cp := 113) (a := 0) (As := [.int (xs (i + 1)), .int (xs (i + 2))]) (d := 24) (restM := []) pz_132 lk_x22 ll_x22 rfl he0 (Nat.le_of_ble_eq_true rfl) (by decide) rfl (lx_22 hI (xs (i + 1)) (xs (i + 2))) (fun r w' q => by rw [q.1.1.1.1, hI.1.1]) hP hD hS hl.1 (by decide) (by decide) (by show cu ≤ 601024; omega) (by show su ≤ 7293034; omega) (by decide) (kd_at lt_22_d 11 rfl) ?_
  rintro r1 w1 H1 locs1 ⟨⟨hI1, q1⟩, v1, rfl⟩ hP1 hD1 hS1 hz1 hk1
  have hH1 := lw_oq hG hH hI1 hP1 hD1 hS1 hz1 hk1
  have x12 : gI w1 1 2 = gI w 1 2 := q1.g (by decide)
  have x612 : gI w1 61 2 = gI w 61 2 := q1.g (by decide)
  have x383 : gI w1 38 3 = gI w 38 3 := q1.g (by decide)
  have x493 : gI w1 49 3 = gI w 49 3 := q1.g (by decide)
  have x780 : gI w1 78 0 = gI w 78 0 := q1.g (by decide)
  have x781 : gI w1 78 1 = gI w 78 1 := q1.g (by decide)
  obtain ⟨e1, he1, fs1, rfl, -, -⟩ := hI1.1.at (a := 61) (c := .inr (11, _)) rfl
  refine lv_pop hx hb (kd_at lt_22_d 12 rfl) rfl ?_
  refine lv_aload_n hx hb (kd_at lt_22_d 13 rfl) rfl (lv_at hl 2 rfl) ?_
  refine lw_push (j := 1) (jj := 1) hG hS1 hl (by omega) rfl (kd_at lt_22_d 14 rfl) (kd_at lt_22_d 15 rfl) (kd_at lt_22_d 16 rfl) (kd_at lt_22_d 17 rfl) (kd_at lt_22_d 18 rfl) ?_
  refine lw_push (j := 2) (jj := 2) hG hS1 hl (by omega) rfl (kd_at lt_22_d 19 rfl) (kd_at lt_22_d 20 rfl) (kd_at lt_22_d 21 rfl) (kd_at lt_22_d 22 rfl) (kd_at lt_22_d 23 rfl) ?_
  refine lw_hq C hsa (z := 247) (na := 2) (cp := 116) (a := 61) (As := [.int (xs (i + 1)), .int (xs (i + 2))]) (d := 24) (restM := []) pz_247 lk_m22 ll_m22 rfl he1 (Nat.le_of_ble_eq_true rfl) (by decide) rfl (lm_22 hI1 (xs (i + 1)) (xs (i + 2))) (fun r w' q => by rw [q.1.1.1.1, hI1.1.1]) hP1 hD1 hS1 hl.1 (by decide) (by decide) (by show cu ≤ 601024; omega) (by show su ≤ 7293034; omega) (by decide) (kd_at lt_22_d 24 rfl) ?_
  rintro r2 w2 H2 locs2 ⟨⟨hI2, q2⟩, v2, rfl⟩ hP2 hD2 hS2 hz2 hk2
  have hH2 := lw_oq hG hH1 hI2 hP2 hD2 hS2 hz2 hk2
  have m12 : gI w2 1 2 = gI w1 1 2 := q2.g (by decide)
  have m612 : gI w2 61 2 = gI w1 61 2 := q2.g (by decide)
  have m383 : gI w2 38 3 = gI w1 38 3 := q2.g (by decide)
  have m493 : gI w2 49 3 = gI w1 49 3 := q2.g (by decide)
  have m780 : gI w2 78 0 = gI w1 78 0 := q2.g (by decide)
  have m781 : gI w2 78 1 = gI w1 78 1 := q2.g (by decide)
  have hE2 : lw_e w2 := by
    refine ⟨?_, ?_, ?_, fun n hn => ?_, fun k hk => ?_, fun k hk => ?_, ?_, ?_, ?_, ?_⟩
    · rw [m12, x12, m612, x612, hE.1]
    · rw [m383, x383, m780, x780, hE.2.1]
    · rw [m493, x493, m781, x781, hE.2.2.1]
    · rw [q2.gv (c := 2) (k := 940) (by decide) hn, q1.gv (c := 2) (k := 940) (by decide) hn, q2.gv (c := 62) (k := 940) (by decide) hn, q1.gv (c := 62) (k := 940) (by decide) hn]
      exact hE.2.2.2.1 n hn
    · rw [q2.gl (c := 3) (k := 29) (by decide) hk, q1.gl (c := 3) (k := 29) (by decide) hk]
      exact hE.2.2.2.2.1 k hk
    · rw [q2.gl (c := 67) (k := 29) (by decide) hk, q1.gl (c := 67) (k := 29) (by decide) hk]
      exact hE.2.2.2.2.2.1 k hk
    · exact hE.2.2.2.2.2.2.1.cp ((q1.CP (fa := 5) (na := 6) (by decide) (by decide)).tr (q2.CP (fa := 5) (na := 6) (by decide) (by decide))) ((q1.MP (sa := 63) (so := 0) (ma := 66) (mo := 0) (N := 115) (M := 27) (by decide) (by decide) (by decide) (by decide)).tr (q2.MP (sa := 63) (so := 0) (ma := 66) (mo := 0) (N := 115) (M := 27) (by decide) (by decide) (by decide) (by decide)))
    · exact hE.2.2.2.2.2.2.2.1.cp ((q1.CP (fa := 40) (na := 41) (by decide) (by decide)).tr (q2.CP (fa := 40) (na := 41) (by decide) (by decide))) ((q1.MP (sa := 76) (so := 0) (ma := 77) (mo := 0) (N := 822) (M := 54) (by decide) (by decide) (by decide) (by decide)).tr (q2.MP (sa := 76) (so := 0) (ma := 77) (mo := 0) (N := 822) (M := 54) (by decide) (by decide) (by decide) (by decide)))
    · exact hE.2.2.2.2.2.2.2.2.1.cp ((q1.CP (fa := 51) (na := 52) (by decide) (by decide)).tr (q2.CP (fa := 51) (na := 52) (by decide) (by decide))) ((q1.MP (sa := 76) (so := 411) (ma := 77) (mo := 27) (N := 822) (M := 54) (by decide) (by decide) (by decide) (by decide)).tr (q2.MP (sa := 76) (so := 411) (ma := 77) (mo := 27) (N := 822) (M := 54) (by decide) (by decide) (by decide) (by decide)))
    · unfold ft_e
      rw [q2.g (c := 1) (i := 10) (by decide), q1.g (c := 1) (i := 10) (by decide), q2.g (c := 61) (i := 15) (by decide), q1.g (c := 61) (i := 15) (by decide)]
      exact hE.2.2.2.2.2.2.2.2.2
  refine lv_pop hx hb (kd_at lt_22_d 25 rfl) rfl ?_
  refine lv_goto (tgt := 1505) hx hb (kd_at lt_22_d 26 rfl) rfl ?_
  exact W.widen (by omega) (by omega) (kend H2 locs2 w2 ls hH2 hE2 hl)
def lt_23 : List (Nat × Instr × Nat) := [(934, .aload_n 1, 1), (935, .aload_n 0, 1), (936, .iload 4, 2), (938, .iconst 1, 1), (939, .iadd, 1), (940, .iaload, 1), (941, .aload_n 0, 1), (942, .iload 4, 2), (944, .iconst 2, 1), (945, .iadd, 1), (946, .iaload, 1), (947, .aload_n 0, 1), (948, .iload 4, 2), (950, .iconst 3, 1), (951, .iadd, 1), (952, .iaload, 1), (953, .invokevirtual 117, 3), (956, .pop, 1), (957, .aload_n 2, 1), (958, .aload_n 0, 1), (959, .iload 4, 2), (961, .iconst 1, 1), (962, .iadd, 1), (963, .iaload, 1), (964, .aload_n 0, 1), (965, .iload 4, 2), (967, .iconst 2, 1), (968, .iadd, 1), (969, .iaload, 1), (970, .aload_n 0, 1), (971, .iload 4, 2), (973, .iconst 3, 1), (974, .iadd, 1), (975, .iaload, 1), (976, .invokevirtual 121, 3), (979, .pop, 1), (980, .goto 525, 3)]
set_option maxRecDepth 100000 in
theorem lt_23_d : (lt_23.all fun q => decide (decode code q.1 = .ok (q.2.1, q.2.2))) = true := by decide +kernel
theorem ll_x23 : Cond.methodLink "ReadBoundLaw" 117 mn_133 ∈ lw_tbl := List.mem_of_getElem? (i := 882) (by decide +kernel)
theorem ll_m23 : Cond.methodLink "ReadBoundLaw" 121 mn_251 ∈ lw_tbl := List.mem_of_getElem? (i := 1700) (by decide +kernel)
set_option maxRecDepth 100000 in
theorem lc_case23 {p : Program} {l : Launch} {e : Env} {s : State} {m : MethodId} {below : List Frame} {meth : Method} {c : Code} {Q : State → Prop} {D : va_G} {cA : Nat → ClassId} {sa sv : Nat} {ad : Nat → Nat} {b N oq : Nat} {xs : Nat → Int32} {cu su : Nat} {H : Heap} {locs : List Loc} {ls : Array Slot} {w : pi_W} {i : Nat} (hG : lw_G p s m c meth D cA sa sv ad b N oq xs) (hH : lw_H s D cA ad oq w H locs) (hE : lw_e w) (hl : lv_has ls 7 (lw_L ad b oq i)) (hi : i + 6 ≤ N) (hcu : cu + 6 ≤ 601024) (hsu : su + 36 ≤ 7293034) (kend : ∀ (H1 : Heap) (locs1 : List Loc) (w1 : pi_W) (ls1 : Array Slot), lw_H s D cA ad oq w1 H1 locs1 → lw_e w1 → lv_has ls1 7 (lw_L ad b oq i) → W p l e room_1 s m #[Value.ref b] below meth c H1 locs1 (cu + 6) (su + 36) Q (F0 m 1505 ls1 [])) : W p l e room_1 s m #[Value.ref b] below meth c H locs cu su Q (F0 m 934 ls []) := by
  obtain ⟨hI, hP, hD, hS, ho1, ho2, hof⟩ := id hH
  have C := hG.1
  have hsa := hG.2.1
  have hx := C.1
  have hb := C.2.1
  obtain ⟨e0, he0, fs0, rfl, -, -⟩ := hI.1.at (a := 0) (c := .inr (10, _)) rfl
  refine lv_aload_n hx hb (kd_at lt_23_d 0 rfl) rfl (lv_at hl 1 rfl) ?_
  refine lw_push (j := 1) (jj := 1) hG hS hl (by omega) rfl (kd_at lt_23_d 1 rfl) (kd_at lt_23_d 2 rfl) (kd_at lt_23_d 3 rfl) (kd_at lt_23_d 4 rfl) (kd_at lt_23_d 5 rfl) ?_
  refine lw_push (j := 2) (jj := 2) hG hS hl (by omega) rfl (kd_at lt_23_d 6 rfl) (kd_at lt_23_d 7 rfl) (kd_at lt_23_d 8 rfl) (kd_at lt_23_d 9 rfl) (kd_at lt_23_d 10 rfl) ?_
  refine lw_push (j := 3) (jj := 3) hG hS hl (by omega) rfl (kd_at lt_23_d 11 rfl) (kd_at lt_23_d 12 rfl) (kd_at lt_23_d 13 rfl) (kd_at lt_23_d 14 rfl) (kd_at lt_23_d 15 rfl) ?_
  refine lw_hq C hsa (z := 133) (na := 3) (cp := 117) (a := 0) (As := [.int (xs (i + 1)), .int (xs (i + 2)), .int (xs (i + 3))]) (d := 24) (restM := []) pz_133 lk_x23 ll_x23 rfl he0 (Nat.le_of_ble_eq_true rfl) (by decide) rfl (lx_23 hI (xs (i + 1)) (xs (i + 2)) (xs (i + 3))) (fun r w' q => by rw [q.1.1.1.1, hI.1.1]) hP hD hS hl.1 (by decide) (by decide) (by show cu ≤ 601024; omega) (by show su ≤ 7293034; omega) (by decide) (kd_at lt_23_d 16 rfl) ?_
  rintro r1 w1 H1 locs1 ⟨⟨hI1, q1⟩, v1, rfl⟩ hP1 hD1 hS1 hz1 hk1
  have hH1 := lw_oq hG hH hI1 hP1 hD1 hS1 hz1 hk1
  have x12 : gI w1 1 2 = gI w 1 2 := q1.g (by decide)
  have x612 : gI w1 61 2 = gI w 61 2 := q1.g (by decide)
  have x383 : gI w1 38 3 = gI w 38 3 := q1.g (by decide)
  have x493 : gI w1 49 3 = gI w 49 3 := q1.g (by decide)
  have x780 : gI w1 78 0 = gI w 78 0 := q1.g (by decide)
  have x781 : gI w1 78 1 = gI w 78 1 := q1.g (by decide)
  obtain ⟨e1, he1, fs1, rfl, -, -⟩ := hI1.1.at (a := 61) (c := .inr (11, _)) rfl
  refine lv_pop hx hb (kd_at lt_23_d 17 rfl) rfl ?_
  refine lv_aload_n hx hb (kd_at lt_23_d 18 rfl) rfl (lv_at hl 2 rfl) ?_
  refine lw_push (j := 1) (jj := 1) hG hS1 hl (by omega) rfl (kd_at lt_23_d 19 rfl) (kd_at lt_23_d 20 rfl) (kd_at lt_23_d 21 rfl) (kd_at lt_23_d 22 rfl) (kd_at lt_23_d 23 rfl) ?_
  refine lw_push (j := 2) (jj := 2) hG hS1 hl (by omega) rfl (kd_at lt_23_d 24 rfl) (kd_at lt_23_d 25 rfl) (kd_at lt_23_d 26 rfl) (kd_at lt_23_d 27 rfl) (kd_at lt_23_d 28 rfl) ?_
  refine lw_push (j := 3) (jj := 3) hG hS1 hl (by omega) rfl (kd_at lt_23_d 29 rfl) (kd_at lt_23_d 30 rfl) (kd_at lt_23_d 31 rfl) (kd_at lt_23_d 32 rfl) (kd_at lt_23_d 33 rfl) ?_
  refine lw_hq C hsa (z := 251) (na := 3) (cp := 121) (a := 61) (As := [.int (xs (i + 1)), .int (xs (i + 2)), .int (xs (i + 3))]) (d := 24) (restM := []) pz_251 lk_m23 ll_m23 rfl he1 (Nat.le_of_ble_eq_true rfl) (by decide) rfl (lm_23 hI1 (xs (i + 1)) (xs (i + 2)) (xs (i + 3))) (fun r w' q => by rw [q.1.1.1.1, hI1.1.1]) hP1 hD1 hS1 hl.1 (by decide) (by decide) (by show cu ≤ 601024; omega) (by show su ≤ 7293034; omega) (by decide) (kd_at lt_23_d 34 rfl) ?_
  rintro r2 w2 H2 locs2 ⟨⟨hI2, q2⟩, v2, rfl⟩ hP2 hD2 hS2 hz2 hk2
  have hH2 := lw_oq hG hH1 hI2 hP2 hD2 hS2 hz2 hk2
  have m12 : gI w2 1 2 = gI w1 1 2 := q2.g (by decide)
  have m612 : gI w2 61 2 = gI w1 61 2 := q2.g (by decide)
  have m383 : gI w2 38 3 = gI w1 38 3 := q2.g (by decide)
  have m493 : gI w2 49 3 = gI w1 49 3 := q2.g (by decide)
  have m780 : gI w2 78 0 = gI w1 78 0 := q2.g (by decide)
  have m781 : gI w2 78 1 = gI w1 78 1 := q2.g (by decide)
  have hE2 : lw_e w2 := by
    refine ⟨?_, ?_, ?_, fun n hn => ?_, fun k hk => ?_, fun k hk => ?_, ?_, ?_, ?_, ?_⟩
    · rw [m12, x12, m612, x612, hE.1]
    · rw [m383, x383, m780, x780, hE.2.1]
    · rw [m493, x493, m781, x781, hE.2.2.1]
    · rw [q2.gv (c := 2) (k := 940) (by decide) hn, q1.gv (c := 2) (k := 940) (by decide) hn, q2.gv (c := 62) (k := 940) (by decide) hn, q1.gv (c := 62) (k := 940) (by decide) hn]
      exact hE.2.2.2.1 n hn
    · rw [q2.gl (c := 3) (k := 29) (by decide) hk, q1.gl (c := 3) (k := 29) (by decide) hk]
      exact hE.2.2.2.2.1 k hk
    · rw [q2.gl (c := 67) (k := 29) (by decide) hk, q1.gl (c := 67) (k := 29) (by decide) hk]
      exact hE.2.2.2.2.2.1 k hk
    · exact hE.2.2.2.2.2.2.1.cp ((q1.CP (fa := 5) (na := 6) (by decide) (by decide)).tr (q2.CP (fa := 5) (na := 6) (by decide) (by decide))) ((q1.MP (sa := 63) (so := 0) (ma := 66) (mo := 0) (N := 115) (M := 27) (by decide) (by decide) (by decide) (by decide)).tr (q2.MP (sa := 63) (so := 0) (ma := 66) (mo := 0) (N := 115) (M := 27) (by decide) (by decide) (by decide) (by decide)))
    · exact hE.2.2.2.2.2.2.2.1.cp ((q1.CP (fa := 40) (na := 41) (by decide) (by decide)).tr (q2.CP (fa := 40) (na := 41) (by decide) (by decide))) ((q1.MP (sa := 76) (so := 0) (ma := 77) (mo := 0) (N := 822) (M := 54) (by decide) (by decide) (by decide) (by decide)).tr (q2.MP (sa := 76) (so := 0) (ma := 77) (mo := 0) (N := 822) (M := 54) (by decide) (by decide) (by decide) (by decide)))
    · exact hE.2.2.2.2.2.2.2.2.1.cp ((q1.CP (fa := 51) (na := 52) (by decide) (by decide)).tr (q2.CP (fa := 51) (na := 52) (by decide) (by decide))) ((q1.MP (sa := 76) (so := 411) (ma := 77) (mo := 27) (N := 822) (M := 54) (by decide) (by decide) (by decide) (by decide)).tr (q2.MP (sa := 76) (so := 411) (ma := 77) (mo := 27) (N := 822) (M := 54) (by decide) (by decide) (by decide) (by decide)))
    · unfold ft_e
      rw [q2.g (c := 1) (i := 10) (by decide), q1.g (c := 1) (i := 10) (by decide), q2.g (c := 61) (i := 15) (by decide), q1.g (c := 61) (i := 15) (by decide)]
      exact hE.2.2.2.2.2.2.2.2.2
  refine lv_pop hx hb (kd_at lt_23_d 35 rfl) rfl ?_
  refine lv_goto (tgt := 1505) hx hb (kd_at lt_23_d 36 rfl) rfl ?_
  exact W.widen (by omega) (by omega) (kend H2 locs2 w2 ls hH2 hE2 hl)
def lt_24 : List (Nat × Instr × Nat) := [(983, .aload_n 1, 1), (984, .aload_n 0, 1), (985, .iload 4, 2), (987, .iconst 1, 1), (988, .iadd, 1), (989, .iaload, 1), (990, .invokevirtual 122, 3), (993, .pop, 1), (994, .aload_n 2, 1), (995, .aload_n 0, 1), (996, .iload 4, 2), (998, .iconst 1, 1), (999, .iadd, 1), (1000, .iaload, 1), (1001, .invokevirtual 125, 3), (1004, .pop, 1), (1005, .goto 500, 3)]
set_option maxRecDepth 100000 in
theorem lt_24_d : (lt_24.all fun q => decide (decode code q.1 = .ok (q.2.1, q.2.2))) = true := by decide +kernel
theorem ll_x24 : Cond.methodLink "ReadBoundLaw" 122 mn_134 ∈ lw_tbl := List.mem_of_getElem? (i := 908) (by decide +kernel)
theorem ll_m24 : Cond.methodLink "ReadBoundLaw" 125 mn_252 ∈ lw_tbl := List.mem_of_getElem? (i := 1712) (by decide +kernel)
set_option maxRecDepth 100000 in
theorem lc_case24 {p : Program} {l : Launch} {e : Env} {s : State} {m : MethodId} {below : List Frame} {meth : Method} {c : Code} {Q : State → Prop} {D : va_G} {cA : Nat → ClassId} {sa sv : Nat} {ad : Nat → Nat} {b N oq : Nat} {xs : Nat → Int32} {cu su : Nat} {H : Heap} {locs : List Loc} {ls : Array Slot} {w : pi_W} {i : Nat} (hG : lw_G p s m c meth D cA sa sv ad b N oq xs) (hH : lw_H s D cA ad oq w H locs) (hE : lw_e w) (hl : lv_has ls 7 (lw_L ad b oq i)) (hi : i + 6 ≤ N) (hcu : cu + 6 ≤ 601024) (hsu : su + 36 ≤ 7293034) (kend : ∀ (H1 : Heap) (locs1 : List Loc) (w1 : pi_W) (ls1 : Array Slot), lw_H s D cA ad oq w1 H1 locs1 → lw_e w1 → lv_has ls1 7 (lw_L ad b oq i) → W p l e room_1 s m #[Value.ref b] below meth c H1 locs1 (cu + 6) (su + 36) Q (F0 m 1505 ls1 [])) : W p l e room_1 s m #[Value.ref b] below meth c H locs cu su Q (F0 m 983 ls []) := by
  obtain ⟨hI, hP, hD, hS, ho1, ho2, hof⟩ := id hH
  have C := hG.1
  have hsa := hG.2.1
  have hx := C.1
  have hb := C.2.1
  obtain ⟨e0, he0, fs0, rfl, -, -⟩ := hI.1.at (a := 0) (c := .inr (10, _)) rfl
  refine lv_aload_n hx hb (kd_at lt_24_d 0 rfl) rfl (lv_at hl 1 rfl) ?_
  refine lw_push (j := 1) (jj := 1) hG hS hl (by omega) rfl (kd_at lt_24_d 1 rfl) (kd_at lt_24_d 2 rfl) (kd_at lt_24_d 3 rfl) (kd_at lt_24_d 4 rfl) (kd_at lt_24_d 5 rfl) ?_
  refine lw_hq C hsa (z := 134) (na := 1) (cp := 122) (a := 0) (As := [.int (xs (i + 1))]) (d := 24) (restM := []) pz_134 lk_x24 ll_x24 rfl he0 (Nat.le_of_ble_eq_true rfl) (by decide) rfl (lx_24 hI (xs (i + 1))) (fun r w' q => by rw [q.1.1.1.1, hI.1.1]) hP hD hS hl.1 (by decide) (by decide) (by show cu ≤ 601024; omega) (by show su ≤ 7293034; omega) (by decide) (kd_at lt_24_d 6 rfl) ?_
  rintro r1 w1 H1 locs1 ⟨⟨hI1, q1⟩, v1, rfl⟩ hP1 hD1 hS1 hz1 hk1
  have hH1 := lw_oq hG hH hI1 hP1 hD1 hS1 hz1 hk1
  have x12 : gI w1 1 2 = gI w 1 2 := q1.g (by decide)
  have x612 : gI w1 61 2 = gI w 61 2 := q1.g (by decide)
  have x383 : gI w1 38 3 = gI w 38 3 := q1.g (by decide)
  have x493 : gI w1 49 3 = gI w 49 3 := q1.g (by decide)
  have x780 : gI w1 78 0 = gI w 78 0 := q1.g (by decide)
  have x781 : gI w1 78 1 = gI w 78 1 := q1.g (by decide)
  obtain ⟨e1, he1, fs1, rfl, -, -⟩ := hI1.1.at (a := 61) (c := .inr (11, _)) rfl
  refine lv_pop hx hb (kd_at lt_24_d 7 rfl) rfl ?_
  refine lv_aload_n hx hb (kd_at lt_24_d 8 rfl) rfl (lv_at hl 2 rfl) ?_
  refine lw_push (j := 1) (jj := 1) hG hS1 hl (by omega) rfl (kd_at lt_24_d 9 rfl) (kd_at lt_24_d 10 rfl) (kd_at lt_24_d 11 rfl) (kd_at lt_24_d 12 rfl) (kd_at lt_24_d 13 rfl) ?_
  refine lw_hq C hsa (z := 252) (na := 1) (cp := 125) (a := 61) (As := [.int (xs (i + 1))]) (d := 24) (restM := []) pz_252 lk_m24 ll_m24 rfl he1 (Nat.le_of_ble_eq_true rfl) (by decide) rfl (lm_24 hI1 (xs (i + 1))) (fun r w' q => by rw [q.1.1.1.1, hI1.1.1]) hP1 hD1 hS1 hl.1 (by decide) (by decide) (by show cu ≤ 601024; omega) (by show su ≤ 7293034; omega) (by decide) (kd_at lt_24_d 14 rfl) ?_
  rintro r2 w2 H2 locs2 ⟨⟨hI2, q2⟩, v2, rfl⟩ hP2 hD2 hS2 hz2 hk2
  have hH2 := lw_oq hG hH1 hI2 hP2 hD2 hS2 hz2 hk2
  have m12 : gI w2 1 2 = gI w1 1 2 := q2.g (by decide)
  have m612 : gI w2 61 2 = gI w1 61 2 := q2.g (by decide)
  have m383 : gI w2 38 3 = gI w1 38 3 := q2.g (by decide)
  have m493 : gI w2 49 3 = gI w1 49 3 := q2.g (by decide)
  have m780 : gI w2 78 0 = gI w1 78 0 := q2.g (by decide)
  have m781 : gI w2 78 1 = gI w1 78 1 := q2.g (by decide)
  have hE2 : lw_e w2 := by
    refine ⟨?_, ?_, ?_, fun n hn => ?_, fun k hk => ?_, fun k hk => ?_, ?_, ?_, ?_, ?_⟩
    · rw [m12, x12, m612, x612, hE.1]
    · rw [m383, x383, m780, x780, hE.2.1]
    · rw [m493, x493, m781, x781, hE.2.2.1]
    · rw [q2.gv (c := 2) (k := 940) (by decide) hn, q1.gv (c := 2) (k := 940) (by decide) hn, q2.gv (c := 62) (k := 940) (by decide) hn, q1.gv (c := 62) (k := 940) (by decide) hn]
      exact hE.2.2.2.1 n hn
    · rw [q2.gl (c := 3) (k := 29) (by decide) hk, q1.gl (c := 3) (k := 29) (by decide) hk]
      exact hE.2.2.2.2.1 k hk
    · rw [q2.gl (c := 67) (k := 29) (by decide) hk, q1.gl (c := 67) (k := 29) (by decide) hk]
      exact hE.2.2.2.2.2.1 k hk
    · exact hE.2.2.2.2.2.2.1.cp ((q1.CP (fa := 5) (na := 6) (by decide) (by decide)).tr (q2.CP (fa := 5) (na := 6) (by decide) (by decide))) ((q1.MP (sa := 63) (so := 0) (ma := 66) (mo := 0) (N := 115) (M := 27) (by decide) (by decide) (by decide) (by decide)).tr (q2.MP (sa := 63) (so := 0) (ma := 66) (mo := 0) (N := 115) (M := 27) (by decide) (by decide) (by decide) (by decide)))
    · exact hE.2.2.2.2.2.2.2.1.cp ((q1.CP (fa := 40) (na := 41) (by decide) (by decide)).tr (q2.CP (fa := 40) (na := 41) (by decide) (by decide))) ((q1.MP (sa := 76) (so := 0) (ma := 77) (mo := 0) (N := 822) (M := 54) (by decide) (by decide) (by decide) (by decide)).tr (q2.MP (sa := 76) (so := 0) (ma := 77) (mo := 0) (N := 822) (M := 54) (by decide) (by decide) (by decide) (by decide)))
    · exact hE.2.2.2.2.2.2.2.2.1.cp ((q1.CP (fa := 51) (na := 52) (by decide) (by decide)).tr (q2.CP (fa := 51) (na := 52) (by decide) (by decide))) ((q1.MP (sa := 76) (so := 411) (ma := 77) (mo := 27) (N := 822) (M := 54) (by decide) (by decide) (by decide) (by decide)).tr (q2.MP (sa := 76) (so := 411) (ma := 77) (mo := 27) (N := 822) (M := 54) (by decide) (by decide) (by decide) (by decide)))
    · unfold ft_e
      rw [q2.g (c := 1) (i := 10) (by decide), q1.g (c := 1) (i := 10) (by decide), q2.g (c := 61) (i := 15) (by decide), q1.g (c := 61) (i := 15) (by decide)]
      exact hE.2.2.2.2.2.2.2.2.2
  refine lv_pop hx hb (kd_at lt_24_d 15 rfl) rfl ?_
  refine lv_goto (tgt := 1505) hx hb (kd_at lt_24_d 16 rfl) rfl ?_
  exact W.widen (by omega) (by omega) (kend H2 locs2 w2 ls hH2 hE2 hl)
def lt_25 : List (Nat × Instr × Nat) := [(1008, .aload_n 1, 1), (1009, .aload_n 0, 1), (1010, .iload 4, 2), (1012, .iconst 1, 1), (1013, .iadd, 1), (1014, .iaload, 1), (1015, .aload_n 0, 1), (1016, .iload 4, 2), (1018, .iconst 2, 1), (1019, .iadd, 1), (1020, .iaload, 1), (1021, .invokevirtual 126, 3), (1024, .pop, 1), (1025, .aload_n 2, 1), (1026, .aload_n 0, 1), (1027, .iload 4, 2), (1029, .iconst 1, 1), (1030, .iadd, 1), (1031, .iaload, 1), (1032, .aload_n 0, 1), (1033, .iload 4, 2), (1035, .iconst 2, 1), (1036, .iadd, 1), (1037, .iaload, 1), (1038, .invokevirtual 129, 3), (1041, .pop, 1), (1042, .goto 463, 3)]
set_option maxRecDepth 100000 in
theorem lt_25_d : (lt_25.all fun q => decide (decode code q.1 = .ok (q.2.1, q.2.2))) = true := by decide +kernel
theorem ll_x25 : Cond.methodLink "ReadBoundLaw" 126 mn_135 ∈ lw_tbl := List.mem_of_getElem? (i := 912) (by decide +kernel)
theorem ll_m25 : Cond.methodLink "ReadBoundLaw" 129 mn_253 ∈ lw_tbl := List.mem_of_getElem? (i := 1716) (by decide +kernel)
set_option maxRecDepth 100000 in
theorem lc_case25 {p : Program} {l : Launch} {e : Env} {s : State} {m : MethodId} {below : List Frame} {meth : Method} {c : Code} {Q : State → Prop} {D : va_G} {cA : Nat → ClassId} {sa sv : Nat} {ad : Nat → Nat} {b N oq : Nat} {xs : Nat → Int32} {cu su : Nat} {H : Heap} {locs : List Loc} {ls : Array Slot} {w : pi_W} {i : Nat} (hG : lw_G p s m c meth D cA sa sv ad b N oq xs) (hH : lw_H s D cA ad oq w H locs) (hE : lw_e w) (hl : lv_has ls 7 (lw_L ad b oq i)) (hi : i + 6 ≤ N) (hcu : cu + 6 ≤ 601024) (hsu : su + 36 ≤ 7293034) (kend : ∀ (H1 : Heap) (locs1 : List Loc) (w1 : pi_W) (ls1 : Array Slot), lw_H s D cA ad oq w1 H1 locs1 → lw_e w1 → lv_has ls1 7 (lw_L ad b oq i) → W p l e room_1 s m #[Value.ref b] below meth c H1 locs1 (cu + 6) (su + 36) Q (F0 m 1505 ls1 [])) : W p l e room_1 s m #[Value.ref b] below meth c H locs cu su Q (F0 m 1008 ls []) := by
  obtain ⟨hI, hP, hD, hS, ho1, ho2, hof⟩ := id hH
  have C := hG.1
  have hsa := hG.2.1
  have hx := C.1
  have hb := C.2.1
  obtain ⟨e0, he0, fs0, rfl, -, -⟩ := hI.1.at (a := 0) (c := .inr (10, _)) rfl
  refine lv_aload_n hx hb (kd_at lt_25_d 0 rfl) rfl (lv_at hl 1 rfl) ?_
  refine lw_push (j := 1) (jj := 1) hG hS hl (by omega) rfl (kd_at lt_25_d 1 rfl) (kd_at lt_25_d 2 rfl) (kd_at lt_25_d 3 rfl) (kd_at lt_25_d 4 rfl) (kd_at lt_25_d 5 rfl) ?_
  refine lw_push (j := 2) (jj := 2) hG hS hl (by omega) rfl (kd_at lt_25_d 6 rfl) (kd_at lt_25_d 7 rfl) (kd_at lt_25_d 8 rfl) (kd_at lt_25_d 9 rfl) (kd_at lt_25_d 10 rfl) ?_
  refine lw_hq C hsa (z := 135) (na := 2) (cp := 126) (a := 0) (As := [.int (xs (i + 1)), .int (xs (i + 2))]) (d := 24) (restM := []) pz_135 lk_x25 ll_x25 rfl he0 (Nat.le_of_ble_eq_true rfl) (by decide) rfl (lx_25 hI (xs (i + 1)) (xs (i + 2))) (fun r w' q => by rw [q.1.1.1.1, hI.1.1]) hP hD hS hl.1 (by decide) (by decide) (by show cu ≤ 601024; omega) (by show su ≤ 7293034; omega) (by decide) (kd_at lt_25_d 11 rfl) ?_
  rintro r1 w1 H1 locs1 ⟨⟨hI1, q1⟩, v1, rfl⟩ hP1 hD1 hS1 hz1 hk1
  have hH1 := lw_oq hG hH hI1 hP1 hD1 hS1 hz1 hk1
  have x12 : gI w1 1 2 = gI w 1 2 := q1.g (by decide)
  have x612 : gI w1 61 2 = gI w 61 2 := q1.g (by decide)
  have x383 : gI w1 38 3 = gI w 38 3 := q1.g (by decide)
  have x493 : gI w1 49 3 = gI w 49 3 := q1.g (by decide)
  have x780 : gI w1 78 0 = gI w 78 0 := q1.g (by decide)
  have x781 : gI w1 78 1 = gI w 78 1 := q1.g (by decide)
  obtain ⟨e1, he1, fs1, rfl, -, -⟩ := hI1.1.at (a := 61) (c := .inr (11, _)) rfl
  refine lv_pop hx hb (kd_at lt_25_d 12 rfl) rfl ?_
  refine lv_aload_n hx hb (kd_at lt_25_d 13 rfl) rfl (lv_at hl 2 rfl) ?_
  refine lw_push (j := 1) (jj := 1) hG hS1 hl (by omega) rfl (kd_at lt_25_d 14 rfl) (kd_at lt_25_d 15 rfl) (kd_at lt_25_d 16 rfl) (kd_at lt_25_d 17 rfl) (kd_at lt_25_d 18 rfl) ?_
  refine lw_push (j := 2) (jj := 2) hG hS1 hl (by omega) rfl (kd_at lt_25_d 19 rfl) (kd_at lt_25_d 20 rfl) (kd_at lt_25_d 21 rfl) (kd_at lt_25_d 22 rfl) (kd_at lt_25_d 23 rfl) ?_
  refine lw_hq C hsa (z := 253) (na := 2) (cp := 129) (a := 61) (As := [.int (xs (i + 1)), .int (xs (i + 2))]) (d := 24) (restM := []) pz_253 lk_m25 ll_m25 rfl he1 (Nat.le_of_ble_eq_true rfl) (by decide) rfl (lm_25 hI1 (xs (i + 1)) (xs (i + 2))) (fun r w' q => by rw [q.1.1.1.1, hI1.1.1]) hP1 hD1 hS1 hl.1 (by decide) (by decide) (by show cu ≤ 601024; omega) (by show su ≤ 7293034; omega) (by decide) (kd_at lt_25_d 24 rfl) ?_
  rintro r2 w2 H2 locs2 ⟨⟨hI2, q2⟩, v2, rfl⟩ hP2 hD2 hS2 hz2 hk2
  have hH2 := lw_oq hG hH1 hI2 hP2 hD2 hS2 hz2 hk2
  have m12 : gI w2 1 2 = gI w1 1 2 := q2.g (by decide)
  have m612 : gI w2 61 2 = gI w1 61 2 := q2.g (by decide)
  have m383 : gI w2 38 3 = gI w1 38 3 := q2.g (by decide)
  have m493 : gI w2 49 3 = gI w1 49 3 := q2.g (by decide)
  have m780 : gI w2 78 0 = gI w1 78 0 := q2.g (by decide)
  have m781 : gI w2 78 1 = gI w1 78 1 := q2.g (by decide)
  have hE2 : lw_e w2 := by
    refine ⟨?_, ?_, ?_, fun n hn => ?_, fun k hk => ?_, fun k hk => ?_, ?_, ?_, ?_, ?_⟩
    · rw [m12, x12, m612, x612, hE.1]
    · rw [m383, x383, m780, x780, hE.2.1]
    · rw [m493, x493, m781, x781, hE.2.2.1]
    · rw [q2.gv (c := 2) (k := 940) (by decide) hn, q1.gv (c := 2) (k := 940) (by decide) hn, q2.gv (c := 62) (k := 940) (by decide) hn, q1.gv (c := 62) (k := 940) (by decide) hn]
      exact hE.2.2.2.1 n hn
    · rw [q2.gl (c := 3) (k := 29) (by decide) hk, q1.gl (c := 3) (k := 29) (by decide) hk]
      exact hE.2.2.2.2.1 k hk
    · rw [q2.gl (c := 67) (k := 29) (by decide) hk, q1.gl (c := 67) (k := 29) (by decide) hk]
      exact hE.2.2.2.2.2.1 k hk
    · exact hE.2.2.2.2.2.2.1.cp ((q1.CP (fa := 5) (na := 6) (by decide) (by decide)).tr (q2.CP (fa := 5) (na := 6) (by decide) (by decide))) ((q1.MP (sa := 63) (so := 0) (ma := 66) (mo := 0) (N := 115) (M := 27) (by decide) (by decide) (by decide) (by decide)).tr (q2.MP (sa := 63) (so := 0) (ma := 66) (mo := 0) (N := 115) (M := 27) (by decide) (by decide) (by decide) (by decide)))
    · exact hE.2.2.2.2.2.2.2.1.cp ((q1.CP (fa := 40) (na := 41) (by decide) (by decide)).tr (q2.CP (fa := 40) (na := 41) (by decide) (by decide))) ((q1.MP (sa := 76) (so := 0) (ma := 77) (mo := 0) (N := 822) (M := 54) (by decide) (by decide) (by decide) (by decide)).tr (q2.MP (sa := 76) (so := 0) (ma := 77) (mo := 0) (N := 822) (M := 54) (by decide) (by decide) (by decide) (by decide)))
    · exact hE.2.2.2.2.2.2.2.2.1.cp ((q1.CP (fa := 51) (na := 52) (by decide) (by decide)).tr (q2.CP (fa := 51) (na := 52) (by decide) (by decide))) ((q1.MP (sa := 76) (so := 411) (ma := 77) (mo := 27) (N := 822) (M := 54) (by decide) (by decide) (by decide) (by decide)).tr (q2.MP (sa := 76) (so := 411) (ma := 77) (mo := 27) (N := 822) (M := 54) (by decide) (by decide) (by decide) (by decide)))
    · unfold ft_e
      rw [q2.g (c := 1) (i := 10) (by decide), q1.g (c := 1) (i := 10) (by decide), q2.g (c := 61) (i := 15) (by decide), q1.g (c := 61) (i := 15) (by decide)]
      exact hE.2.2.2.2.2.2.2.2.2
  refine lv_pop hx hb (kd_at lt_25_d 25 rfl) rfl ?_
  refine lv_goto (tgt := 1505) hx hb (kd_at lt_25_d 26 rfl) rfl ?_
  exact W.widen (by omega) (by omega) (kend H2 locs2 w2 ls hH2 hE2 hl)
def lt_26 : List (Nat × Instr × Nat) := [(1045, .aload_n 1, 1), (1046, .aload_n 0, 1), (1047, .iload 4, 2), (1049, .iconst 1, 1), (1050, .iadd, 1), (1051, .iaload, 1), (1052, .aload_n 0, 1), (1053, .iload 4, 2), (1055, .iconst 2, 1), (1056, .iadd, 1), (1057, .iaload, 1), (1058, .aload_n 0, 1), (1059, .iload 4, 2), (1061, .iconst 3, 1), (1062, .iadd, 1), (1063, .iaload, 1), (1064, .invokevirtual 130, 3), (1067, .pop, 1), (1068, .aload_n 2, 1), (1069, .aload_n 0, 1), (1070, .iload 4, 2), (1072, .iconst 1, 1), (1073, .iadd, 1), (1074, .iaload, 1), (1075, .aload_n 0, 1), (1076, .iload 4, 2), (1078, .iconst 2, 1), (1079, .iadd, 1), (1080, .iaload, 1), (1081, .aload_n 0, 1), (1082, .iload 4, 2), (1084, .iconst 3, 1), (1085, .iadd, 1), (1086, .iaload, 1), (1087, .invokevirtual 133, 3), (1090, .pop, 1), (1091, .goto 414, 3)]
set_option maxRecDepth 100000 in
theorem lt_26_d : (lt_26.all fun q => decide (decode code q.1 = .ok (q.2.1, q.2.2))) = true := by decide +kernel
theorem ll_x26 : Cond.methodLink "ReadBoundLaw" 130 mn_136 ∈ lw_tbl := List.mem_of_getElem? (i := 917) (by decide +kernel)
theorem ll_m26 : Cond.methodLink "ReadBoundLaw" 133 mn_255 ∈ lw_tbl := List.mem_of_getElem? (i := 1720) (by decide +kernel)
set_option maxRecDepth 100000 in
theorem lc_case26 {p : Program} {l : Launch} {e : Env} {s : State} {m : MethodId} {below : List Frame} {meth : Method} {c : Code} {Q : State → Prop} {D : va_G} {cA : Nat → ClassId} {sa sv : Nat} {ad : Nat → Nat} {b N oq : Nat} {xs : Nat → Int32} {cu su : Nat} {H : Heap} {locs : List Loc} {ls : Array Slot} {w : pi_W} {i : Nat} (hG : lw_G p s m c meth D cA sa sv ad b N oq xs) (hH : lw_H s D cA ad oq w H locs) (hE : lw_e w) (hl : lv_has ls 7 (lw_L ad b oq i)) (hi : i + 6 ≤ N) (hcu : cu + 6 ≤ 601024) (hsu : su + 36 ≤ 7293034) (kend : ∀ (H1 : Heap) (locs1 : List Loc) (w1 : pi_W) (ls1 : Array Slot), lw_H s D cA ad oq w1 H1 locs1 → lw_e w1 → lv_has ls1 7 (lw_L ad b oq i) → W p l e room_1 s m #[Value.ref b] below meth c H1 locs1 (cu + 6) (su + 36) Q (F0 m 1505 ls1 [])) : W p l e room_1 s m #[Value.ref b] below meth c H locs cu su Q (F0 m 1045 ls []) := by
  obtain ⟨hI, hP, hD, hS, ho1, ho2, hof⟩ := id hH
  have C := hG.1
  have hsa := hG.2.1
  have hx := C.1
  have hb := C.2.1
  obtain ⟨e0, he0, fs0, rfl, -, -⟩ := hI.1.at (a := 0) (c := .inr (10, _)) rfl
  refine lv_aload_n hx hb (kd_at lt_26_d 0 rfl) rfl (lv_at hl 1 rfl) ?_
  refine lw_push (j := 1) (jj := 1) hG hS hl (by omega) rfl (kd_at lt_26_d 1 rfl) (kd_at lt_26_d 2 rfl) (kd_at lt_26_d 3 rfl) (kd_at lt_26_d 4 rfl) (kd_at lt_26_d 5 rfl) ?_
  refine lw_push (j := 2) (jj := 2) hG hS hl (by omega) rfl (kd_at lt_26_d 6 rfl) (kd_at lt_26_d 7 rfl) (kd_at lt_26_d 8 rfl) (kd_at lt_26_d 9 rfl) (kd_at lt_26_d 10 rfl) ?_
  refine lw_push (j := 3) (jj := 3) hG hS hl (by omega) rfl (kd_at lt_26_d 11 rfl) (kd_at lt_26_d 12 rfl) (kd_at lt_26_d 13 rfl) (kd_at lt_26_d 14 rfl) (kd_at lt_26_d 15 rfl) ?_
  refine lw_hq C hsa (z := 136) (na := 3) (cp := 130) (a := 0) (As := [.int (xs (i + 1)), .int (xs (i + 2)), .int (xs (i + 3))]) (d := 24) (restM := []) pz_136 lk_x26 ll_x26 rfl he0 (Nat.le_of_ble_eq_true rfl) (by decide) rfl (lx_26 hI (xs (i + 1)) (xs (i + 2)) (xs (i + 3))) (fun r w' q => by rw [q.1.1.1.1, hI.1.1]) hP hD hS hl.1 (by decide) (by decide) (by show cu ≤ 601024; omega) (by show su ≤ 7293034; omega) (by decide) (kd_at lt_26_d 16 rfl) ?_
  rintro r1 w1 H1 locs1 ⟨⟨hI1, q1⟩, v1, rfl⟩ hP1 hD1 hS1 hz1 hk1
  have hH1 := lw_oq hG hH hI1 hP1 hD1 hS1 hz1 hk1
  have x12 : gI w1 1 2 = gI w 1 2 := q1.g (by decide)
  have x612 : gI w1 61 2 = gI w 61 2 := q1.g (by decide)
  have x383 : gI w1 38 3 = gI w 38 3 := q1.g (by decide)
  have x493 : gI w1 49 3 = gI w 49 3 := q1.g (by decide)
  have x780 : gI w1 78 0 = gI w 78 0 := q1.g (by decide)
  have x781 : gI w1 78 1 = gI w 78 1 := q1.g (by decide)
  obtain ⟨e1, he1, fs1, rfl, -, -⟩ := hI1.1.at (a := 61) (c := .inr (11, _)) rfl
  refine lv_pop hx hb (kd_at lt_26_d 17 rfl) rfl ?_
  refine lv_aload_n hx hb (kd_at lt_26_d 18 rfl) rfl (lv_at hl 2 rfl) ?_
  refine lw_push (j := 1) (jj := 1) hG hS1 hl (by omega) rfl (kd_at lt_26_d 19 rfl) (kd_at lt_26_d 20 rfl) (kd_at lt_26_d 21 rfl) (kd_at lt_26_d 22 rfl) (kd_at lt_26_d 23 rfl) ?_
  refine lw_push (j := 2) (jj := 2) hG hS1 hl (by omega) rfl (kd_at lt_26_d 24 rfl) (kd_at lt_26_d 25 rfl) (kd_at lt_26_d 26 rfl) (kd_at lt_26_d 27 rfl) (kd_at lt_26_d 28 rfl) ?_
  refine lw_push (j := 3) (jj := 3) hG hS1 hl (by omega) rfl (kd_at lt_26_d 29 rfl) (kd_at lt_26_d 30 rfl) (kd_at lt_26_d 31 rfl) (kd_at lt_26_d 32 rfl) (kd_at lt_26_d 33 rfl) ?_
  refine lw_hq C hsa (z := 255) (na := 3) (cp := 133) (a := 61) (As := [.int (xs (i + 1)), .int (xs (i + 2)), .int (xs (i + 3))]) (d := 24) (restM := []) pz_255 lk_m26 ll_m26 rfl he1 (Nat.le_of_ble_eq_true rfl) (by decide) rfl (lm_26 hI1 (xs (i + 1)) (xs (i + 2)) (xs (i + 3))) (fun r w' q => by rw [q.1.1.1.1, hI1.1.1]) hP1 hD1 hS1 hl.1 (by decide) (by decide) (by show cu ≤ 601024; omega) (by show su ≤ 7293034; omega) (by decide) (kd_at lt_26_d 34 rfl) ?_
  rintro r2 w2 H2 locs2 ⟨⟨hI2, q2⟩, v2, rfl⟩ hP2 hD2 hS2 hz2 hk2
  have hH2 := lw_oq hG hH1 hI2 hP2 hD2 hS2 hz2 hk2
  have m12 : gI w2 1 2 = gI w1 1 2 := q2.g (by decide)
  have m612 : gI w2 61 2 = gI w1 61 2 := q2.g (by decide)
  have m383 : gI w2 38 3 = gI w1 38 3 := q2.g (by decide)
  have m493 : gI w2 49 3 = gI w1 49 3 := q2.g (by decide)
  have m780 : gI w2 78 0 = gI w1 78 0 := q2.g (by decide)
  have m781 : gI w2 78 1 = gI w1 78 1 := q2.g (by decide)
  have hE2 : lw_e w2 := by
    refine ⟨?_, ?_, ?_, fun n hn => ?_, fun k hk => ?_, fun k hk => ?_, ?_, ?_, ?_, ?_⟩
    · rw [m12, x12, m612, x612, hE.1]
    · rw [m383, x383, m780, x780, hE.2.1]
    · rw [m493, x493, m781, x781, hE.2.2.1]
    · rw [q2.gv (c := 2) (k := 940) (by decide) hn, q1.gv (c := 2) (k := 940) (by decide) hn, q2.gv (c := 62) (k := 940) (by decide) hn, q1.gv (c := 62) (k := 940) (by decide) hn]
      exact hE.2.2.2.1 n hn
    · rw [q2.gl (c := 3) (k := 29) (by decide) hk, q1.gl (c := 3) (k := 29) (by decide) hk]
      exact hE.2.2.2.2.1 k hk
    · rw [q2.gl (c := 67) (k := 29) (by decide) hk, q1.gl (c := 67) (k := 29) (by decide) hk]
      exact hE.2.2.2.2.2.1 k hk
    · exact hE.2.2.2.2.2.2.1.cp ((q1.CP (fa := 5) (na := 6) (by decide) (by decide)).tr (q2.CP (fa := 5) (na := 6) (by decide) (by decide))) ((q1.MP (sa := 63) (so := 0) (ma := 66) (mo := 0) (N := 115) (M := 27) (by decide) (by decide) (by decide) (by decide)).tr (q2.MP (sa := 63) (so := 0) (ma := 66) (mo := 0) (N := 115) (M := 27) (by decide) (by decide) (by decide) (by decide)))
    · exact hE.2.2.2.2.2.2.2.1.cp ((q1.CP (fa := 40) (na := 41) (by decide) (by decide)).tr (q2.CP (fa := 40) (na := 41) (by decide) (by decide))) ((q1.MP (sa := 76) (so := 0) (ma := 77) (mo := 0) (N := 822) (M := 54) (by decide) (by decide) (by decide) (by decide)).tr (q2.MP (sa := 76) (so := 0) (ma := 77) (mo := 0) (N := 822) (M := 54) (by decide) (by decide) (by decide) (by decide)))
    · exact hE.2.2.2.2.2.2.2.2.1.cp ((q1.CP (fa := 51) (na := 52) (by decide) (by decide)).tr (q2.CP (fa := 51) (na := 52) (by decide) (by decide))) ((q1.MP (sa := 76) (so := 411) (ma := 77) (mo := 27) (N := 822) (M := 54) (by decide) (by decide) (by decide) (by decide)).tr (q2.MP (sa := 76) (so := 411) (ma := 77) (mo := 27) (N := 822) (M := 54) (by decide) (by decide) (by decide) (by decide)))
    · unfold ft_e
      rw [q2.g (c := 1) (i := 10) (by decide), q1.g (c := 1) (i := 10) (by decide), q2.g (c := 61) (i := 15) (by decide), q1.g (c := 61) (i := 15) (by decide)]
      exact hE.2.2.2.2.2.2.2.2.2
  refine lv_pop hx hb (kd_at lt_26_d 35 rfl) rfl ?_
  refine lv_goto (tgt := 1505) hx hb (kd_at lt_26_d 36 rfl) rfl ?_
  exact W.widen (by omega) (by omega) (kend H2 locs2 w2 ls hH2 hE2 hl)
def lt_27 : List (Nat × Instr × Nat) := [(1094, .aload_n 1, 1), (1095, .aload_n 0, 1), (1096, .iload 4, 2), (1098, .iconst 1, 1), (1099, .iadd, 1), (1100, .iaload, 1), (1101, .aload_n 0, 1), (1102, .iload 4, 2), (1104, .iconst 2, 1), (1105, .iadd, 1), (1106, .iaload, 1), (1107, .invokevirtual 134, 3), (1110, .pop, 1), (1111, .aload_n 2, 1), (1112, .aload_n 0, 1), (1113, .iload 4, 2), (1115, .iconst 1, 1), (1116, .iadd, 1), (1117, .iaload, 1), (1118, .aload_n 0, 1), (1119, .iload 4, 2), (1121, .iconst 2, 1), (1122, .iadd, 1), (1123, .iaload, 1), (1124, .invokevirtual 137, 3), (1127, .pop, 1), (1128, .goto 377, 3)]
set_option maxRecDepth 100000 in
theorem lt_27_d : (lt_27.all fun q => decide (decode code q.1 = .ok (q.2.1, q.2.2))) = true := by decide +kernel
theorem ll_x27 : Cond.methodLink "ReadBoundLaw" 134 mn_137 ∈ lw_tbl := List.mem_of_getElem? (i := 931) (by decide +kernel)
theorem ll_m27 : Cond.methodLink "ReadBoundLaw" 137 mn_257 ∈ lw_tbl := List.mem_of_getElem? (i := 1736) (by decide +kernel)
set_option maxRecDepth 100000 in
theorem lc_case27 {p : Program} {l : Launch} {e : Env} {s : State} {m : MethodId} {below : List Frame} {meth : Method} {c : Code} {Q : State → Prop} {D : va_G} {cA : Nat → ClassId} {sa sv : Nat} {ad : Nat → Nat} {b N oq : Nat} {xs : Nat → Int32} {cu su : Nat} {H : Heap} {locs : List Loc} {ls : Array Slot} {w : pi_W} {i : Nat} (hG : lw_G p s m c meth D cA sa sv ad b N oq xs) (hH : lw_H s D cA ad oq w H locs) (hE : lw_e w) (hl : lv_has ls 7 (lw_L ad b oq i)) (hi : i + 6 ≤ N) (hcu : cu + 6 ≤ 601024) (hsu : su + 36 ≤ 7293034) (kend : ∀ (H1 : Heap) (locs1 : List Loc) (w1 : pi_W) (ls1 : Array Slot), lw_H s D cA ad oq w1 H1 locs1 → lw_e w1 → lv_has ls1 7 (lw_L ad b oq i) → W p l e room_1 s m #[Value.ref b] below meth c H1 locs1 (cu + 6) (su + 36) Q (F0 m 1505 ls1 [])) : W p l e room_1 s m #[Value.ref b] below meth c H locs cu su Q (F0 m 1094 ls []) := by
  obtain ⟨hI, hP, hD, hS, ho1, ho2, hof⟩ := id hH
  have C := hG.1
  have hsa := hG.2.1
  have hx := C.1
  have hb := C.2.1
  obtain ⟨e0, he0, fs0, rfl, -, -⟩ := hI.1.at (a := 0) (c := .inr (10, _)) rfl
  refine lv_aload_n hx hb (kd_at lt_27_d 0 rfl) rfl (lv_at hl 1 rfl) ?_
  refine lw_push (j := 1) (jj := 1) hG hS hl (by omega) rfl (kd_at lt_27_d 1 rfl) (kd_at lt_27_d 2 rfl) (kd_at lt_27_d 3 rfl) (kd_at lt_27_d 4 rfl) (kd_at lt_27_d 5 rfl) ?_
  refine lw_push (j := 2) (jj := 2) hG hS hl (by omega) rfl (kd_at lt_27_d 6 rfl) (kd_at lt_27_d 7 rfl) (kd_at lt_27_d 8 rfl) (kd_at lt_27_d 9 rfl) (kd_at lt_27_d 10 rfl) ?_
  refine lw_hq C hsa (z := 137) (na := 2) (cp := 134) (a := 0) (As := [.int (xs (i + 1)), .int (xs (i + 2))]) (d := 24) (restM := []) pz_137 lk_x27 ll_x27 rfl he0 (Nat.le_of_ble_eq_true rfl) (by decide) rfl (lx_27 hI (xs (i + 1)) (xs (i + 2))) (fun r w' q => by rw [q.1.1.1.1, hI.1.1]) hP hD hS hl.1 (by decide) (by decide) (by show cu ≤ 601024; omega) (by show su ≤ 7293034; omega) (by decide) (kd_at lt_27_d 11 rfl) ?_
  rintro r1 w1 H1 locs1 ⟨⟨hI1, q1⟩, v1, rfl⟩ hP1 hD1 hS1 hz1 hk1
  have hH1 := lw_oq hG hH hI1 hP1 hD1 hS1 hz1 hk1
  have x12 : gI w1 1 2 = gI w 1 2 := q1.g (by decide)
  have x612 : gI w1 61 2 = gI w 61 2 := q1.g (by decide)
  have x383 : gI w1 38 3 = gI w 38 3 := q1.g (by decide)
  have x493 : gI w1 49 3 = gI w 49 3 := q1.g (by decide)
  have x780 : gI w1 78 0 = gI w 78 0 := q1.g (by decide)
  have x781 : gI w1 78 1 = gI w 78 1 := q1.g (by decide)
  obtain ⟨e1, he1, fs1, rfl, -, -⟩ := hI1.1.at (a := 61) (c := .inr (11, _)) rfl
  refine lv_pop hx hb (kd_at lt_27_d 12 rfl) rfl ?_
  refine lv_aload_n hx hb (kd_at lt_27_d 13 rfl) rfl (lv_at hl 2 rfl) ?_
  refine lw_push (j := 1) (jj := 1) hG hS1 hl (by omega) rfl (kd_at lt_27_d 14 rfl) (kd_at lt_27_d 15 rfl) (kd_at lt_27_d 16 rfl) (kd_at lt_27_d 17 rfl) (kd_at lt_27_d 18 rfl) ?_
  refine lw_push (j := 2) (jj := 2) hG hS1 hl (by omega) rfl (kd_at lt_27_d 19 rfl) (kd_at lt_27_d 20 rfl) (kd_at lt_27_d 21 rfl) (kd_at lt_27_d 22 rfl) (kd_at lt_27_d 23 rfl) ?_
  refine lw_hq C hsa (z := 257) (na := 2) (cp := 137) (a := 61) (As := [.int (xs (i + 1)), .int (xs (i + 2))]) (d := 24) (restM := []) pz_257 lk_m27 ll_m27 rfl he1 (Nat.le_of_ble_eq_true rfl) (by decide) rfl (lm_27 hI1 (xs (i + 1)) (xs (i + 2))) (fun r w' q => by rw [q.1.1.1.1, hI1.1.1]) hP1 hD1 hS1 hl.1 (by decide) (by decide) (by show cu ≤ 601024; omega) (by show su ≤ 7293034; omega) (by decide) (kd_at lt_27_d 24 rfl) ?_
  rintro r2 w2 H2 locs2 ⟨⟨hI2, q2⟩, v2, rfl⟩ hP2 hD2 hS2 hz2 hk2
  have hH2 := lw_oq hG hH1 hI2 hP2 hD2 hS2 hz2 hk2
  have m12 : gI w2 1 2 = gI w1 1 2 := q2.g (by decide)
  have m612 : gI w2 61 2 = gI w1 61 2 := q2.g (by decide)
  have m383 : gI w2 38 3 = gI w1 38 3 := q2.g (by decide)
  have m493 : gI w2 49 3 = gI w1 49 3 := q2.g (by decide)
  have m780 : gI w2 78 0 = gI w1 78 0 := q2.g (by decide)
  have m781 : gI w2 78 1 = gI w1 78 1 := q2.g (by decide)
  have hE2 : lw_e w2 := by
    refine ⟨?_, ?_, ?_, fun n hn => ?_, fun k hk => ?_, fun k hk => ?_, ?_, ?_, ?_, ?_⟩
    · rw [m12, x12, m612, x612, hE.1]
    · rw [m383, x383, m780, x780, hE.2.1]
    · rw [m493, x493, m781, x781, hE.2.2.1]
    · rw [q2.gv (c := 2) (k := 940) (by decide) hn, q1.gv (c := 2) (k := 940) (by decide) hn, q2.gv (c := 62) (k := 940) (by decide) hn, q1.gv (c := 62) (k := 940) (by decide) hn]
      exact hE.2.2.2.1 n hn
    · rw [q2.gl (c := 3) (k := 29) (by decide) hk, q1.gl (c := 3) (k := 29) (by decide) hk]
      exact hE.2.2.2.2.1 k hk
    · rw [q2.gl (c := 67) (k := 29) (by decide) hk, q1.gl (c := 67) (k := 29) (by decide) hk]
      exact hE.2.2.2.2.2.1 k hk
    · exact hE.2.2.2.2.2.2.1.cp ((q1.CP (fa := 5) (na := 6) (by decide) (by decide)).tr (q2.CP (fa := 5) (na := 6) (by decide) (by decide))) ((q1.MP (sa := 63) (so := 0) (ma := 66) (mo := 0) (N := 115) (M := 27) (by decide) (by decide) (by decide) (by decide)).tr (q2.MP (sa := 63) (so := 0) (ma := 66) (mo := 0) (N := 115) (M := 27) (by decide) (by decide) (by decide) (by decide)))
    · exact hE.2.2.2.2.2.2.2.1.cp ((q1.CP (fa := 40) (na := 41) (by decide) (by decide)).tr (q2.CP (fa := 40) (na := 41) (by decide) (by decide))) ((q1.MP (sa := 76) (so := 0) (ma := 77) (mo := 0) (N := 822) (M := 54) (by decide) (by decide) (by decide) (by decide)).tr (q2.MP (sa := 76) (so := 0) (ma := 77) (mo := 0) (N := 822) (M := 54) (by decide) (by decide) (by decide) (by decide)))
    · exact hE.2.2.2.2.2.2.2.2.1.cp ((q1.CP (fa := 51) (na := 52) (by decide) (by decide)).tr (q2.CP (fa := 51) (na := 52) (by decide) (by decide))) ((q1.MP (sa := 76) (so := 411) (ma := 77) (mo := 27) (N := 822) (M := 54) (by decide) (by decide) (by decide) (by decide)).tr (q2.MP (sa := 76) (so := 411) (ma := 77) (mo := 27) (N := 822) (M := 54) (by decide) (by decide) (by decide) (by decide)))
    · unfold ft_e
      rw [q2.g (c := 1) (i := 10) (by decide), q1.g (c := 1) (i := 10) (by decide), q2.g (c := 61) (i := 15) (by decide), q1.g (c := 61) (i := 15) (by decide)]
      exact hE.2.2.2.2.2.2.2.2.2
  refine lv_pop hx hb (kd_at lt_27_d 25 rfl) rfl ?_
  refine lv_goto (tgt := 1505) hx hb (kd_at lt_27_d 26 rfl) rfl ?_
  exact W.widen (by omega) (by omega) (kend H2 locs2 w2 ls hH2 hE2 hl)
def lt_28 : List (Nat × Instr × Nat) := [(1131, .aload_n 1, 1), (1132, .invokevirtual 138, 3), (1135, .pop, 1), (1136, .aload_n 2, 1), (1137, .invokevirtual 141, 3), (1140, .pop, 1), (1141, .goto 364, 3)]
set_option maxRecDepth 100000 in
theorem lt_28_d : (lt_28.all fun q => decide (decode code q.1 = .ok (q.2.1, q.2.2))) = true := by decide +kernel
theorem ll_x28 : Cond.methodLink "ReadBoundLaw" 138 mn_138 ∈ lw_tbl := List.mem_of_getElem? (i := 944) (by decide +kernel)
theorem ll_m28 : Cond.methodLink "ReadBoundLaw" 141 mn_258 ∈ lw_tbl := List.mem_of_getElem? (i := 1744) (by decide +kernel)
set_option maxRecDepth 100000 in
theorem lc_case28 {p : Program} {l : Launch} {e : Env} {s : State} {m : MethodId} {below : List Frame} {meth : Method} {c : Code} {Q : State → Prop} {D : va_G} {cA : Nat → ClassId} {sa sv : Nat} {ad : Nat → Nat} {b N oq : Nat} {xs : Nat → Int32} {cu su : Nat} {H : Heap} {locs : List Loc} {ls : Array Slot} {w : pi_W} {i : Nat} (hG : lw_G p s m c meth D cA sa sv ad b N oq xs) (hH : lw_H s D cA ad oq w H locs) (hE : lw_e w) (hl : lv_has ls 7 (lw_L ad b oq i)) (hi : i + 6 ≤ N) (hcu : cu + 6 ≤ 601024) (hsu : su + 36 ≤ 7293034) (kend : ∀ (H1 : Heap) (locs1 : List Loc) (w1 : pi_W) (ls1 : Array Slot), lw_H s D cA ad oq w1 H1 locs1 → lw_e w1 → lv_has ls1 7 (lw_L ad b oq i) → W p l e room_1 s m #[Value.ref b] below meth c H1 locs1 (cu + 6) (su + 36) Q (F0 m 1505 ls1 [])) : W p l e room_1 s m #[Value.ref b] below meth c H locs cu su Q (F0 m 1131 ls []) := by
  obtain ⟨hI, hP, hD, hS, ho1, ho2, hof⟩ := id hH
  have C := hG.1
  have hsa := hG.2.1
  have hx := C.1
  have hb := C.2.1
  obtain ⟨e0, he0, fs0, rfl, -, -⟩ := hI.1.at (a := 0) (c := .inr (10, _)) rfl
  refine lv_aload_n hx hb (kd_at lt_28_d 0 rfl) rfl (lv_at hl 1 rfl) ?_
  refine lw_hq C hsa (z := 138) (na := 0) (cp := 138) (a := 0) (As := []) (d := 24) (restM := []) pz_138 lk_x28 ll_x28 rfl he0 (Nat.le_of_ble_eq_true rfl) (by decide) rfl (lx_28 hI) (fun r w' q => by rw [q.1.1.1.1, hI.1.1]) hP hD hS hl.1 (by decide) (by decide) (by show cu ≤ 601024; omega) (by show su ≤ 7293034; omega) (by decide) (kd_at lt_28_d 1 rfl) ?_
  rintro r1 w1 H1 locs1 ⟨⟨hI1, q1⟩, v1, rfl⟩ hP1 hD1 hS1 hz1 hk1
  have hH1 := lw_oq hG hH hI1 hP1 hD1 hS1 hz1 hk1
  have x12 : gI w1 1 2 = gI w 1 2 := q1.g (by decide)
  have x612 : gI w1 61 2 = gI w 61 2 := q1.g (by decide)
  have x383 : gI w1 38 3 = gI w 38 3 := q1.g (by decide)
  have x493 : gI w1 49 3 = gI w 49 3 := q1.g (by decide)
  have x780 : gI w1 78 0 = gI w 78 0 := q1.g (by decide)
  have x781 : gI w1 78 1 = gI w 78 1 := q1.g (by decide)
  obtain ⟨e1, he1, fs1, rfl, -, -⟩ := hI1.1.at (a := 61) (c := .inr (11, _)) rfl
  refine lv_pop hx hb (kd_at lt_28_d 2 rfl) rfl ?_
  refine lv_aload_n hx hb (kd_at lt_28_d 3 rfl) rfl (lv_at hl 2 rfl) ?_
  refine lw_hq C hsa (z := 258) (na := 0) (cp := 141) (a := 61) (As := []) (d := 24) (restM := []) pz_258 lk_m28 ll_m28 rfl he1 (Nat.le_of_ble_eq_true rfl) (by decide) rfl (lm_28 hI1) (fun r w' q => by rw [q.1.1.1.1, hI1.1.1]) hP1 hD1 hS1 hl.1 (by decide) (by decide) (by show cu ≤ 601024; omega) (by show su ≤ 7293034; omega) (by decide) (kd_at lt_28_d 4 rfl) ?_
  rintro r2 w2 H2 locs2 ⟨⟨hI2, q2⟩, v2, rfl⟩ hP2 hD2 hS2 hz2 hk2
  have hH2 := lw_oq hG hH1 hI2 hP2 hD2 hS2 hz2 hk2
  have m12 : gI w2 1 2 = gI w1 1 2 := q2.g (by decide)
  have m612 : gI w2 61 2 = gI w1 61 2 := q2.g (by decide)
  have m383 : gI w2 38 3 = gI w1 38 3 := q2.g (by decide)
  have m493 : gI w2 49 3 = gI w1 49 3 := q2.g (by decide)
  have m780 : gI w2 78 0 = gI w1 78 0 := q2.g (by decide)
  have m781 : gI w2 78 1 = gI w1 78 1 := q2.g (by decide)
  have hE2 : lw_e w2 := by
    refine ⟨?_, ?_, ?_, fun n hn => ?_, fun k hk => ?_, fun k hk => ?_, ?_, ?_, ?_, ?_⟩
    · rw [m12, x12, m612, x612, hE.1]
    · rw [m383, x383, m780, x780, hE.2.1]
    · rw [m493, x493, m781, x781, hE.2.2.1]
    · rw [q2.gv (c := 2) (k := 940) (by decide) hn, q1.gv (c := 2) (k := 940) (by decide) hn, q2.gv (c := 62) (k := 940) (by decide) hn, q1.gv (c := 62) (k := 940) (by decide) hn]
      exact hE.2.2.2.1 n hn
    · rw [q2.gl (c := 3) (k := 29) (by decide) hk, q1.gl (c := 3) (k := 29) (by decide) hk]
      exact hE.2.2.2.2.1 k hk
    · rw [q2.gl (c := 67) (k := 29) (by decide) hk, q1.gl (c := 67) (k := 29) (by decide) hk]
      exact hE.2.2.2.2.2.1 k hk
    · exact hE.2.2.2.2.2.2.1.cp ((q1.CP (fa := 5) (na := 6) (by decide) (by decide)).tr (q2.CP (fa := 5) (na := 6) (by decide) (by decide))) ((q1.MP (sa := 63) (so := 0) (ma := 66) (mo := 0) (N := 115) (M := 27) (by decide) (by decide) (by decide) (by decide)).tr (q2.MP (sa := 63) (so := 0) (ma := 66) (mo := 0) (N := 115) (M := 27) (by decide) (by decide) (by decide) (by decide)))
    · exact hE.2.2.2.2.2.2.2.1.cp ((q1.CP (fa := 40) (na := 41) (by decide) (by decide)).tr (q2.CP (fa := 40) (na := 41) (by decide) (by decide))) ((q1.MP (sa := 76) (so := 0) (ma := 77) (mo := 0) (N := 822) (M := 54) (by decide) (by decide) (by decide) (by decide)).tr (q2.MP (sa := 76) (so := 0) (ma := 77) (mo := 0) (N := 822) (M := 54) (by decide) (by decide) (by decide) (by decide)))
    · exact hE.2.2.2.2.2.2.2.2.1.cp ((q1.CP (fa := 51) (na := 52) (by decide) (by decide)).tr (q2.CP (fa := 51) (na := 52) (by decide) (by decide))) ((q1.MP (sa := 76) (so := 411) (ma := 77) (mo := 27) (N := 822) (M := 54) (by decide) (by decide) (by decide) (by decide)).tr (q2.MP (sa := 76) (so := 411) (ma := 77) (mo := 27) (N := 822) (M := 54) (by decide) (by decide) (by decide) (by decide)))
    · unfold ft_e
      rw [q2.g (c := 1) (i := 10) (by decide), q1.g (c := 1) (i := 10) (by decide), q2.g (c := 61) (i := 15) (by decide), q1.g (c := 61) (i := 15) (by decide)]
      exact hE.2.2.2.2.2.2.2.2.2
  refine lv_pop hx hb (kd_at lt_28_d 5 rfl) rfl ?_
  refine lv_goto (tgt := 1505) hx hb (kd_at lt_28_d 6 rfl) rfl ?_
  exact W.widen (by omega) (by omega) (kend H2 locs2 w2 ls hH2 hE2 hl)
def lt_29 : List (Nat × Instr × Nat) := [(1144, .aload_n 1, 1), (1145, .aload_n 0, 1), (1146, .iload 4, 2), (1148, .iconst 1, 1), (1149, .iadd, 1), (1150, .iaload, 1), (1151, .invokevirtual 142, 3), (1154, .pop, 1), (1155, .aload_n 2, 1), (1156, .aload_n 0, 1), (1157, .iload 4, 2), (1159, .iconst 1, 1), (1160, .iadd, 1), (1161, .iaload, 1), (1162, .invokevirtual 145, 3), (1165, .pop, 1), (1166, .goto 339, 3)]
set_option maxRecDepth 100000 in
theorem lt_29_d : (lt_29.all fun q => decide (decode code q.1 = .ok (q.2.1, q.2.2))) = true := by decide +kernel
theorem ll_x29 : Cond.methodLink "ReadBoundLaw" 142 mn_139 ∈ lw_tbl := List.mem_of_getElem? (i := 948) (by decide +kernel)
theorem ll_m29 : Cond.methodLink "ReadBoundLaw" 145 mn_259 ∈ lw_tbl := List.mem_of_getElem? (i := 1748) (by decide +kernel)
set_option maxRecDepth 100000 in
theorem lc_case29 {p : Program} {l : Launch} {e : Env} {s : State} {m : MethodId} {below : List Frame} {meth : Method} {c : Code} {Q : State → Prop} {D : va_G} {cA : Nat → ClassId} {sa sv : Nat} {ad : Nat → Nat} {b N oq : Nat} {xs : Nat → Int32} {cu su : Nat} {H : Heap} {locs : List Loc} {ls : Array Slot} {w : pi_W} {i : Nat} (hG : lw_G p s m c meth D cA sa sv ad b N oq xs) (hH : lw_H s D cA ad oq w H locs) (hE : lw_e w) (hl : lv_has ls 7 (lw_L ad b oq i)) (hi : i + 6 ≤ N) (hcu : cu + 6 ≤ 601024) (hsu : su + 36 ≤ 7293034) (kend : ∀ (H1 : Heap) (locs1 : List Loc) (w1 : pi_W) (ls1 : Array Slot), lw_H s D cA ad oq w1 H1 locs1 → lw_e w1 → lv_has ls1 7 (lw_L ad b oq i) → W p l e room_1 s m #[Value.ref b] below meth c H1 locs1 (cu + 6) (su + 36) Q (F0 m 1505 ls1 [])) : W p l e room_1 s m #[Value.ref b] below meth c H locs cu su Q (F0 m 1144 ls []) := by
  obtain ⟨hI, hP, hD, hS, ho1, ho2, hof⟩ := id hH
  have C := hG.1
  have hsa := hG.2.1
  have hx := C.1
  have hb := C.2.1
  obtain ⟨e0, he0, fs0, rfl, -, -⟩ := hI.1.at (a := 0) (c := .inr (10, _)) rfl
  refine lv_aload_n hx hb (kd_at lt_29_d 0 rfl) rfl (lv_at hl 1 rfl) ?_
  refine lw_push (j := 1) (jj := 1) hG hS hl (by omega) rfl (kd_at lt_29_d 1 rfl) (kd_at lt_29_d 2 rfl) (kd_at lt_29_d 3 rfl) (kd_at lt_29_d 4 rfl) (kd_at lt_29_d 5 rfl) ?_
  refine lw_hq C hsa (z := 139) (na := 1) (cp := 142) (a := 0) (As := [.int (xs (i + 1))]) (d := 24) (restM := []) pz_139 lk_x29 ll_x29 rfl he0 (Nat.le_of_ble_eq_true rfl) (by decide) rfl (lx_29 hI (xs (i + 1))) (fun r w' q => by rw [q.1.1.1.1, hI.1.1]) hP hD hS hl.1 (by decide) (by decide) (by show cu ≤ 601024; omega) (by show su ≤ 7293034; omega) (by decide) (kd_at lt_29_d 6 rfl) ?_
  rintro r1 w1 H1 locs1 ⟨⟨hI1, q1⟩, v1, rfl⟩ hP1 hD1 hS1 hz1 hk1
  have hH1 := lw_oq hG hH hI1 hP1 hD1 hS1 hz1 hk1
  have x12 : gI w1 1 2 = gI w 1 2 := q1.g (by decide)
  have x612 : gI w1 61 2 = gI w 61 2 := q1.g (by decide)
  have x383 : gI w1 38 3 = gI w 38 3 := q1.g (by decide)
  have x493 : gI w1 49 3 = gI w 49 3 := q1.g (by decide)
  have x780 : gI w1 78 0 = gI w 78 0 := q1.g (by decide)
  have x781 : gI w1 78 1 = gI w 78 1 := q1.g (by decide)
  obtain ⟨e1, he1, fs1, rfl, -, -⟩ := hI1.1.at (a := 61) (c := .inr (11, _)) rfl
  refine lv_pop hx hb (kd_at lt_29_d 7 rfl) rfl ?_
  refine lv_aload_n hx hb (kd_at lt_29_d 8 rfl) rfl (lv_at hl 2 rfl) ?_
  refine lw_push (j := 1) (jj := 1) hG hS1 hl (by omega) rfl (kd_at lt_29_d 9 rfl) (kd_at lt_29_d 10 rfl) (kd_at lt_29_d 11 rfl) (kd_at lt_29_d 12 rfl) (kd_at lt_29_d 13 rfl) ?_
  refine lw_hq C hsa (z := 259) (na := 1) (cp := 145) (a := 61) (As := [.int (xs (i + 1))]) (d := 24) (restM := []) pz_259 lk_m29 ll_m29 rfl he1 (Nat.le_of_ble_eq_true rfl) (by decide) rfl (lm_29 hI1 (xs (i + 1))) (fun r w' q => by rw [q.1.1.1.1, hI1.1.1]) hP1 hD1 hS1 hl.1 (by decide) (by decide) (by show cu ≤ 601024; omega) (by show su ≤ 7293034; omega) (by decide) (kd_at lt_29_d 14 rfl) ?_
  rintro r2 w2 H2 locs2 ⟨⟨hI2, q2⟩, v2, rfl⟩ hP2 hD2 hS2 hz2 hk2
  have hH2 := lw_oq hG hH1 hI2 hP2 hD2 hS2 hz2 hk2
  have m12 : gI w2 1 2 = gI w1 1 2 := q2.g (by decide)
  have m612 : gI w2 61 2 = gI w1 61 2 := q2.g (by decide)
  have m383 : gI w2 38 3 = gI w1 38 3 := q2.g (by decide)
  have m493 : gI w2 49 3 = gI w1 49 3 := q2.g (by decide)
  have m780 : gI w2 78 0 = gI w1 78 0 := q2.g (by decide)
  have m781 : gI w2 78 1 = gI w1 78 1 := q2.g (by decide)
  have hE2 : lw_e w2 := by
    refine ⟨?_, ?_, ?_, fun n hn => ?_, fun k hk => ?_, fun k hk => ?_, ?_, ?_, ?_, ?_⟩
    · rw [m12, x12, m612, x612, hE.1]
    · rw [m383, x383, m780, x780, hE.2.1]
    · rw [m493, x493, m781, x781, hE.2.2.1]
    · rw [q2.gv (c := 2) (k := 940) (by decide) hn, q1.gv (c := 2) (k := 940) (by decide) hn, q2.gv (c := 62) (k := 940) (by decide) hn, q1.gv (c := 62) (k := 940) (by decide) hn]
      exact hE.2.2.2.1 n hn
    · rw [q2.gl (c := 3) (k := 29) (by decide) hk, q1.gl (c := 3) (k := 29) (by decide) hk]
      exact hE.2.2.2.2.1 k hk
    · rw [q2.gl (c := 67) (k := 29) (by decide) hk, q1.gl (c := 67) (k := 29) (by decide) hk]
      exact hE.2.2.2.2.2.1 k hk
    · exact hE.2.2.2.2.2.2.1.cp ((q1.CP (fa := 5) (na := 6) (by decide) (by decide)).tr (q2.CP (fa := 5) (na := 6) (by decide) (by decide))) ((q1.MP (sa := 63) (so := 0) (ma := 66) (mo := 0) (N := 115) (M := 27) (by decide) (by decide) (by decide) (by decide)).tr (q2.MP (sa := 63) (so := 0) (ma := 66) (mo := 0) (N := 115) (M := 27) (by decide) (by decide) (by decide) (by decide)))
    · exact hE.2.2.2.2.2.2.2.1.cp ((q1.CP (fa := 40) (na := 41) (by decide) (by decide)).tr (q2.CP (fa := 40) (na := 41) (by decide) (by decide))) ((q1.MP (sa := 76) (so := 0) (ma := 77) (mo := 0) (N := 822) (M := 54) (by decide) (by decide) (by decide) (by decide)).tr (q2.MP (sa := 76) (so := 0) (ma := 77) (mo := 0) (N := 822) (M := 54) (by decide) (by decide) (by decide) (by decide)))
    · exact hE.2.2.2.2.2.2.2.2.1.cp ((q1.CP (fa := 51) (na := 52) (by decide) (by decide)).tr (q2.CP (fa := 51) (na := 52) (by decide) (by decide))) ((q1.MP (sa := 76) (so := 411) (ma := 77) (mo := 27) (N := 822) (M := 54) (by decide) (by decide) (by decide) (by decide)).tr (q2.MP (sa := 76) (so := 411) (ma := 77) (mo := 27) (N := 822) (M := 54) (by decide) (by decide) (by decide) (by decide)))
    · unfold ft_e
      rw [q2.g (c := 1) (i := 10) (by decide), q1.g (c := 1) (i := 10) (by decide), q2.g (c := 61) (i := 15) (by decide), q1.g (c := 61) (i := 15) (by decide)]
      exact hE.2.2.2.2.2.2.2.2.2
  refine lv_pop hx hb (kd_at lt_29_d 15 rfl) rfl ?_
  refine lv_goto (tgt := 1505) hx hb (kd_at lt_29_d 16 rfl) rfl ?_
  exact W.widen (by omega) (by omega) (kend H2 locs2 w2 ls hH2 hE2 hl)
def lt_30 : List (Nat × Instr × Nat) := [(1169, .aload_n 1, 1), (1170, .invokevirtual 146, 3), (1173, .pop, 1), (1174, .aload_n 2, 1), (1175, .invokevirtual 149, 3), (1178, .pop, 1), (1179, .goto 326, 3)]
set_option maxRecDepth 100000 in
theorem lt_30_d : (lt_30.all fun q => decide (decode code q.1 = .ok (q.2.1, q.2.2))) = true := by decide +kernel
theorem ll_x30 : Cond.methodLink "ReadBoundLaw" 146 mn_140 ∈ lw_tbl := List.mem_of_getElem? (i := 956) (by decide +kernel)
theorem ll_m30 : Cond.methodLink "ReadBoundLaw" 149 mn_260 ∈ lw_tbl := List.mem_of_getElem? (i := 1752) (by decide +kernel)
set_option maxRecDepth 100000 in
theorem lc_case30 {p : Program} {l : Launch} {e : Env} {s : State} {m : MethodId} {below : List Frame} {meth : Method} {c : Code} {Q : State → Prop} {D : va_G} {cA : Nat → ClassId} {sa sv : Nat} {ad : Nat → Nat} {b N oq : Nat} {xs : Nat → Int32} {cu su : Nat} {H : Heap} {locs : List Loc} {ls : Array Slot} {w : pi_W} {i : Nat} (hG : lw_G p s m c meth D cA sa sv ad b N oq xs) (hH : lw_H s D cA ad oq w H locs) (hE : lw_e w) (hl : lv_has ls 7 (lw_L ad b oq i)) (hi : i + 6 ≤ N) (hcu : cu + 6 ≤ 601024) (hsu : su + 36 ≤ 7293034) (kend : ∀ (H1 : Heap) (locs1 : List Loc) (w1 : pi_W) (ls1 : Array Slot), lw_H s D cA ad oq w1 H1 locs1 → lw_e w1 → lv_has ls1 7 (lw_L ad b oq i) → W p l e room_1 s m #[Value.ref b] below meth c H1 locs1 (cu + 6) (su + 36) Q (F0 m 1505 ls1 [])) : W p l e room_1 s m #[Value.ref b] below meth c H locs cu su Q (F0 m 1169 ls []) := by
  obtain ⟨hI, hP, hD, hS, ho1, ho2, hof⟩ := id hH
  have C := hG.1
  have hsa := hG.2.1
  have hx := C.1
  have hb := C.2.1
  obtain ⟨e0, he0, fs0, rfl, -, -⟩ := hI.1.at (a := 0) (c := .inr (10, _)) rfl
  refine lv_aload_n hx hb (kd_at lt_30_d 0 rfl) rfl (lv_at hl 1 rfl) ?_
  refine lw_hq C hsa (z := 140) (na := 0) (cp := 146) (a := 0) (As := []) (d := 24) (restM := []) pz_140 lk_x30 ll_x30 rfl he0 (Nat.le_of_ble_eq_true rfl) (by decide) rfl (lx_30 hI) (fun r w' q => by rw [q.1.1.1.1, hI.1.1]) hP hD hS hl.1 (by decide) (by decide) (by show cu ≤ 601024; omega) (by show su ≤ 7293034; omega) (by decide) (kd_at lt_30_d 1 rfl) ?_
  rintro r1 w1 H1 locs1 ⟨⟨hI1, q1⟩, v1, rfl⟩ hP1 hD1 hS1 hz1 hk1
  have hH1 := lw_oq hG hH hI1 hP1 hD1 hS1 hz1 hk1
  have x12 : gI w1 1 2 = gI w 1 2 := q1.g (by decide)
  have x612 : gI w1 61 2 = gI w 61 2 := q1.g (by decide)
  have x383 : gI w1 38 3 = gI w 38 3 := q1.g (by decide)
  have x493 : gI w1 49 3 = gI w 49 3 := q1.g (by decide)
  have x780 : gI w1 78 0 = gI w 78 0 := q1.g (by decide)
  have x781 : gI w1 78 1 = gI w 78 1 := q1.g (by decide)
  obtain ⟨e1, he1, fs1, rfl, -, -⟩ := hI1.1.at (a := 61) (c := .inr (11, _)) rfl
  refine lv_pop hx hb (kd_at lt_30_d 2 rfl) rfl ?_
  refine lv_aload_n hx hb (kd_at lt_30_d 3 rfl) rfl (lv_at hl 2 rfl) ?_
  refine lw_hq C hsa (z := 260) (na := 0) (cp := 149) (a := 61) (As := []) (d := 24) (restM := []) pz_260 lk_m30 ll_m30 rfl he1 (Nat.le_of_ble_eq_true rfl) (by decide) rfl (lm_30 hI1) (fun r w' q => by rw [q.1.1.1.1, hI1.1.1]) hP1 hD1 hS1 hl.1 (by decide) (by decide) (by show cu ≤ 601024; omega) (by show su ≤ 7293034; omega) (by decide) (kd_at lt_30_d 4 rfl) ?_
  rintro r2 w2 H2 locs2 ⟨⟨hI2, q2⟩, v2, rfl⟩ hP2 hD2 hS2 hz2 hk2
  have hH2 := lw_oq hG hH1 hI2 hP2 hD2 hS2 hz2 hk2
  have m12 : gI w2 1 2 = gI w1 1 2 := q2.g (by decide)
  have m612 : gI w2 61 2 = gI w1 61 2 := q2.g (by decide)
  have m383 : gI w2 38 3 = gI w1 38 3 := q2.g (by decide)
  have m493 : gI w2 49 3 = gI w1 49 3 := q2.g (by decide)
  have m780 : gI w2 78 0 = gI w1 78 0 := q2.g (by decide)
  have m781 : gI w2 78 1 = gI w1 78 1 := q2.g (by decide)
  have hE2 : lw_e w2 := by
    refine ⟨?_, ?_, ?_, fun n hn => ?_, fun k hk => ?_, fun k hk => ?_, ?_, ?_, ?_, ?_⟩
    · rw [m12, x12, m612, x612, hE.1]
    · rw [m383, x383, m780, x780, hE.2.1]
    · rw [m493, x493, m781, x781, hE.2.2.1]
    · rw [q2.gv (c := 2) (k := 940) (by decide) hn, q1.gv (c := 2) (k := 940) (by decide) hn, q2.gv (c := 62) (k := 940) (by decide) hn, q1.gv (c := 62) (k := 940) (by decide) hn]
      exact hE.2.2.2.1 n hn
    · rw [q2.gl (c := 3) (k := 29) (by decide) hk, q1.gl (c := 3) (k := 29) (by decide) hk]
      exact hE.2.2.2.2.1 k hk
    · rw [q2.gl (c := 67) (k := 29) (by decide) hk, q1.gl (c := 67) (k := 29) (by decide) hk]
      exact hE.2.2.2.2.2.1 k hk
    · exact hE.2.2.2.2.2.2.1.cp ((q1.CP (fa := 5) (na := 6) (by decide) (by decide)).tr (q2.CP (fa := 5) (na := 6) (by decide) (by decide))) ((q1.MP (sa := 63) (so := 0) (ma := 66) (mo := 0) (N := 115) (M := 27) (by decide) (by decide) (by decide) (by decide)).tr (q2.MP (sa := 63) (so := 0) (ma := 66) (mo := 0) (N := 115) (M := 27) (by decide) (by decide) (by decide) (by decide)))
    · exact hE.2.2.2.2.2.2.2.1.cp ((q1.CP (fa := 40) (na := 41) (by decide) (by decide)).tr (q2.CP (fa := 40) (na := 41) (by decide) (by decide))) ((q1.MP (sa := 76) (so := 0) (ma := 77) (mo := 0) (N := 822) (M := 54) (by decide) (by decide) (by decide) (by decide)).tr (q2.MP (sa := 76) (so := 0) (ma := 77) (mo := 0) (N := 822) (M := 54) (by decide) (by decide) (by decide) (by decide)))
    · exact hE.2.2.2.2.2.2.2.2.1.cp ((q1.CP (fa := 51) (na := 52) (by decide) (by decide)).tr (q2.CP (fa := 51) (na := 52) (by decide) (by decide))) ((q1.MP (sa := 76) (so := 411) (ma := 77) (mo := 27) (N := 822) (M := 54) (by decide) (by decide) (by decide) (by decide)).tr (q2.MP (sa := 76) (so := 411) (ma := 77) (mo := 27) (N := 822) (M := 54) (by decide) (by decide) (by decide) (by decide)))
    · unfold ft_e
      rw [q2.g (c := 1) (i := 10) (by decide), q1.g (c := 1) (i := 10) (by decide), q2.g (c := 61) (i := 15) (by decide), q1.g (c := 61) (i := 15) (by decide)]
      exact hE.2.2.2.2.2.2.2.2.2
  refine lv_pop hx hb (kd_at lt_30_d 5 rfl) rfl ?_
  refine lv_goto (tgt := 1505) hx hb (kd_at lt_30_d 6 rfl) rfl ?_
  exact W.widen (by omega) (by omega) (kend H2 locs2 w2 ls hH2 hE2 hl)
def lt_31 : List (Nat × Instr × Nat) := [(1182, .aload_n 1, 1), (1183, .aload_n 0, 1), (1184, .iload 4, 2), (1186, .iconst 1, 1), (1187, .iadd, 1), (1188, .iaload, 1), (1189, .aload_n 0, 1), (1190, .iload 4, 2), (1192, .iconst 2, 1), (1193, .iadd, 1), (1194, .iaload, 1), (1195, .aload_n 0, 1), (1196, .iload 4, 2), (1198, .iconst 3, 1), (1199, .iadd, 1), (1200, .iaload, 1), (1201, .invokevirtual 150, 3), (1204, .pop, 1), (1205, .aload_n 2, 1), (1206, .aload_n 0, 1), (1207, .iload 4, 2), (1209, .iconst 1, 1), (1210, .iadd, 1), (1211, .iaload, 1), (1212, .aload_n 0, 1), (1213, .iload 4, 2), (1215, .iconst 2, 1), (1216, .iadd, 1), (1217, .iaload, 1), (1218, .aload_n 0, 1), (1219, .iload 4, 2), (1221, .iconst 3, 1), (1222, .iadd, 1), (1223, .iaload, 1), (1224, .invokevirtual 153, 3), (1227, .pop, 1), (1228, .goto 277, 3)]
set_option maxRecDepth 100000 in
theorem lt_31_d : (lt_31.all fun q => decide (decode code q.1 = .ok (q.2.1, q.2.2))) = true := by decide +kernel
theorem ll_x31 : Cond.methodLink "ReadBoundLaw" 150 mn_141 ∈ lw_tbl := List.mem_of_getElem? (i := 960) (by decide +kernel)
theorem ll_m31 : Cond.methodLink "ReadBoundLaw" 153 mn_261 ∈ lw_tbl := List.mem_of_getElem? (i := 1756) (by decide +kernel)
set_option maxRecDepth 100000 in
theorem lc_case31 {p : Program} {l : Launch} {e : Env} {s : State} {m : MethodId} {below : List Frame} {meth : Method} {c : Code} {Q : State → Prop} {D : va_G} {cA : Nat → ClassId} {sa sv : Nat} {ad : Nat → Nat} {b N oq : Nat} {xs : Nat → Int32} {cu su : Nat} {H : Heap} {locs : List Loc} {ls : Array Slot} {w : pi_W} {i : Nat} (hG : lw_G p s m c meth D cA sa sv ad b N oq xs) (hH : lw_H s D cA ad oq w H locs) (hE : lw_e w) (hl : lv_has ls 7 (lw_L ad b oq i)) (hi : i + 6 ≤ N) (hcu : cu + 6 ≤ 601024) (hsu : su + 36 ≤ 7293034) (kend : ∀ (H1 : Heap) (locs1 : List Loc) (w1 : pi_W) (ls1 : Array Slot), lw_H s D cA ad oq w1 H1 locs1 → lw_e w1 → lv_has ls1 7 (lw_L ad b oq i) → W p l e room_1 s m #[Value.ref b] below meth c H1 locs1 (cu + 6) (su + 36) Q (F0 m 1505 ls1 [])) : W p l e room_1 s m #[Value.ref b] below meth c H locs cu su Q (F0 m 1182 ls []) := by
  obtain ⟨hI, hP, hD, hS, ho1, ho2, hof⟩ := id hH
  have C := hG.1
  have hsa := hG.2.1
  have hx := C.1
  have hb := C.2.1
  obtain ⟨e0, he0, fs0, rfl, -, -⟩ := hI.1.at (a := 0) (c := .inr (10, _)) rfl
  refine lv_aload_n hx hb (kd_at lt_31_d 0 rfl) rfl (lv_at hl 1 rfl) ?_
  refine lw_push (j := 1) (jj := 1) hG hS hl (by omega) rfl (kd_at lt_31_d 1 rfl) (kd_at lt_31_d 2 rfl) (kd_at lt_31_d 3 rfl) (kd_at lt_31_d 4 rfl) (kd_at lt_31_d 5 rfl) ?_
  refine lw_push (j := 2) (jj := 2) hG hS hl (by omega) rfl (kd_at lt_31_d 6 rfl) (kd_at lt_31_d 7 rfl) (kd_at lt_31_d 8 rfl) (kd_at lt_31_d 9 rfl) (kd_at lt_31_d 10 rfl) ?_
  refine lw_push (j := 3) (jj := 3) hG hS hl (by omega) rfl (kd_at lt_31_d 11 rfl) (kd_at lt_31_d 12 rfl) (kd_at lt_31_d 13 rfl) (kd_at lt_31_d 14 rfl) (kd_at lt_31_d 15 rfl) ?_
  refine lw_hq C hsa (z := 141) (na := 3) (cp := 150) (a := 0) (As := [.int (xs (i + 1)), .int (xs (i + 2)), .int (xs (i + 3))]) (d := 24) (restM := []) pz_141 lk_x31 ll_x31 rfl he0 (Nat.le_of_ble_eq_true rfl) (by decide) rfl (lx_31 hI (xs (i + 1)) (xs (i + 2)) (xs (i + 3))) (fun r w' q => by rw [q.1.1.1.1, hI.1.1]) hP hD hS hl.1 (by decide) (by decide) (by show cu ≤ 601024; omega) (by show su ≤ 7293034; omega) (by decide) (kd_at lt_31_d 16 rfl) ?_
  rintro r1 w1 H1 locs1 ⟨⟨hI1, q1⟩, v1, rfl⟩ hP1 hD1 hS1 hz1 hk1
  have hH1 := lw_oq hG hH hI1 hP1 hD1 hS1 hz1 hk1
  have x12 : gI w1 1 2 = gI w 1 2 := q1.g (by decide)
  have x612 : gI w1 61 2 = gI w 61 2 := q1.g (by decide)
  have x383 : gI w1 38 3 = gI w 38 3 := q1.g (by decide)
  have x493 : gI w1 49 3 = gI w 49 3 := q1.g (by decide)
  have x780 : gI w1 78 0 = gI w 78 0 := q1.g (by decide)
  have x781 : gI w1 78 1 = gI w 78 1 := q1.g (by decide)
  obtain ⟨e1, he1, fs1, rfl, -, -⟩ := hI1.1.at (a := 61) (c := .inr (11, _)) rfl
  refine lv_pop hx hb (kd_at lt_31_d 17 rfl) rfl ?_
  refine lv_aload_n hx hb (kd_at lt_31_d 18 rfl) rfl (lv_at hl 2 rfl) ?_
  refine lw_push (j := 1) (jj := 1) hG hS1 hl (by omega) rfl (kd_at lt_31_d 19 rfl) (kd_at lt_31_d 20 rfl) (kd_at lt_31_d 21 rfl) (kd_at lt_31_d 22 rfl) (kd_at lt_31_d 23 rfl) ?_
  refine lw_push (j := 2) (jj := 2) hG hS1 hl (by omega) rfl (kd_at lt_31_d 24 rfl) (kd_at lt_31_d 25 rfl) (kd_at lt_31_d 26 rfl) (kd_at lt_31_d 27 rfl) (kd_at lt_31_d 28 rfl) ?_
  refine lw_push (j := 3) (jj := 3) hG hS1 hl (by omega) rfl (kd_at lt_31_d 29 rfl) (kd_at lt_31_d 30 rfl) (kd_at lt_31_d 31 rfl) (kd_at lt_31_d 32 rfl) (kd_at lt_31_d 33 rfl) ?_
  refine lw_hq C hsa (z := 261) (na := 3) (cp := 153) (a := 61) (As := [.int (xs (i + 1)), .int (xs (i + 2)), .int (xs (i + 3))]) (d := 24) (restM := []) pz_261 lk_m31 ll_m31 rfl he1 (Nat.le_of_ble_eq_true rfl) (by decide) rfl (lm_31 hI1 (xs (i + 1)) (xs (i + 2)) (xs (i + 3))) (fun r w' q => by rw [q.1.1.1.1, hI1.1.1]) hP1 hD1 hS1 hl.1 (by decide) (by decide) (by show cu ≤ 601024; omega) (by show su ≤ 7293034; omega) (by decide) (kd_at lt_31_d 34 rfl) ?_
  rintro r2 w2 H2 locs2 ⟨⟨hI2, q2⟩, v2, rfl⟩ hP2 hD2 hS2 hz2 hk2
  have hH2 := lw_oq hG hH1 hI2 hP2 hD2 hS2 hz2 hk2
  have m12 : gI w2 1 2 = gI w1 1 2 := q2.g (by decide)
  have m612 : gI w2 61 2 = gI w1 61 2 := q2.g (by decide)
  have m383 : gI w2 38 3 = gI w1 38 3 := q2.g (by decide)
  have m493 : gI w2 49 3 = gI w1 49 3 := q2.g (by decide)
  have m780 : gI w2 78 0 = gI w1 78 0 := q2.g (by decide)
  have m781 : gI w2 78 1 = gI w1 78 1 := q2.g (by decide)
  have hE2 : lw_e w2 := by
    refine ⟨?_, ?_, ?_, fun n hn => ?_, fun k hk => ?_, fun k hk => ?_, ?_, ?_, ?_, ?_⟩
    · rw [m12, x12, m612, x612, hE.1]
    · rw [m383, x383, m780, x780, hE.2.1]
    · rw [m493, x493, m781, x781, hE.2.2.1]
    · rw [q2.gv (c := 2) (k := 940) (by decide) hn, q1.gv (c := 2) (k := 940) (by decide) hn, q2.gv (c := 62) (k := 940) (by decide) hn, q1.gv (c := 62) (k := 940) (by decide) hn]
      exact hE.2.2.2.1 n hn
    · rw [q2.gl (c := 3) (k := 29) (by decide) hk, q1.gl (c := 3) (k := 29) (by decide) hk]
      exact hE.2.2.2.2.1 k hk
    · rw [q2.gl (c := 67) (k := 29) (by decide) hk, q1.gl (c := 67) (k := 29) (by decide) hk]
      exact hE.2.2.2.2.2.1 k hk
    · exact hE.2.2.2.2.2.2.1.cp ((q1.CP (fa := 5) (na := 6) (by decide) (by decide)).tr (q2.CP (fa := 5) (na := 6) (by decide) (by decide))) ((q1.MP (sa := 63) (so := 0) (ma := 66) (mo := 0) (N := 115) (M := 27) (by decide) (by decide) (by decide) (by decide)).tr (q2.MP (sa := 63) (so := 0) (ma := 66) (mo := 0) (N := 115) (M := 27) (by decide) (by decide) (by decide) (by decide)))
    · exact hE.2.2.2.2.2.2.2.1.cp ((q1.CP (fa := 40) (na := 41) (by decide) (by decide)).tr (q2.CP (fa := 40) (na := 41) (by decide) (by decide))) ((q1.MP (sa := 76) (so := 0) (ma := 77) (mo := 0) (N := 822) (M := 54) (by decide) (by decide) (by decide) (by decide)).tr (q2.MP (sa := 76) (so := 0) (ma := 77) (mo := 0) (N := 822) (M := 54) (by decide) (by decide) (by decide) (by decide)))
    · exact hE.2.2.2.2.2.2.2.2.1.cp ((q1.CP (fa := 51) (na := 52) (by decide) (by decide)).tr (q2.CP (fa := 51) (na := 52) (by decide) (by decide))) ((q1.MP (sa := 76) (so := 411) (ma := 77) (mo := 27) (N := 822) (M := 54) (by decide) (by decide) (by decide) (by decide)).tr (q2.MP (sa := 76) (so := 411) (ma := 77) (mo := 27) (N := 822) (M := 54) (by decide) (by decide) (by decide) (by decide)))
    · unfold ft_e
      rw [q2.g (c := 1) (i := 10) (by decide), q1.g (c := 1) (i := 10) (by decide), q2.g (c := 61) (i := 15) (by decide), q1.g (c := 61) (i := 15) (by decide)]
      exact hE.2.2.2.2.2.2.2.2.2
  refine lv_pop hx hb (kd_at lt_31_d 35 rfl) rfl ?_
  refine lv_goto (tgt := 1505) hx hb (kd_at lt_31_d 36 rfl) rfl ?_
  exact W.widen (by omega) (by omega) (kend H2 locs2 w2 ls hH2 hE2 hl)
def lt_32 : List (Nat × Instr × Nat) := [(1231, .aload_n 1, 1), (1232, .aload_n 0, 1), (1233, .iload 4, 2), (1235, .iconst 1, 1), (1236, .iadd, 1), (1237, .iaload, 1), (1238, .invokevirtual 154, 3), (1241, .pop, 1), (1242, .aload_n 2, 1), (1243, .aload_n 0, 1), (1244, .iload 4, 2), (1246, .iconst 1, 1), (1247, .iadd, 1), (1248, .iaload, 1), (1249, .invokevirtual 157, 3), (1252, .pop, 1), (1253, .goto 252, 3)]
set_option maxRecDepth 100000 in
theorem lt_32_d : (lt_32.all fun q => decide (decode code q.1 = .ok (q.2.1, q.2.2))) = true := by decide +kernel
theorem ll_x32 : Cond.methodLink "ReadBoundLaw" 154 mn_142 ∈ lw_tbl := List.mem_of_getElem? (i := 964) (by decide +kernel)
theorem ll_m32 : Cond.methodLink "ReadBoundLaw" 157 mn_248 ∈ lw_tbl := List.mem_of_getElem? (i := 1696) (by decide +kernel)
set_option maxRecDepth 100000 in
theorem lc_case32 {p : Program} {l : Launch} {e : Env} {s : State} {m : MethodId} {below : List Frame} {meth : Method} {c : Code} {Q : State → Prop} {D : va_G} {cA : Nat → ClassId} {sa sv : Nat} {ad : Nat → Nat} {b N oq : Nat} {xs : Nat → Int32} {cu su : Nat} {H : Heap} {locs : List Loc} {ls : Array Slot} {w : pi_W} {i : Nat} (hG : lw_G p s m c meth D cA sa sv ad b N oq xs) (hH : lw_H s D cA ad oq w H locs) (hE : lw_e w) (hl : lv_has ls 7 (lw_L ad b oq i)) (hi : i + 6 ≤ N) (hcu : cu + 6 ≤ 601024) (hsu : su + 36 ≤ 7293034) (kend : ∀ (H1 : Heap) (locs1 : List Loc) (w1 : pi_W) (ls1 : Array Slot), lw_H s D cA ad oq w1 H1 locs1 → lw_e w1 → lv_has ls1 7 (lw_L ad b oq i) → W p l e room_1 s m #[Value.ref b] below meth c H1 locs1 (cu + 6) (su + 36) Q (F0 m 1505 ls1 [])) : W p l e room_1 s m #[Value.ref b] below meth c H locs cu su Q (F0 m 1231 ls []) := by
  obtain ⟨hI, hP, hD, hS, ho1, ho2, hof⟩ := id hH
  have C := hG.1
  have hsa := hG.2.1
  have hx := C.1
  have hb := C.2.1
  obtain ⟨e0, he0, fs0, rfl, -, -⟩ := hI.1.at (a := 0) (c := .inr (10, _)) rfl
  refine lv_aload_n hx hb (kd_at lt_32_d 0 rfl) rfl (lv_at hl 1 rfl) ?_
  refine lw_push (j := 1) (jj := 1) hG hS hl (by omega) rfl (kd_at lt_32_d 1 rfl) (kd_at lt_32_d 2 rfl) (kd_at lt_32_d 3 rfl) (kd_at lt_32_d 4 rfl) (kd_at lt_32_d 5 rfl) ?_
  refine lw_hq C hsa (z := 142) (na := 1) (cp := 154) (a := 0) (As := [.int (xs (i + 1))]) (d := 24) (restM := []) pz_142 lk_x32 ll_x32 rfl he0 (Nat.le_of_ble_eq_true rfl) (by decide) rfl (lx_32 hI (xs (i + 1))) (fun r w' q => by rw [q.1.1.1.1, hI.1.1]) hP hD hS hl.1 (by decide) (by decide) (by show cu ≤ 601024; omega) (by show su ≤ 7293034; omega) (by decide) (kd_at lt_32_d 6 rfl) ?_
  rintro r1 w1 H1 locs1 ⟨⟨hI1, q1⟩, v1, rfl⟩ hP1 hD1 hS1 hz1 hk1
  have hH1 := lw_oq hG hH hI1 hP1 hD1 hS1 hz1 hk1
  have x12 : gI w1 1 2 = gI w 1 2 := q1.g (by decide)
  have x612 : gI w1 61 2 = gI w 61 2 := q1.g (by decide)
  have x383 : gI w1 38 3 = gI w 38 3 := q1.g (by decide)
  have x493 : gI w1 49 3 = gI w 49 3 := q1.g (by decide)
  have x780 : gI w1 78 0 = gI w 78 0 := q1.g (by decide)
  have x781 : gI w1 78 1 = gI w 78 1 := q1.g (by decide)
  obtain ⟨e1, he1, fs1, rfl, -, -⟩ := hI1.1.at (a := 61) (c := .inr (11, _)) rfl
  refine lv_pop hx hb (kd_at lt_32_d 7 rfl) rfl ?_
  refine lv_aload_n hx hb (kd_at lt_32_d 8 rfl) rfl (lv_at hl 2 rfl) ?_
  refine lw_push (j := 1) (jj := 1) hG hS1 hl (by omega) rfl (kd_at lt_32_d 9 rfl) (kd_at lt_32_d 10 rfl) (kd_at lt_32_d 11 rfl) (kd_at lt_32_d 12 rfl) (kd_at lt_32_d 13 rfl) ?_
  refine lw_hq C hsa (z := 248) (na := 1) (cp := 157) (a := 61) (As := [.int (xs (i + 1))]) (d := 24) (restM := []) pz_248 lk_m32 ll_m32 rfl he1 (Nat.le_of_ble_eq_true rfl) (by decide) rfl (lm_32 hI1 (xs (i + 1))) (fun r w' q => by rw [q.1.1.1.1, hI1.1.1]) hP1 hD1 hS1 hl.1 (by decide) (by decide) (by show cu ≤ 601024; omega) (by show su ≤ 7293034; omega) (by decide) (kd_at lt_32_d 14 rfl) ?_
  rintro r2 w2 H2 locs2 ⟨⟨hI2, q2⟩, v2, rfl⟩ hP2 hD2 hS2 hz2 hk2
  have hH2 := lw_oq hG hH1 hI2 hP2 hD2 hS2 hz2 hk2
  have m12 : gI w2 1 2 = gI w1 1 2 := q2.g (by decide)
  have m612 : gI w2 61 2 = gI w1 61 2 := q2.g (by decide)
  have m383 : gI w2 38 3 = gI w1 38 3 := q2.g (by decide)
  have m493 : gI w2 49 3 = gI w1 49 3 := q2.g (by decide)
  have m780 : gI w2 78 0 = gI w1 78 0 := q2.g (by decide)
  have m781 : gI w2 78 1 = gI w1 78 1 := q2.g (by decide)
  have hE2 : lw_e w2 := by
    refine ⟨?_, ?_, ?_, fun n hn => ?_, fun k hk => ?_, fun k hk => ?_, ?_, ?_, ?_, ?_⟩
    · rw [m12, x12, m612, x612, hE.1]
    · rw [m383, x383, m780, x780, hE.2.1]
    · rw [m493, x493, m781, x781, hE.2.2.1]
    · rw [q2.gv (c := 2) (k := 940) (by decide) hn, q1.gv (c := 2) (k := 940) (by decide) hn, q2.gv (c := 62) (k := 940) (by decide) hn, q1.gv (c := 62) (k := 940) (by decide) hn]
      exact hE.2.2.2.1 n hn
    · rw [q2.gl (c := 3) (k := 29) (by decide) hk, q1.gl (c := 3) (k := 29) (by decide) hk]
      exact hE.2.2.2.2.1 k hk
    · rw [q2.gl (c := 67) (k := 29) (by decide) hk, q1.gl (c := 67) (k := 29) (by decide) hk]
      exact hE.2.2.2.2.2.1 k hk
    · exact hE.2.2.2.2.2.2.1.cp ((q1.CP (fa := 5) (na := 6) (by decide) (by decide)).tr (q2.CP (fa := 5) (na := 6) (by decide) (by decide))) ((q1.MP (sa := 63) (so := 0) (ma := 66) (mo := 0) (N := 115) (M := 27) (by decide) (by decide) (by decide) (by decide)).tr (q2.MP (sa := 63) (so := 0) (ma := 66) (mo := 0) (N := 115) (M := 27) (by decide) (by decide) (by decide) (by decide)))
    · exact hE.2.2.2.2.2.2.2.1.cp ((q1.CP (fa := 40) (na := 41) (by decide) (by decide)).tr (q2.CP (fa := 40) (na := 41) (by decide) (by decide))) ((q1.MP (sa := 76) (so := 0) (ma := 77) (mo := 0) (N := 822) (M := 54) (by decide) (by decide) (by decide) (by decide)).tr (q2.MP (sa := 76) (so := 0) (ma := 77) (mo := 0) (N := 822) (M := 54) (by decide) (by decide) (by decide) (by decide)))
    · exact hE.2.2.2.2.2.2.2.2.1.cp ((q1.CP (fa := 51) (na := 52) (by decide) (by decide)).tr (q2.CP (fa := 51) (na := 52) (by decide) (by decide))) ((q1.MP (sa := 76) (so := 411) (ma := 77) (mo := 27) (N := 822) (M := 54) (by decide) (by decide) (by decide) (by decide)).tr (q2.MP (sa := 76) (so := 411) (ma := 77) (mo := 27) (N := 822) (M := 54) (by decide) (by decide) (by decide) (by decide)))
    · unfold ft_e
      rw [q2.g (c := 1) (i := 10) (by decide), q1.g (c := 1) (i := 10) (by decide), q2.g (c := 61) (i := 15) (by decide), q1.g (c := 61) (i := 15) (by decide)]
      exact hE.2.2.2.2.2.2.2.2.2
  refine lv_pop hx hb (kd_at lt_32_d 15 rfl) rfl ?_
  refine lv_goto (tgt := 1505) hx hb (kd_at lt_32_d 16 rfl) rfl ?_
  exact W.widen (by omega) (by omega) (kend H2 locs2 w2 ls hH2 hE2 hl)
