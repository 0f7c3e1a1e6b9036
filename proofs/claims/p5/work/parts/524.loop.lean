def lt_33 : List (Nat × Instr × Nat) := [(1256, .aload_n 1, 1), (1257, .aload_n 0, 1), (1258, .iload 4, 2), (1260, .iconst 1, 1), (1261, .iadd, 1), (1262, .iaload, 1), (1263, .aload_n 0, 1), (1264, .iload 4, 2), (1266, .iconst 2, 1), (1267, .iadd, 1), (1268, .iaload, 1), (1269, .invokevirtual 158, 3), (1272, .pop, 1), (1273, .aload_n 2, 1), (1274, .aload_n 0, 1), (1275, .iload 4, 2), (1277, .iconst 1, 1), (1278, .iadd, 1), (1279, .iaload, 1), (1280, .aload_n 0, 1), (1281, .iload 4, 2), (1283, .iconst 2, 1), (1284, .iadd, 1), (1285, .iaload, 1), (1286, .invokevirtual 161, 3), (1289, .pop, 1), (1290, .goto 215, 3)]
set_option maxRecDepth 100000 in
theorem lt_33_d : (lt_33.all fun q => decide (decode code q.1 = .ok (q.2.1, q.2.2))) = true := by decide +kernel
theorem ll_x33 : Cond.methodLink "ReadBoundLaw" 158 mn_143 ∈ lw_tbl := List.mem_of_getElem? (i := 972) (by decide +kernel)
theorem ll_m33 : Cond.methodLink "ReadBoundLaw" 161 mn_264 ∈ lw_tbl := List.mem_of_getElem? (i := 1760) (by decide +kernel)
set_option maxRecDepth 100000 in
theorem lc_case33 {p : Program} {l : Launch} {e : Env} {s : State} {m : MethodId} {below : List Frame} {meth : Method} {c : Code} {Q : State → Prop} {D : va_G} {cA : Nat → ClassId} {sa sv : Nat} {ad : Nat → Nat} {b N oq : Nat} {xs : Nat → Int32} {cu su : Nat} {H : Heap} {locs : List Loc} {ls : Array Slot} {w : pi_W} {i : Nat} (hG : lw_G p s m c meth D cA sa sv ad b N oq xs) (hH : lw_H s D cA ad oq w H locs) (hE : lw_e w) (hl : lv_has ls 7 (lw_L ad b oq i)) (hi : i + 6 ≤ N) (hcu : cu + 6 ≤ 601024) (hsu : su + 36 ≤ 7293034) (kend : ∀ (H1 : Heap) (locs1 : List Loc) (w1 : pi_W) (ls1 : Array Slot), lw_H s D cA ad oq w1 H1 locs1 → lw_e w1 → lv_has ls1 7 (lw_L ad b oq i) → W p l e room_1 s m #[Value.ref b] below meth c H1 locs1 (cu + 6) (su + 36) Q (F0 m 1505 ls1 [])) : W p l e room_1 s m #[Value.ref b] below meth c H locs cu su Q (F0 m 1256 ls []) := by
  obtain ⟨hI, hP, hD, hS, ho1, ho2, hof⟩ := id hH
  have C := hG.1
  have hsa := hG.2.1
  have hx := C.1
  have hb := C.2.1
  obtain ⟨e0, he0, fs0, rfl, -, -⟩ := hI.1.at (a := 0) (c := .inr (10, _)) rfl
  refine lv_aload_n hx hb (kd_at lt_33_d 0 rfl) rfl (lv_at hl 1 rfl) ?_
  refine lw_push (j := 1) (jj := 1) hG hS hl (by omega) rfl (kd_at lt_33_d 1 rfl) (kd_at lt_33_d 2 rfl) (kd_at lt_33_d 3 rfl) (kd_at lt_33_d 4 rfl) (kd_at lt_33_d 5 rfl) ?_
  refine lw_push (j := 2) (jj := 2) hG hS hl (by omega) rfl (kd_at lt_33_d 6 rfl) (kd_at lt_33_d 7 rfl) (kd_at lt_33_d 8 rfl) (kd_at lt_33_d 9 rfl) (kd_at lt_33_d 10 rfl) ?_
  refine lw_hq C hsa (z := 143) (na := 2) (cp := 158) (a := 0) (As := [.int (xs (i + 1)), .int (xs (i + 2))]) (d := 24) (restM := []) pz_143 lk_x33 ll_x33 rfl he0 (Nat.le_of_ble_eq_true rfl) (by decide) rfl (lx_33 hI (xs (i + 1)) (xs (i + 2))) (fun r w' q => by rw [q.1.1.1.1, hI.1.1]) hP hD hS hl.1 (by decide) (by decide) (by show cu ≤ 601024; omega) (by show su ≤ 7293034; omega) (by decide) (kd_at lt_33_d 11 rfl) ?_
  rintro r1 w1 H1 locs1 ⟨⟨hI1, q1⟩, v1, rfl⟩ hP1 hD1 hS1 hz1 hk1
  have hH1 := lw_oq hG hH hI1 hP1 hD1 hS1 hz1 hk1
  have x12 : gI w1 1 2 = gI w 1 2 := q1.g (by decide)
  have x612 : gI w1 61 2 = gI w 61 2 := q1.g (by decide)
  have x383 : gI w1 38 3 = gI w 38 3 := q1.g (by decide)
  have x493 : gI w1 49 3 = gI w 49 3 := q1.g (by decide)
  have x780 : gI w1 78 0 = gI w 78 0 := q1.g (by decide)
  have x781 : gI w1 78 1 = gI w 78 1 := q1.g (by decide)
  obtain ⟨e1, he1, fs1, rfl, -, -⟩ := hI1.1.at (a := 61) (c := .inr (11, _)) rfl
  refine lv_pop hx hb (kd_at lt_33_d 12 rfl) rfl ?_
  refine lv_aload_n hx hb (kd_at lt_33_d 13 rfl) rfl (lv_at hl 2 rfl) ?_
  refine lw_push (j := 1) (jj := 1) hG hS1 hl (by omega) rfl (kd_at lt_33_d 14 rfl) (kd_at lt_33_d 15 rfl) (kd_at lt_33_d 16 rfl) (kd_at lt_33_d 17 rfl) (kd_at lt_33_d 18 rfl) ?_
  refine lw_push (j := 2) (jj := 2) hG hS1 hl (by omega) rfl (kd_at lt_33_d 19 rfl) (kd_at lt_33_d 20 rfl) (kd_at lt_33_d 21 rfl) (kd_at lt_33_d 22 rfl) (kd_at lt_33_d 23 rfl) ?_
  refine lw_hq C hsa (z := 264) (na := 2) (cp := 161) (a := 61) (As := [.int (xs (i + 1)), .int (xs (i + 2))]) (d := 24) (restM := []) pz_264 lk_m33 ll_m33 rfl he1 (Nat.le_of_ble_eq_true rfl) (by decide) rfl (lm_33 hI1 (xs (i + 1)) (xs (i + 2))) (fun r w' q => by rw [q.1.1.1.1, hI1.1.1]) hP1 hD1 hS1 hl.1 (by decide) (by decide) (by show cu ≤ 601024; omega) (by show su ≤ 7293034; omega) (by decide) (kd_at lt_33_d 24 rfl) ?_
  rintro r2 w2 H2 locs2 ⟨⟨hI2, q2⟩, v2, rfl⟩ hP2 hD2 hS2 hz2 hk2
  have hH2 := lw_oq hG hH1 hI2 hP2 hD2 hS2 hz2 hk2
  have m12 : gI w2 1 2 = gI w1 1 2 := q2.g (by decide)
  have m612 : gI w2 61 2 = gI w1 61 2 := q2.g (by decide)
  have m383 : gI w2 38 3 = gI w1 38 3 := q2.g (by decide)
  have m493 : gI w2 49 3 = gI w1 49 3 := q2.g (by decide)
  have m780 : gI w2 78 0 = gI w1 78 0 := q2.g (by decide)
  have m781 : gI w2 78 1 = gI w1 78 1 := q2.g (by decide)
  have hE2 : lw_e w2 := by
    refine ⟨?_, ?_, ?_, fun n hn => ?_, fun k hk => ?_, fun k hk => ?_, ?_, ?_, ?_, ?_⟩
    · rw [m12, x12, m612, x612, hE.1]
    · rw [m383, x383, m780, x780, hE.2.1]
    · rw [m493, x493, m781, x781, hE.2.2.1]
    · rw [q2.gv (c := 2) (k := 940) (by decide) hn, q1.gv (c := 2) (k := 940) (by decide) hn, q2.gv (c := 62) (k := 940) (by decide) hn, q1.gv (c := 62) (k := 940) (by decide) hn]
      exact hE.2.2.2.1 n hn
    · rw [q2.gl (c := 3) (k := 29) (by decide) hk, q1.gl (c := 3) (k := 29) (by decide) hk]
      exact hE.2.2.2.2.1 k hk
    · rw [q2.gl (c := 67) (k := 29) (by decide) hk, q1.gl (c := 67) (k := 29) (by decide) hk]
      exact hE.2.2.2.2.2.1 k hk
    · exact hE.2.2.2.2.2.2.1.cp ((q1.CP (fa := 5) (na := 6) (by decide) (by decide)).tr (q2.CP (fa := 5) (na := 6) (by decide) (by decide))) ((q1.MP (sa := 63) (so := 0) (ma := 66) (mo := 0) (N := 115) (M := 27) (by decide) (by decide) (by decide) (by decide)).tr (q2.MP (sa := 63) (so := 0) (ma := 66) (mo := 0) (N := 115) (M := 27) (by decide) (by decide) (by decide) (by decide)))
    · exact hE.2.2.2.2.2.2.2.1.cp ((q1.CP (fa := 40) (na := 41) (by decide) (by decide)).tr (q2.CP (fa := 40) (na := 41) (by decide) (by decide))) ((q1.MP (sa := 76) (so := 0) (ma := 77) (mo := 0) (N := 822) (M := 54) (by decide) (by decide) (by decide) (by decide)).tr (q2.MP (sa := 76) (so := 0) (ma := 77) (mo := 0) (N := 822) (M := 54) (by decide) (by decide) (by decide) (by decide)))
    · exact hE.2.2.2.2.2.2.2.2.1.cp ((q1.CP (fa := 51) (na := 52) (by decide) (by decide)).tr (q2.CP (fa := 51) (na := 52) (by decide) (by decide))) ((q1.MP (sa := 76) (so := 411) (ma := 77) (mo := 27) (N := 822) (M := 54) (by decide) (by decide) (by decide) (by decide)).tr (q2.MP (sa := 76) (so := 411) (ma := 77) (mo := 27) (N := 822) (M := 54) (by decide) (by decide) (by decide) (by decide)))
    · unfold ft_e
      rw [q2.g (c := 1) (i := 10) (by decide), q1.g (c := 1) (i := 10) (by decide), q2.g (c := 61) (i := 15) (by decide), q1.g (c := 61) (i := 15) (by decide)]
      exact hE.2.2.2.2.2.2.2.2.2
  refine lv_pop hx hb (kd_at lt_33_d 25 rfl) rfl ?_
  refine lv_goto (tgt := 1505) hx hb (kd_at lt_33_d 26 rfl) rfl ?_
  exact W.widen (by omega) (by omega) (kend H2 locs2 w2 ls hH2 hE2 hl)
def lt_34 : List (Nat × Instr × Nat) := [(1293, .aload_n 1, 1), (1294, .aload_n 0, 1), (1295, .iload 4, 2), (1297, .iconst 1, 1), (1298, .iadd, 1), (1299, .iaload, 1), (1300, .aload_n 0, 1), (1301, .iload 4, 2), (1303, .iconst 2, 1), (1304, .iadd, 1), (1305, .iaload, 1), (1306, .aload_n 0, 1), (1307, .iload 4, 2), (1309, .iconst 3, 1), (1310, .iadd, 1), (1311, .iaload, 1), (1312, .invokevirtual 162, 3), (1315, .pop, 1), (1316, .aload_n 2, 1), (1317, .aload_n 0, 1), (1318, .iload 4, 2), (1320, .iconst 1, 1), (1321, .iadd, 1), (1322, .iaload, 1), (1323, .aload_n 0, 1), (1324, .iload 4, 2), (1326, .iconst 2, 1), (1327, .iadd, 1), (1328, .iaload, 1), (1329, .aload_n 0, 1), (1330, .iload 4, 2), (1332, .iconst 3, 1), (1333, .iadd, 1), (1334, .iaload, 1), (1335, .invokevirtual 165, 3), (1338, .pop, 1), (1339, .goto 166, 3)]
set_option maxRecDepth 100000 in
theorem lt_34_d : (lt_34.all fun q => decide (decode code q.1 = .ok (q.2.1, q.2.2))) = true := by decide +kernel
theorem ll_x34 : Cond.methodLink "ReadBoundLaw" 162 mn_144 ∈ lw_tbl := List.mem_of_getElem? (i := 992) (by decide +kernel)
theorem ll_m34 : Cond.methodLink "ReadBoundLaw" 165 mn_265 ∈ lw_tbl := List.mem_of_getElem? (i := 1773) (by decide +kernel)
set_option maxRecDepth 100000 in
theorem lc_case34 {p : Program} {l : Launch} {e : Env} {s : State} {m : MethodId} {below : List Frame} {meth : Method} {c : Code} {Q : State → Prop} {D : va_G} {cA : Nat → ClassId} {sa sv : Nat} {ad : Nat → Nat} {b N oq : Nat} {xs : Nat → Int32} {cu su : Nat} {H : Heap} {locs : List Loc} {ls : Array Slot} {w : pi_W} {i : Nat} (hG : lw_G p s m c meth D cA sa sv ad b N oq xs) (hH : lw_H s D cA ad oq w H locs) (hE : lw_e w) (hl : lv_has ls 7 (lw_L ad b oq i)) (hi : i + 6 ≤ N) (hcu : cu + 6 ≤ 601024) (hsu : su + 36 ≤ 7293034) (kend : ∀ (H1 : Heap) (locs1 : List Loc) (w1 : pi_W) (ls1 : Array Slot), lw_H s D cA ad oq w1 H1 locs1 → lw_e w1 → lv_has ls1 7 (lw_L ad b oq i) → W p l e room_1 s m #[Value.ref b] below meth c H1 locs1 (cu + 6) (su + 36) Q (F0 m 1505 ls1 [])) : W p l e room_1 s m #[Value.ref b] below meth c H locs cu su Q (F0 m 1293 ls []) := by
  obtain ⟨hI, hP, hD, hS, ho1, ho2, hof⟩ := id hH
  have C := hG.1
  have hsa := hG.2.1
  have hx := C.1
  have hb := C.2.1
  obtain ⟨e0, he0, fs0, rfl, -, -⟩ := hI.1.at (a := 0) (c := .inr (10, _)) rfl
  refine lv_aload_n hx hb (kd_at lt_34_d 0 rfl) rfl (lv_at hl 1 rfl) ?_
  refine lw_push (j := 1) (jj := 1) hG hS hl (by omega) rfl (kd_at lt_34_d 1 rfl) (kd_at lt_34_d 2 rfl) (kd_at lt_34_d 3 rfl) (kd_at lt_34_d 4 rfl) (kd_at lt_34_d 5 rfl) ?_
  refine lw_push (j := 2) (jj := 2) hG hS hl (by omega) rfl (kd_at lt_34_d 6 rfl) (kd_at lt_34_d 7 rfl) (kd_at lt_34_d 8 rfl) (kd_at lt_34_d 9 rfl) (kd_at lt_34_d 10 rfl) ?_
  refine lw_push (j := 3) (jj := 3) hG hS hl (by omega) rfl (kd_at lt_34_d 11 rfl) (kd_at lt_34_d 12 rfl) (kd_at lt_34_d 13 rfl) (kd_at lt_34_d 14 rfl) (kd_at lt_34_d 15 rfl) ?_
  refine lw_hq C hsa (z := 144) (na := 3) (cp := 162) (a := 0) (As := [.int (xs (i + 1)), .int (xs (i + 2)), .int (xs (i + 3))]) (d := 24) (restM := []) pz_144 lk_x34 ll_x34 rfl he0 (Nat.le_of_ble_eq_true rfl) (by decide) rfl (lx_34 hI (xs (i + 1)) (xs (i + 2)) (xs (i + 3))) (fun r w' q => by rw [q.1.1.1.1, hI.1.1]) hP hD hS hl.1 (by decide) (by decide) (by show cu ≤ 601024; omega) (by show su ≤ 7293034; omega) (by decide) (kd_at lt_34_d 16 rfl) ?_
  rintro r1 w1 H1 locs1 ⟨⟨hI1, q1⟩, v1, rfl⟩ hP1 hD1 hS1 hz1 hk1
  have hH1 := lw_oq hG hH hI1 hP1 hD1 hS1 hz1 hk1
  have x12 : gI w1 1 2 = gI w 1 2 := q1.g (by decide)
  have x612 : gI w1 61 2 = gI w 61 2 := q1.g (by decide)
  have x383 : gI w1 38 3 = gI w 38 3 := q1.g (by decide)
  have x493 : gI w1 49 3 = gI w 49 3 := q1.g (by decide)
  have x780 : gI w1 78 0 = gI w 78 0 := q1.g (by decide)
  have x781 : gI w1 78 1 = gI w 78 1 := q1.g (by decide)
  obtain ⟨e1, he1, fs1, rfl, -, -⟩ := hI1.1.at (a := 61) (c := .inr (11, _)) rfl
  refine lv_pop hx hb (kd_at lt_34_d 17 rfl) rfl ?_
  refine lv_aload_n hx hb (kd_at lt_34_d 18 rfl) rfl (lv_at hl 2 rfl) ?_
  refine lw_push (j := 1) (jj := 1) hG hS1 hl (by omega) rfl (kd_at lt_34_d 19 rfl) (kd_at lt_34_d 20 rfl) (kd_at lt_34_d 21 rfl) (kd_at lt_34_d 22 rfl) (kd_at lt_34_d 23 rfl) ?_
  refine lw_push (j := 2) (jj := 2) hG hS1 hl (by omega) rfl (kd_at lt_34_d 24 rfl) (kd_at lt_34_d 25 rfl) (kd_at lt_34_d 26 rfl) (kd_at lt_34_d 27 rfl) (kd_at lt_34_d 28 rfl) ?_
  refine lw_push (j := 3) (jj := 3) hG hS1 hl (by omega) rfl (kd_at lt_34_d 29 rfl) (kd_at lt_34_d 30 rfl) (kd_at lt_34_d 31 rfl) (kd_at lt_34_d 32 rfl) (kd_at lt_34_d 33 rfl) ?_
  refine lw_hq C hsa (z := 265) (na := 3) (cp := 165) (a := 61) (As := [.int (xs (i + 1)), .int (xs (i + 2)), .int (xs (i + 3))]) (d := 24) (restM := []) pz_265 lk_m34 ll_m34 rfl he1 (Nat.le_of_ble_eq_true rfl) (by decide) rfl (lm_34 hI1 (xs (i + 1)) (xs (i + 2)) (xs (i + 3))) (fun r w' q => by rw [q.1.1.1.1, hI1.1.1]) hP1 hD1 hS1 hl.1 (by decide) (by decide) (by show cu ≤ 601024; omega) (by show su ≤ 7293034; omega) (by decide) (kd_at lt_34_d 34 rfl) ?_
  rintro r2 w2 H2 locs2 ⟨⟨hI2, q2⟩, v2, rfl⟩ hP2 hD2 hS2 hz2 hk2
  have hH2 := lw_oq hG hH1 hI2 hP2 hD2 hS2 hz2 hk2
  have m12 : gI w2 1 2 = gI w1 1 2 := q2.g (by decide)
  have m612 : gI w2 61 2 = gI w1 61 2 := q2.g (by decide)
  have m383 : gI w2 38 3 = gI w1 38 3 := q2.g (by decide)
  have m493 : gI w2 49 3 = gI w1 49 3 := q2.g (by decide)
  have m780 : gI w2 78 0 = gI w1 78 0 := q2.g (by decide)
  have m781 : gI w2 78 1 = gI w1 78 1 := q2.g (by decide)
  have hE2 : lw_e w2 := by
    refine ⟨?_, ?_, ?_, fun n hn => ?_, fun k hk => ?_, fun k hk => ?_, ?_, ?_, ?_, ?_⟩
    · rw [m12, x12, m612, x612, hE.1]
    · rw [m383, x383, m780, x780, hE.2.1]
    · rw [m493, x493, m781, x781, hE.2.2.1]
    · rw [q2.gv (c := 2) (k := 940) (by decide) hn, q1.gv (c := 2) (k := 940) (by decide) hn, q2.gv (c := 62) (k := 940) (by decide) hn, q1.gv (c := 62) (k := 940) (by decide) hn]
      exact hE.2.2.2.1 n hn
    · rw [q2.gl (c := 3) (k := 29) (by decide) hk, q1.gl (c := 3) (k := 29) (by decide) hk]
      exact hE.2.2.2.2.1 k hk
    · rw [q2.gl (c := 67) (k := 29) (by decide) hk, q1.gl (c := 67) (k := 29) (by decide) hk]
      exact hE.2.2.2.2.2.1 k hk
    · exact hE.2.2.2.2.2.2.1.cp ((q1.CP (fa := 5) (na := 6) (by decide) (by decide)).tr (q2.CP (fa := 5) (na := 6) (by decide) (by decide))) ((q1.MP (sa := 63) (so := 0) (ma := 66) (mo := 0) (N := 115) (M := 27) (by decide) (by decide) (by decide) (by decide)).tr (q2.MP (sa := 63) (so := 0) (ma := 66) (mo := 0) (N := 115) (M := 27) (by decide) (by decide) (by decide) (by decide)))
    · exact hE.2.2.2.2.2.2.2.1.cp ((q1.CP (fa := 40) (na := 41) (by decide) (by decide)).tr (q2.CP (fa := 40) (na := 41) (by decide) (by decide))) ((q1.MP (sa := 76) (so := 0) (ma := 77) (mo := 0) (N := 822) (M := 54) (by decide) (by decide) (by decide) (by decide)).tr (q2.MP (sa := 76) (so := 0) (ma := 77) (mo := 0) (N := 822) (M := 54) (by decide) (by decide) (by decide) (by decide)))
    · exact hE.2.2.2.2.2.2.2.2.1.cp ((q1.CP (fa := 51) (na := 52) (by decide) (by decide)).tr (q2.CP (fa := 51) (na := 52) (by decide) (by decide))) ((q1.MP (sa := 76) (so := 411) (ma := 77) (mo := 27) (N := 822) (M := 54) (by decide) (by decide) (by decide) (by decide)).tr (q2.MP (sa := 76) (so := 411) (ma := 77) (mo := 27) (N := 822) (M := 54) (by decide) (by decide) (by decide) (by decide)))
    · unfold ft_e
      rw [q2.g (c := 1) (i := 10) (by decide), q1.g (c := 1) (i := 10) (by decide), q2.g (c := 61) (i := 15) (by decide), q1.g (c := 61) (i := 15) (by decide)]
      exact hE.2.2.2.2.2.2.2.2.2
  refine lv_pop hx hb (kd_at lt_34_d 35 rfl) rfl ?_
  refine lv_goto (tgt := 1505) hx hb (kd_at lt_34_d 36 rfl) rfl ?_
  exact W.widen (by omega) (by omega) (kend H2 locs2 w2 ls hH2 hE2 hl)
def lt_35 : List (Nat × Instr × Nat) := [(1342, .aload_n 1, 1), (1343, .aload_n 0, 1), (1344, .iload 4, 2), (1346, .iconst 1, 1), (1347, .iadd, 1), (1348, .iaload, 1), (1349, .invokevirtual 166, 3), (1352, .pop, 1), (1353, .aload_n 2, 1), (1354, .aload_n 0, 1), (1355, .iload 4, 2), (1357, .iconst 1, 1), (1358, .iadd, 1), (1359, .iaload, 1), (1360, .invokevirtual 169, 3), (1363, .pop, 1), (1364, .goto 141, 3)]
set_option maxRecDepth 100000 in
theorem lt_35_d : (lt_35.all fun q => decide (decode code q.1 = .ok (q.2.1, q.2.2))) = true := by decide +kernel
theorem ll_x35 : Cond.methodLink "ReadBoundLaw" 166 mn_145 ∈ lw_tbl := List.mem_of_getElem? (i := 996) (by decide +kernel)
theorem ll_m35 : Cond.methodLink "ReadBoundLaw" 169 mn_270 ∈ lw_tbl := List.mem_of_getElem? (i := 1777) (by decide +kernel)
set_option maxRecDepth 100000 in
theorem lc_case35 {p : Program} {l : Launch} {e : Env} {s : State} {m : MethodId} {below : List Frame} {meth : Method} {c : Code} {Q : State → Prop} {D : va_G} {cA : Nat → ClassId} {sa sv : Nat} {ad : Nat → Nat} {b N oq : Nat} {xs : Nat → Int32} {cu su : Nat} {H : Heap} {locs : List Loc} {ls : Array Slot} {w : pi_W} {i : Nat} (hG : lw_G p s m c meth D cA sa sv ad b N oq xs) (hH : lw_H s D cA ad oq w H locs) (hE : lw_e w) (hl : lv_has ls 7 (lw_L ad b oq i)) (hi : i + 6 ≤ N) (hcu : cu + 6 ≤ 601024) (hsu : su + 36 ≤ 7293034) (kend : ∀ (H1 : Heap) (locs1 : List Loc) (w1 : pi_W) (ls1 : Array Slot), lw_H s D cA ad oq w1 H1 locs1 → lw_e w1 → lv_has ls1 7 (lw_L ad b oq i) → W p l e room_1 s m #[Value.ref b] below meth c H1 locs1 (cu + 6) (su + 36) Q (F0 m 1505 ls1 [])) : W p l e room_1 s m #[Value.ref b] below meth c H locs cu su Q (F0 m 1342 ls []) := by
  obtain ⟨hI, hP, hD, hS, ho1, ho2, hof⟩ := id hH
  have C := hG.1
  have hsa := hG.2.1
  have hx := C.1
  have hb := C.2.1
  obtain ⟨e0, he0, fs0, rfl, -, -⟩ := hI.1.at (a := 0) (c := .inr (10, _)) rfl
  obtain ⟨σ, hJ, hCL, hMS⟩ := id hE.2.2.2.2.2.2.1
  refine lv_aload_n hx hb (kd_at lt_35_d 0 rfl) rfl (lv_at hl 1 rfl) ?_
  refine lw_push (j := 1) (jj := 1) hG hS hl (by omega) rfl (kd_at lt_35_d 1 rfl) (kd_at lt_35_d 2 rfl) (kd_at lt_35_d 3 rfl) (kd_at lt_35_d 4 rfl) (kd_at lt_35_d 5 rfl) ?_
  refine lw_hq C hsa (z := 145) (na := 1) (cp := 166) (a := 0) (As := [.int (xs (i + 1))]) (d := 24) (restM := []) pz_145 lk_x35 ll_x35 rfl he0 (Nat.le_of_ble_eq_true rfl) (by decide) rfl (lx_35c hI (hE.b hI) hE.2.2.2.2.1 hCL hJ.1.1 hJ.1.2.1 (xs (i + 1))) (fun r w' q => by rw [q.1.1.1.1, hI.1.1]) hP hD hS hl.1 (by decide) (by decide) (by show cu ≤ 601024; omega) (by show su ≤ 7293034; omega) (by decide) (kd_at lt_35_d 6 rfl) ?_
  rintro r1 w1 H1 locs1 ⟨⟨hI1, q1⟩, t1, v1, rfl, hv1⟩ hP1 hD1 hS1 hz1 hk1
  have hH1 := lw_oq hG hH hI1 hP1 hD1 hS1 hz1 hk1
  have x12 : gI w1 1 2 = diB (xs (i + 1)).toInt (gI w 1 2) := t1
  have x612 : gI w1 61 2 = gI w 61 2 := q1.g (by decide)
  have x383 : gI w1 38 3 = gI w 38 3 := q1.g (by decide)
  have x493 : gI w1 49 3 = gI w 49 3 := q1.g (by decide)
  have x780 : gI w1 78 0 = gI w 78 0 := q1.g (by decide)
  have x781 : gI w1 78 1 = gI w 78 1 := q1.g (by decide)
  obtain ⟨e1, he1, fs1, rfl, -, -⟩ := hI1.1.at (a := 61) (c := .inr (11, _)) rfl
  refine lv_pop hx hb (kd_at lt_35_d 7 rfl) rfl ?_
  refine lv_aload_n hx hb (kd_at lt_35_d 8 rfl) rfl (lv_at hl 2 rfl) ?_
  refine lw_push (j := 1) (jj := 1) hG hS1 hl (by omega) rfl (kd_at lt_35_d 9 rfl) (kd_at lt_35_d 10 rfl) (kd_at lt_35_d 11 rfl) (kd_at lt_35_d 12 rfl) (kd_at lt_35_d 13 rfl) ?_
  refine lw_hq C hsa (z := 270) (na := 1) (cp := 169) (a := 61) (As := [.int (xs (i + 1))]) (d := 24) (restM := []) pz_270 lk_m35 ll_m35 rfl he1 (Nat.le_of_ble_eq_true rfl) (by decide) rfl (lm_35c hI1 (by rw [x612, ← hE.1]; exact hE.b hI) (fun k hk => by rw [q1.gl (c := 67) (k := 29) (by decide) hk]; exact hE.2.2.2.2.2.1 k hk) (hMS.cp hJ.1.1 hJ.1.2.1 (q1.MP (sa := 63) (so := 0) (ma := 66) (mo := 0) (N := 115) (M := 27) (by decide) (by decide) (by decide) (by decide))) hJ.1.1 hJ.1.2.1 (xs (i + 1))) (fun r w' q => by rw [q.1.1.1.1, hI1.1.1]) hP1 hD1 hS1 hl.1 (by decide) (by decide) (by show cu ≤ 601024; omega) (by show su ≤ 7293034; omega) (by decide) (kd_at lt_35_d 14 rfl) ?_
  rintro r2 w2 H2 locs2 ⟨⟨hI2, q2⟩, t2, v2, rfl, hv2⟩ hP2 hD2 hS2 hz2 hk2
  have hH2 := lw_oq hG hH1 hI2 hP2 hD2 hS2 hz2 hk2
  have m12 : gI w2 1 2 = gI w1 1 2 := q2.g (by decide)
  have m612 : gI w2 61 2 = diB (xs (i + 1)).toInt (gI w1 61 2) := t2
  have m383 : gI w2 38 3 = gI w1 38 3 := q2.g (by decide)
  have m493 : gI w2 49 3 = gI w1 49 3 := q2.g (by decide)
  have m780 : gI w2 78 0 = gI w1 78 0 := q2.g (by decide)
  have m781 : gI w2 78 1 = gI w1 78 1 := q2.g (by decide)
  have hE2 : lw_e w2 := by
    refine ⟨?_, ?_, ?_, fun n hn => ?_, fun k hk => ?_, fun k hk => ?_, ?_, ?_, ?_, ?_⟩
    · rw [m12, x12, m612, x612, hE.1]
    · rw [m383, x383, m780, x780, hE.2.1]
    · rw [m493, x493, m781, x781, hE.2.2.1]
    · rw [q2.gv (c := 2) (k := 940) (by decide) hn, q1.gv (c := 2) (k := 940) (by decide) hn, q2.gv (c := 62) (k := 940) (by decide) hn, q1.gv (c := 62) (k := 940) (by decide) hn]
      exact hE.2.2.2.1 n hn
    · rw [q2.gl (c := 3) (k := 29) (by decide) hk, q1.gl (c := 3) (k := 29) (by decide) hk]
      exact hE.2.2.2.2.1 k hk
    · rw [q2.gl (c := 67) (k := 29) (by decide) hk, q1.gl (c := 67) (k := 29) (by decide) hk]
      exact hE.2.2.2.2.2.1 k hk
    · exact hE.2.2.2.2.2.2.1.cp ((q1.CP (fa := 5) (na := 6) (by decide) (by decide)).tr (q2.CP (fa := 5) (na := 6) (by decide) (by decide))) ((q1.MP (sa := 63) (so := 0) (ma := 66) (mo := 0) (N := 115) (M := 27) (by decide) (by decide) (by decide) (by decide)).tr (q2.MP (sa := 63) (so := 0) (ma := 66) (mo := 0) (N := 115) (M := 27) (by decide) (by decide) (by decide) (by decide)))
    · exact hE.2.2.2.2.2.2.2.1.cp ((q1.CP (fa := 40) (na := 41) (by decide) (by decide)).tr (q2.CP (fa := 40) (na := 41) (by decide) (by decide))) ((q1.MP (sa := 76) (so := 0) (ma := 77) (mo := 0) (N := 822) (M := 54) (by decide) (by decide) (by decide) (by decide)).tr (q2.MP (sa := 76) (so := 0) (ma := 77) (mo := 0) (N := 822) (M := 54) (by decide) (by decide) (by decide) (by decide)))
    · exact hE.2.2.2.2.2.2.2.2.1.cp ((q1.CP (fa := 51) (na := 52) (by decide) (by decide)).tr (q2.CP (fa := 51) (na := 52) (by decide) (by decide))) ((q1.MP (sa := 76) (so := 411) (ma := 77) (mo := 27) (N := 822) (M := 54) (by decide) (by decide) (by decide) (by decide)).tr (q2.MP (sa := 76) (so := 411) (ma := 77) (mo := 27) (N := 822) (M := 54) (by decide) (by decide) (by decide) (by decide)))
    · have eT : ld_tp w1 62 = ld_tp w 2 := by
        funext n
        unfold ld_tp
        by_cases hn : n < 940
        · rw [if_pos hn, if_pos hn, q1.gv (c := 62) (k := 940) (by decide) hn, ← hE.2.2.2.1 n hn]
        · rw [if_neg hn, if_neg hn]
      unfold ft_e
      rw [q2.g (c := 1) (i := 10) (by decide)]
      rw [hv1, hv2, eT, x612, ← hE.1, q1.g (c := 61) (i := 15) (by decide), ← show gI w 1 10 = gI w 61 15 from hE.2.2.2.2.2.2.2.2.2]
  refine lv_pop hx hb (kd_at lt_35_d 15 rfl) rfl ?_
  refine lv_goto (tgt := 1505) hx hb (kd_at lt_35_d 16 rfl) rfl ?_
  exact W.widen (by omega) (by omega) (kend H2 locs2 w2 ls hH2 hE2 hl)
def lt_36 : List (Nat × Instr × Nat) := [(1367, .aload_n 1, 1), (1368, .aload_n 0, 1), (1369, .iload 4, 2), (1371, .iconst 1, 1), (1372, .iadd, 1), (1373, .iaload, 1), (1374, .invokevirtual 170, 3), (1377, .pop, 1), (1378, .aload_n 2, 1), (1379, .aload_n 0, 1), (1380, .iload 4, 2), (1382, .iconst 1, 1), (1383, .iadd, 1), (1384, .iaload, 1), (1385, .invokevirtual 173, 3), (1388, .pop, 1), (1389, .goto 116, 3)]
set_option maxRecDepth 100000 in
theorem lt_36_d : (lt_36.all fun q => decide (decode code q.1 = .ok (q.2.1, q.2.2))) = true := by decide +kernel
theorem ll_x36 : Cond.methodLink "ReadBoundLaw" 170 mn_146 ∈ lw_tbl := List.mem_of_getElem? (i := 1034) (by decide +kernel)
theorem ll_m36 : Cond.methodLink "ReadBoundLaw" 173 mn_271 ∈ lw_tbl := List.mem_of_getElem? (i := 1797) (by decide +kernel)
set_option maxRecDepth 100000 in
theorem lc_case36 {p : Program} {l : Launch} {e : Env} {s : State} {m : MethodId} {below : List Frame} {meth : Method} {c : Code} {Q : State → Prop} {D : va_G} {cA : Nat → ClassId} {sa sv : Nat} {ad : Nat → Nat} {b N oq : Nat} {xs : Nat → Int32} {cu su : Nat} {H : Heap} {locs : List Loc} {ls : Array Slot} {w : pi_W} {i : Nat} (hG : lw_G p s m c meth D cA sa sv ad b N oq xs) (hH : lw_H s D cA ad oq w H locs) (hE : lw_e w) (hl : lv_has ls 7 (lw_L ad b oq i)) (hi : i + 6 ≤ N) (hcu : cu + 6 ≤ 601024) (hsu : su + 36 ≤ 7293034) (kend : ∀ (H1 : Heap) (locs1 : List Loc) (w1 : pi_W) (ls1 : Array Slot), lw_H s D cA ad oq w1 H1 locs1 → lw_e w1 → lv_has ls1 7 (lw_L ad b oq i) → W p l e room_1 s m #[Value.ref b] below meth c H1 locs1 (cu + 6) (su + 36) Q (F0 m 1505 ls1 [])) : W p l e room_1 s m #[Value.ref b] below meth c H locs cu su Q (F0 m 1367 ls []) := by
  obtain ⟨hI, hP, hD, hS, ho1, ho2, hof⟩ := id hH
  have C := hG.1
  have hsa := hG.2.1
  have hx := C.1
  have hb := C.2.1
  obtain ⟨e0, he0, fs0, rfl, -, -⟩ := hI.1.at (a := 0) (c := .inr (10, _)) rfl
  refine lv_aload_n hx hb (kd_at lt_36_d 0 rfl) rfl (lv_at hl 1 rfl) ?_
  refine lw_push (j := 1) (jj := 1) hG hS hl (by omega) rfl (kd_at lt_36_d 1 rfl) (kd_at lt_36_d 2 rfl) (kd_at lt_36_d 3 rfl) (kd_at lt_36_d 4 rfl) (kd_at lt_36_d 5 rfl) ?_
  refine lw_hq C hsa (z := 146) (na := 1) (cp := 170) (a := 0) (As := [.int (xs (i + 1))]) (d := 24) (restM := []) pz_146 lk_x36 ll_x36 rfl he0 (Nat.le_of_ble_eq_true rfl) (by decide) rfl (lx_36 hI (xs (i + 1))) (fun r w' q => by rw [q.1.1.1.1, hI.1.1]) hP hD hS hl.1 (by decide) (by decide) (by show cu ≤ 601024; omega) (by show su ≤ 7293034; omega) (by decide) (kd_at lt_36_d 6 rfl) ?_
  rintro r1 w1 H1 locs1 ⟨⟨hI1, q1⟩, v1, rfl⟩ hP1 hD1 hS1 hz1 hk1
  have hH1 := lw_oq hG hH hI1 hP1 hD1 hS1 hz1 hk1
  have x12 : gI w1 1 2 = gI w 1 2 := q1.g (by decide)
  have x612 : gI w1 61 2 = gI w 61 2 := q1.g (by decide)
  have x383 : gI w1 38 3 = gI w 38 3 := q1.g (by decide)
  have x493 : gI w1 49 3 = gI w 49 3 := q1.g (by decide)
  have x780 : gI w1 78 0 = gI w 78 0 := q1.g (by decide)
  have x781 : gI w1 78 1 = gI w 78 1 := q1.g (by decide)
  obtain ⟨e1, he1, fs1, rfl, -, -⟩ := hI1.1.at (a := 61) (c := .inr (11, _)) rfl
  refine lv_pop hx hb (kd_at lt_36_d 7 rfl) rfl ?_
  refine lv_aload_n hx hb (kd_at lt_36_d 8 rfl) rfl (lv_at hl 2 rfl) ?_
  refine lw_push (j := 1) (jj := 1) hG hS1 hl (by omega) rfl (kd_at lt_36_d 9 rfl) (kd_at lt_36_d 10 rfl) (kd_at lt_36_d 11 rfl) (kd_at lt_36_d 12 rfl) (kd_at lt_36_d 13 rfl) ?_
  refine lw_hq C hsa (z := 271) (na := 1) (cp := 173) (a := 61) (As := [.int (xs (i + 1))]) (d := 24) (restM := []) pz_271 lk_m36 ll_m36 rfl he1 (Nat.le_of_ble_eq_true rfl) (by decide) rfl (lm_36 hI1 (xs (i + 1))) (fun r w' q => by rw [q.1.1.1.1, hI1.1.1]) hP1 hD1 hS1 hl.1 (by decide) (by decide) (by show cu ≤ 601024; omega) (by show su ≤ 7293034; omega) (by decide) (kd_at lt_36_d 14 rfl) ?_
  rintro r2 w2 H2 locs2 ⟨⟨hI2, q2⟩, v2, rfl⟩ hP2 hD2 hS2 hz2 hk2
  have hH2 := lw_oq hG hH1 hI2 hP2 hD2 hS2 hz2 hk2
  have m12 : gI w2 1 2 = gI w1 1 2 := q2.g (by decide)
  have m612 : gI w2 61 2 = gI w1 61 2 := q2.g (by decide)
  have m383 : gI w2 38 3 = gI w1 38 3 := q2.g (by decide)
  have m493 : gI w2 49 3 = gI w1 49 3 := q2.g (by decide)
  have m780 : gI w2 78 0 = gI w1 78 0 := q2.g (by decide)
  have m781 : gI w2 78 1 = gI w1 78 1 := q2.g (by decide)
  have hE2 : lw_e w2 := by
    refine ⟨?_, ?_, ?_, fun n hn => ?_, fun k hk => ?_, fun k hk => ?_, ?_, ?_, ?_, ?_⟩
    · rw [m12, x12, m612, x612, hE.1]
    · rw [m383, x383, m780, x780, hE.2.1]
    · rw [m493, x493, m781, x781, hE.2.2.1]
    · rw [q2.gv (c := 2) (k := 940) (by decide) hn, q1.gv (c := 2) (k := 940) (by decide) hn, q2.gv (c := 62) (k := 940) (by decide) hn, q1.gv (c := 62) (k := 940) (by decide) hn]
      exact hE.2.2.2.1 n hn
    · rw [q2.gl (c := 3) (k := 29) (by decide) hk, q1.gl (c := 3) (k := 29) (by decide) hk]
      exact hE.2.2.2.2.1 k hk
    · rw [q2.gl (c := 67) (k := 29) (by decide) hk, q1.gl (c := 67) (k := 29) (by decide) hk]
      exact hE.2.2.2.2.2.1 k hk
    · exact hE.2.2.2.2.2.2.1.cp ((q1.CP (fa := 5) (na := 6) (by decide) (by decide)).tr (q2.CP (fa := 5) (na := 6) (by decide) (by decide))) ((q1.MP (sa := 63) (so := 0) (ma := 66) (mo := 0) (N := 115) (M := 27) (by decide) (by decide) (by decide) (by decide)).tr (q2.MP (sa := 63) (so := 0) (ma := 66) (mo := 0) (N := 115) (M := 27) (by decide) (by decide) (by decide) (by decide)))
    · exact hE.2.2.2.2.2.2.2.1.cp ((q1.CP (fa := 40) (na := 41) (by decide) (by decide)).tr (q2.CP (fa := 40) (na := 41) (by decide) (by decide))) ((q1.MP (sa := 76) (so := 0) (ma := 77) (mo := 0) (N := 822) (M := 54) (by decide) (by decide) (by decide) (by decide)).tr (q2.MP (sa := 76) (so := 0) (ma := 77) (mo := 0) (N := 822) (M := 54) (by decide) (by decide) (by decide) (by decide)))
    · exact hE.2.2.2.2.2.2.2.2.1.cp ((q1.CP (fa := 51) (na := 52) (by decide) (by decide)).tr (q2.CP (fa := 51) (na := 52) (by decide) (by decide))) ((q1.MP (sa := 76) (so := 411) (ma := 77) (mo := 27) (N := 822) (M := 54) (by decide) (by decide) (by decide) (by decide)).tr (q2.MP (sa := 76) (so := 411) (ma := 77) (mo := 27) (N := 822) (M := 54) (by decide) (by decide) (by decide) (by decide)))
    · unfold ft_e
      rw [q2.g (c := 1) (i := 10) (by decide), q1.g (c := 1) (i := 10) (by decide), q2.g (c := 61) (i := 15) (by decide), q1.g (c := 61) (i := 15) (by decide)]
      exact hE.2.2.2.2.2.2.2.2.2
  refine lv_pop hx hb (kd_at lt_36_d 15 rfl) rfl ?_
  refine lv_goto (tgt := 1505) hx hb (kd_at lt_36_d 16 rfl) rfl ?_
  exact W.widen (by omega) (by omega) (kend H2 locs2 w2 ls hH2 hE2 hl)
def lt_37 : List (Nat × Instr × Nat) := [(1392, .aload_n 1, 1), (1393, .invokevirtual 174, 3), (1396, .pop, 1), (1397, .aload_n 2, 1), (1398, .invokevirtual 177, 3), (1401, .pop, 1), (1402, .goto 103, 3)]
set_option maxRecDepth 100000 in
theorem lt_37_d : (lt_37.all fun q => decide (decode code q.1 = .ok (q.2.1, q.2.2))) = true := by decide +kernel
theorem ll_x37 : Cond.methodLink "ReadBoundLaw" 174 mn_147 ∈ lw_tbl := List.mem_of_getElem? (i := 1038) (by decide +kernel)
theorem ll_m37 : Cond.methodLink "ReadBoundLaw" 177 mn_278 ∈ lw_tbl := List.mem_of_getElem? (i := 1801) (by decide +kernel)
set_option maxRecDepth 100000 in
theorem lc_case37 {p : Program} {l : Launch} {e : Env} {s : State} {m : MethodId} {below : List Frame} {meth : Method} {c : Code} {Q : State → Prop} {D : va_G} {cA : Nat → ClassId} {sa sv : Nat} {ad : Nat → Nat} {b N oq : Nat} {xs : Nat → Int32} {cu su : Nat} {H : Heap} {locs : List Loc} {ls : Array Slot} {w : pi_W} {i : Nat} (hG : lw_G p s m c meth D cA sa sv ad b N oq xs) (hH : lw_H s D cA ad oq w H locs) (hE : lw_e w) (hl : lv_has ls 7 (lw_L ad b oq i)) (hi : i + 6 ≤ N) (hcu : cu + 6 ≤ 601024) (hsu : su + 36 ≤ 7293034) (kend : ∀ (H1 : Heap) (locs1 : List Loc) (w1 : pi_W) (ls1 : Array Slot), lw_H s D cA ad oq w1 H1 locs1 → lw_e w1 → lv_has ls1 7 (lw_L ad b oq i) → W p l e room_1 s m #[Value.ref b] below meth c H1 locs1 (cu + 6) (su + 36) Q (F0 m 1505 ls1 [])) : W p l e room_1 s m #[Value.ref b] below meth c H locs cu su Q (F0 m 1392 ls []) := by
  obtain ⟨hI, hP, hD, hS, ho1, ho2, hof⟩ := id hH
  have C := hG.1
  have hsa := hG.2.1
  have hx := C.1
  have hb := C.2.1
  obtain ⟨e0, he0, fs0, rfl, -, -⟩ := hI.1.at (a := 0) (c := .inr (10, _)) rfl
  obtain ⟨σ, hJ, hCL, hMS⟩ := id hE.2.2.2.2.2.2.1
  refine lv_aload_n hx hb (kd_at lt_37_d 0 rfl) rfl (lv_at hl 1 rfl) ?_
  refine lw_hq C hsa (z := 147) (na := 0) (cp := 174) (a := 0) (As := []) (d := 24) (restM := []) pz_147 lk_x37 ll_x37 rfl he0 (Nat.le_of_ble_eq_true rfl) (by decide) rfl (lx_37c hI (hE.b hI) hE.2.2.2.2.1 hCL hJ.1.1 hJ.1.2.1) (fun r w' q => by rw [q.1.1.1.1, hI.1.1]) hP hD hS hl.1 (by decide) (by decide) (by show cu ≤ 601024; omega) (by show su ≤ 7293034; omega) (by decide) (kd_at lt_37_d 1 rfl) ?_
  rintro r1 w1 H1 locs1 ⟨⟨hI1, q1⟩, t1, v1, rfl, hv1⟩ hP1 hD1 hS1 hz1 hk1
  have hH1 := lw_oq hG hH hI1 hP1 hD1 hS1 hz1 hk1
  have x12 : gI w1 1 2 = 0 := t1
  have x612 : gI w1 61 2 = gI w 61 2 := q1.g (by decide)
  have x383 : gI w1 38 3 = gI w 38 3 := q1.g (by decide)
  have x493 : gI w1 49 3 = gI w 49 3 := q1.g (by decide)
  have x780 : gI w1 78 0 = gI w 78 0 := q1.g (by decide)
  have x781 : gI w1 78 1 = gI w 78 1 := q1.g (by decide)
  obtain ⟨e1, he1, fs1, rfl, -, -⟩ := hI1.1.at (a := 61) (c := .inr (11, _)) rfl
  refine lv_pop hx hb (kd_at lt_37_d 2 rfl) rfl ?_
  refine lv_aload_n hx hb (kd_at lt_37_d 3 rfl) rfl (lv_at hl 2 rfl) ?_
  refine lw_hq C hsa (z := 278) (na := 0) (cp := 177) (a := 61) (As := []) (d := 24) (restM := []) pz_278 lk_m37 ll_m37 rfl he1 (Nat.le_of_ble_eq_true rfl) (by decide) rfl (lm_37c hI1 (by rw [x612, ← hE.1]; exact hE.b hI) (fun k hk => by rw [q1.gl (c := 67) (k := 29) (by decide) hk]; exact hE.2.2.2.2.2.1 k hk) (hMS.cp hJ.1.1 hJ.1.2.1 (q1.MP (sa := 63) (so := 0) (ma := 66) (mo := 0) (N := 115) (M := 27) (by decide) (by decide) (by decide) (by decide))) hJ.1.1 hJ.1.2.1) (fun r w' q => by rw [q.1.1.1.1, hI1.1.1]) hP1 hD1 hS1 hl.1 (by decide) (by decide) (by show cu ≤ 601024; omega) (by show su ≤ 7293034; omega) (by decide) (kd_at lt_37_d 4 rfl) ?_
  rintro r2 w2 H2 locs2 ⟨⟨hI2, q2⟩, t2, v2, rfl, hv2⟩ hP2 hD2 hS2 hz2 hk2
  have hH2 := lw_oq hG hH1 hI2 hP2 hD2 hS2 hz2 hk2
  have m12 : gI w2 1 2 = gI w1 1 2 := q2.g (by decide)
  have m612 : gI w2 61 2 = 0 := t2
  have m383 : gI w2 38 3 = gI w1 38 3 := q2.g (by decide)
  have m493 : gI w2 49 3 = gI w1 49 3 := q2.g (by decide)
  have m780 : gI w2 78 0 = gI w1 78 0 := q2.g (by decide)
  have m781 : gI w2 78 1 = gI w1 78 1 := q2.g (by decide)
  have hE2 : lw_e w2 := by
    refine ⟨?_, ?_, ?_, fun n hn => ?_, fun k hk => ?_, fun k hk => ?_, ?_, ?_, ?_, ?_⟩
    · rw [m12, x12, m612]
    · rw [m383, x383, m780, x780, hE.2.1]
    · rw [m493, x493, m781, x781, hE.2.2.1]
    · rw [q2.gv (c := 2) (k := 940) (by decide) hn, q1.gv (c := 2) (k := 940) (by decide) hn, q2.gv (c := 62) (k := 940) (by decide) hn, q1.gv (c := 62) (k := 940) (by decide) hn]
      exact hE.2.2.2.1 n hn
    · rw [q2.gl (c := 3) (k := 29) (by decide) hk, q1.gl (c := 3) (k := 29) (by decide) hk]
      exact hE.2.2.2.2.1 k hk
    · rw [q2.gl (c := 67) (k := 29) (by decide) hk, q1.gl (c := 67) (k := 29) (by decide) hk]
      exact hE.2.2.2.2.2.1 k hk
    · exact hE.2.2.2.2.2.2.1.cp ((q1.CP (fa := 5) (na := 6) (by decide) (by decide)).tr (q2.CP (fa := 5) (na := 6) (by decide) (by decide))) ((q1.MP (sa := 63) (so := 0) (ma := 66) (mo := 0) (N := 115) (M := 27) (by decide) (by decide) (by decide) (by decide)).tr (q2.MP (sa := 63) (so := 0) (ma := 66) (mo := 0) (N := 115) (M := 27) (by decide) (by decide) (by decide) (by decide)))
    · exact hE.2.2.2.2.2.2.2.1.cp ((q1.CP (fa := 40) (na := 41) (by decide) (by decide)).tr (q2.CP (fa := 40) (na := 41) (by decide) (by decide))) ((q1.MP (sa := 76) (so := 0) (ma := 77) (mo := 0) (N := 822) (M := 54) (by decide) (by decide) (by decide) (by decide)).tr (q2.MP (sa := 76) (so := 0) (ma := 77) (mo := 0) (N := 822) (M := 54) (by decide) (by decide) (by decide) (by decide)))
    · exact hE.2.2.2.2.2.2.2.2.1.cp ((q1.CP (fa := 51) (na := 52) (by decide) (by decide)).tr (q2.CP (fa := 51) (na := 52) (by decide) (by decide))) ((q1.MP (sa := 76) (so := 411) (ma := 77) (mo := 27) (N := 822) (M := 54) (by decide) (by decide) (by decide) (by decide)).tr (q2.MP (sa := 76) (so := 411) (ma := 77) (mo := 27) (N := 822) (M := 54) (by decide) (by decide) (by decide) (by decide)))
    · have eT : ld_tp w1 62 = ld_tp w 2 := by
        funext n
        unfold ld_tp
        by_cases hn : n < 940
        · rw [if_pos hn, if_pos hn, q1.gv (c := 62) (k := 940) (by decide) hn, ← hE.2.2.2.1 n hn]
        · rw [if_neg hn, if_neg hn]
      unfold ft_e
      rw [q2.g (c := 1) (i := 10) (by decide)]
      obtain ⟨z1, R1, e1⟩ := hv1
      obtain ⟨z2, R2, e2⟩ := hv2
      rw [eT, x612, ← hE.1] at R2
      rw [e1, e2, R1.det R2]
  refine lv_pop hx hb (kd_at lt_37_d 5 rfl) rfl ?_
  refine lv_goto (tgt := 1505) hx hb (kd_at lt_37_d 6 rfl) rfl ?_
  exact W.widen (by omega) (by omega) (kend H2 locs2 w2 ls hH2 hE2 hl)
def lt_38 : List (Nat × Instr × Nat) := [(1405, .aload_n 1, 1), (1406, .aload_n 0, 1), (1407, .iload 4, 2), (1409, .iconst 1, 1), (1410, .iadd, 1), (1411, .iaload, 1), (1412, .invokevirtual 178, 3), (1415, .pop, 1), (1416, .aload_n 2, 1), (1417, .aload_n 0, 1), (1418, .iload 4, 2), (1420, .iconst 1, 1), (1421, .iadd, 1), (1422, .iaload, 1), (1423, .invokevirtual 181, 3), (1426, .pop, 1), (1427, .goto 78, 3)]
set_option maxRecDepth 100000 in
theorem lt_38_d : (lt_38.all fun q => decide (decode code q.1 = .ok (q.2.1, q.2.2))) = true := by decide +kernel
theorem ll_x38 : Cond.methodLink "ReadBoundLaw" 178 mn_148 ∈ lw_tbl := List.mem_of_getElem? (i := 1083) (by decide +kernel)
theorem ll_m38 : Cond.methodLink "ReadBoundLaw" 181 mn_281 ∈ lw_tbl := List.mem_of_getElem? (i := 1829) (by decide +kernel)
set_option maxRecDepth 100000 in
theorem lc_case38 {p : Program} {l : Launch} {e : Env} {s : State} {m : MethodId} {below : List Frame} {meth : Method} {c : Code} {Q : State → Prop} {D : va_G} {cA : Nat → ClassId} {sa sv : Nat} {ad : Nat → Nat} {b N oq : Nat} {xs : Nat → Int32} {cu su : Nat} {H : Heap} {locs : List Loc} {ls : Array Slot} {w : pi_W} {i : Nat} (hG : lw_G p s m c meth D cA sa sv ad b N oq xs) (hH : lw_H s D cA ad oq w H locs) (hE : lw_e w) (hl : lv_has ls 7 (lw_L ad b oq i)) (hi : i + 6 ≤ N) (hcu : cu + 6 ≤ 601024) (hsu : su + 36 ≤ 7293034) (kend : ∀ (H1 : Heap) (locs1 : List Loc) (w1 : pi_W) (ls1 : Array Slot), lw_H s D cA ad oq w1 H1 locs1 → lw_e w1 → lv_has ls1 7 (lw_L ad b oq i) → W p l e room_1 s m #[Value.ref b] below meth c H1 locs1 (cu + 6) (su + 36) Q (F0 m 1505 ls1 [])) : W p l e room_1 s m #[Value.ref b] below meth c H locs cu su Q (F0 m 1405 ls []) := by
  obtain ⟨hI, hP, hD, hS, ho1, ho2, hof⟩ := id hH
  have C := hG.1
  have hsa := hG.2.1
  have hx := C.1
  have hb := C.2.1
  obtain ⟨e0, he0, fs0, rfl, -, -⟩ := hI.1.at (a := 0) (c := .inr (10, _)) rfl
  refine lv_aload_n hx hb (kd_at lt_38_d 0 rfl) rfl (lv_at hl 1 rfl) ?_
  refine lw_push (j := 1) (jj := 1) hG hS hl (by omega) rfl (kd_at lt_38_d 1 rfl) (kd_at lt_38_d 2 rfl) (kd_at lt_38_d 3 rfl) (kd_at lt_38_d 4 rfl) (kd_at lt_38_d 5 rfl) ?_
  refine lw_hq C hsa (z := 148) (na := 1) (cp := 178) (a := 0) (As := [.int (xs (i + 1))]) (d := 24) (restM := []) pz_148 lk_x38 ll_x38 rfl he0 (Nat.le_of_ble_eq_true rfl) (by decide) rfl (lx_38 hI (xs (i + 1))) (fun r w' q => by rw [q.1.1.1.1, hI.1.1]) hP hD hS hl.1 (by decide) (by decide) (by show cu ≤ 601024; omega) (by show su ≤ 7293034; omega) (by decide) (kd_at lt_38_d 6 rfl) ?_
  rintro r1 w1 H1 locs1 ⟨⟨hI1, q1⟩, v1, rfl⟩ hP1 hD1 hS1 hz1 hk1
  have hH1 := lw_oq hG hH hI1 hP1 hD1 hS1 hz1 hk1
  have x12 : gI w1 1 2 = gI w 1 2 := q1.g (by decide)
  have x612 : gI w1 61 2 = gI w 61 2 := q1.g (by decide)
  have x383 : gI w1 38 3 = gI w 38 3 := q1.g (by decide)
  have x493 : gI w1 49 3 = gI w 49 3 := q1.g (by decide)
  have x780 : gI w1 78 0 = gI w 78 0 := q1.g (by decide)
  have x781 : gI w1 78 1 = gI w 78 1 := q1.g (by decide)
  obtain ⟨e1, he1, fs1, rfl, -, -⟩ := hI1.1.at (a := 61) (c := .inr (11, _)) rfl
  refine lv_pop hx hb (kd_at lt_38_d 7 rfl) rfl ?_
  refine lv_aload_n hx hb (kd_at lt_38_d 8 rfl) rfl (lv_at hl 2 rfl) ?_
  refine lw_push (j := 1) (jj := 1) hG hS1 hl (by omega) rfl (kd_at lt_38_d 9 rfl) (kd_at lt_38_d 10 rfl) (kd_at lt_38_d 11 rfl) (kd_at lt_38_d 12 rfl) (kd_at lt_38_d 13 rfl) ?_
  refine lw_hq C hsa (z := 281) (na := 1) (cp := 181) (a := 61) (As := [.int (xs (i + 1))]) (d := 24) (restM := []) pz_281 lk_m38 ll_m38 rfl he1 (Nat.le_of_ble_eq_true rfl) (by decide) rfl (lm_38 hI1 (xs (i + 1))) (fun r w' q => by rw [q.1.1.1.1, hI1.1.1]) hP1 hD1 hS1 hl.1 (by decide) (by decide) (by show cu ≤ 601024; omega) (by show su ≤ 7293034; omega) (by decide) (kd_at lt_38_d 14 rfl) ?_
  rintro r2 w2 H2 locs2 ⟨⟨hI2, q2⟩, v2, rfl⟩ hP2 hD2 hS2 hz2 hk2
  have hH2 := lw_oq hG hH1 hI2 hP2 hD2 hS2 hz2 hk2
  have m12 : gI w2 1 2 = gI w1 1 2 := q2.g (by decide)
  have m612 : gI w2 61 2 = gI w1 61 2 := q2.g (by decide)
  have m383 : gI w2 38 3 = gI w1 38 3 := q2.g (by decide)
  have m493 : gI w2 49 3 = gI w1 49 3 := q2.g (by decide)
  have m780 : gI w2 78 0 = gI w1 78 0 := q2.g (by decide)
  have m781 : gI w2 78 1 = gI w1 78 1 := q2.g (by decide)
  have hE2 : lw_e w2 := by
    refine ⟨?_, ?_, ?_, fun n hn => ?_, fun k hk => ?_, fun k hk => ?_, ?_, ?_, ?_, ?_⟩
    · rw [m12, x12, m612, x612, hE.1]
    · rw [m383, x383, m780, x780, hE.2.1]
    · rw [m493, x493, m781, x781, hE.2.2.1]
    · rw [q2.gv (c := 2) (k := 940) (by decide) hn, q1.gv (c := 2) (k := 940) (by decide) hn, q2.gv (c := 62) (k := 940) (by decide) hn, q1.gv (c := 62) (k := 940) (by decide) hn]
      exact hE.2.2.2.1 n hn
    · rw [q2.gl (c := 3) (k := 29) (by decide) hk, q1.gl (c := 3) (k := 29) (by decide) hk]
      exact hE.2.2.2.2.1 k hk
    · rw [q2.gl (c := 67) (k := 29) (by decide) hk, q1.gl (c := 67) (k := 29) (by decide) hk]
      exact hE.2.2.2.2.2.1 k hk
    · exact hE.2.2.2.2.2.2.1.cp ((q1.CP (fa := 5) (na := 6) (by decide) (by decide)).tr (q2.CP (fa := 5) (na := 6) (by decide) (by decide))) ((q1.MP (sa := 63) (so := 0) (ma := 66) (mo := 0) (N := 115) (M := 27) (by decide) (by decide) (by decide) (by decide)).tr (q2.MP (sa := 63) (so := 0) (ma := 66) (mo := 0) (N := 115) (M := 27) (by decide) (by decide) (by decide) (by decide)))
    · exact hE.2.2.2.2.2.2.2.1.cp ((q1.CP (fa := 40) (na := 41) (by decide) (by decide)).tr (q2.CP (fa := 40) (na := 41) (by decide) (by decide))) ((q1.MP (sa := 76) (so := 0) (ma := 77) (mo := 0) (N := 822) (M := 54) (by decide) (by decide) (by decide) (by decide)).tr (q2.MP (sa := 76) (so := 0) (ma := 77) (mo := 0) (N := 822) (M := 54) (by decide) (by decide) (by decide) (by decide)))
    · exact hE.2.2.2.2.2.2.2.2.1.cp ((q1.CP (fa := 51) (na := 52) (by decide) (by decide)).tr (q2.CP (fa := 51) (na := 52) (by decide) (by decide))) ((q1.MP (sa := 76) (so := 411) (ma := 77) (mo := 27) (N := 822) (M := 54) (by decide) (by decide) (by decide) (by decide)).tr (q2.MP (sa := 76) (so := 411) (ma := 77) (mo := 27) (N := 822) (M := 54) (by decide) (by decide) (by decide) (by decide)))
    · unfold ft_e
      rw [q2.g (c := 1) (i := 10) (by decide), q1.g (c := 1) (i := 10) (by decide), q2.g (c := 61) (i := 15) (by decide), q1.g (c := 61) (i := 15) (by decide)]
      exact hE.2.2.2.2.2.2.2.2.2
  refine lv_pop hx hb (kd_at lt_38_d 15 rfl) rfl ?_
  refine lv_goto (tgt := 1505) hx hb (kd_at lt_38_d 16 rfl) rfl ?_
  exact W.widen (by omega) (by omega) (kend H2 locs2 w2 ls hH2 hE2 hl)
def lt_39 : List (Nat × Instr × Nat) := [(1430, .aload_n 1, 1), (1431, .aload_n 0, 1), (1432, .iload 4, 2), (1434, .iconst 1, 1), (1435, .iadd, 1), (1436, .iaload, 1), (1437, .invokevirtual 182, 3), (1440, .pop, 1), (1441, .aload_n 2, 1), (1442, .aload_n 0, 1), (1443, .iload 4, 2), (1445, .iconst 1, 1), (1446, .iadd, 1), (1447, .iaload, 1), (1448, .invokevirtual 185, 3), (1451, .pop, 1), (1452, .goto 53, 3)]
set_option maxRecDepth 100000 in
theorem lt_39_d : (lt_39.all fun q => decide (decode code q.1 = .ok (q.2.1, q.2.2))) = true := by decide +kernel
theorem ll_x39 : Cond.methodLink "ReadBoundLaw" 182 mn_149 ∈ lw_tbl := List.mem_of_getElem? (i := 1107) (by decide +kernel)
theorem ll_m39 : Cond.methodLink "ReadBoundLaw" 185 mn_282 ∈ lw_tbl := List.mem_of_getElem? (i := 1841) (by decide +kernel)
set_option maxRecDepth 100000 in
theorem lc_case39 {p : Program} {l : Launch} {e : Env} {s : State} {m : MethodId} {below : List Frame} {meth : Method} {c : Code} {Q : State → Prop} {D : va_G} {cA : Nat → ClassId} {sa sv : Nat} {ad : Nat → Nat} {b N oq : Nat} {xs : Nat → Int32} {cu su : Nat} {H : Heap} {locs : List Loc} {ls : Array Slot} {w : pi_W} {i : Nat} (hG : lw_G p s m c meth D cA sa sv ad b N oq xs) (hH : lw_H s D cA ad oq w H locs) (hE : lw_e w) (hl : lv_has ls 7 (lw_L ad b oq i)) (hi : i + 6 ≤ N) (hcu : cu + 6 ≤ 601024) (hsu : su + 36 ≤ 7293034) (kend : ∀ (H1 : Heap) (locs1 : List Loc) (w1 : pi_W) (ls1 : Array Slot), lw_H s D cA ad oq w1 H1 locs1 → lw_e w1 → lv_has ls1 7 (lw_L ad b oq i) → W p l e room_1 s m #[Value.ref b] below meth c H1 locs1 (cu + 6) (su + 36) Q (F0 m 1505 ls1 [])) : W p l e room_1 s m #[Value.ref b] below meth c H locs cu su Q (F0 m 1430 ls []) := by
  obtain ⟨hI, hP, hD, hS, ho1, ho2, hof⟩ := id hH
  have C := hG.1
  have hsa := hG.2.1
  have hx := C.1
  have hb := C.2.1
  obtain ⟨e0, he0, fs0, rfl, -, -⟩ := hI.1.at (a := 0) (c := .inr (10, _)) rfl
  refine lv_aload_n hx hb (kd_at lt_39_d 0 rfl) rfl (lv_at hl 1 rfl) ?_
  refine lw_push (j := 1) (jj := 1) hG hS hl (by omega) rfl (kd_at lt_39_d 1 rfl) (kd_at lt_39_d 2 rfl) (kd_at lt_39_d 3 rfl) (kd_at lt_39_d 4 rfl) (kd_at lt_39_d 5 rfl) ?_
  refine lw_hq C hsa (z := 149) (na := 1) (cp := 182) (a := 0) (As := [.int (xs (i + 1))]) (d := 24) (restM := []) pz_149 lk_x39 ll_x39 rfl he0 (Nat.le_of_ble_eq_true rfl) (by decide) rfl (lx_39 hI (xs (i + 1))) (fun r w' q => by rw [q.1.1.1.1, hI.1.1]) hP hD hS hl.1 (by decide) (by decide) (by show cu ≤ 601024; omega) (by show su ≤ 7293034; omega) (by decide) (kd_at lt_39_d 6 rfl) ?_
  rintro r1 w1 H1 locs1 ⟨⟨hI1, q1⟩, t1, v1, rfl, hv1⟩ hP1 hD1 hS1 hz1 hk1
  have hH1 := lw_oq hG hH hI1 hP1 hD1 hS1 hz1 hk1
  have x12 : gI w1 1 2 = gI w 1 2 := q1.g (by decide)
  have x612 : gI w1 61 2 = gI w 61 2 := q1.g (by decide)
  have x383 : gI w1 38 3 = imK (xs (i + 1)).toInt 0 (gI w 38 3) := t1.1.1
  have x493 : gI w1 49 3 = imK (xs (i + 1)).toInt 1 (gI w 49 3) := t1.1.2
  have x780 : gI w1 78 0 = gI w 78 0 := q1.g (by decide)
  have x781 : gI w1 78 1 = gI w 78 1 := q1.g (by decide)
  obtain ⟨e1, he1, fs1, rfl, -, -⟩ := hI1.1.at (a := 61) (c := .inr (11, _)) rfl
  refine lv_pop hx hb (kd_at lt_39_d 7 rfl) rfl ?_
  refine lv_aload_n hx hb (kd_at lt_39_d 8 rfl) rfl (lv_at hl 2 rfl) ?_
  refine lw_push (j := 1) (jj := 1) hG hS1 hl (by omega) rfl (kd_at lt_39_d 9 rfl) (kd_at lt_39_d 10 rfl) (kd_at lt_39_d 11 rfl) (kd_at lt_39_d 12 rfl) (kd_at lt_39_d 13 rfl) ?_
  refine lw_hq C hsa (z := 282) (na := 1) (cp := 185) (a := 61) (As := [.int (xs (i + 1))]) (d := 24) (restM := []) pz_282 lk_m39 ll_m39 rfl he1 (Nat.le_of_ble_eq_true rfl) (by decide) rfl (lm_39 hI1 (xs (i + 1))) (fun r w' q => by rw [q.1.1.1.1, hI1.1.1]) hP1 hD1 hS1 hl.1 (by decide) (by decide) (by show cu ≤ 601024; omega) (by show su ≤ 7293034; omega) (by decide) (kd_at lt_39_d 14 rfl) ?_
  rintro r2 w2 H2 locs2 ⟨⟨hI2, q2⟩, t2, v2, rfl, hv2⟩ hP2 hD2 hS2 hz2 hk2
  have hH2 := lw_oq hG hH1 hI2 hP2 hD2 hS2 hz2 hk2
  have m12 : gI w2 1 2 = gI w1 1 2 := q2.g (by decide)
  have m612 : gI w2 61 2 = gI w1 61 2 := q2.g (by decide)
  have m383 : gI w2 38 3 = gI w1 38 3 := q2.g (by decide)
  have m493 : gI w2 49 3 = gI w1 49 3 := q2.g (by decide)
  have m780 : gI w2 78 0 = imK (xs (i + 1)).toInt 0 (gI w1 78 0) := t2.1.1
  have m781 : gI w2 78 1 = imK (xs (i + 1)).toInt 1 (gI w1 78 1) := t2.1.2
  have hE2 : lw_e w2 := by
    refine ⟨?_, ?_, ?_, fun n hn => ?_, fun k hk => ?_, fun k hk => ?_, ?_, ?_, ?_, ?_⟩
    · rw [m12, x12, m612, x612, hE.1]
    · rw [m383, x383, m780, x780, hE.2.1]
    · rw [m493, x493, m781, x781, hE.2.2.1]
    · rw [q2.gv (c := 2) (k := 940) (by decide) hn, q1.gv (c := 2) (k := 940) (by decide) hn, q2.gv (c := 62) (k := 940) (by decide) hn, q1.gv (c := 62) (k := 940) (by decide) hn]
      exact hE.2.2.2.1 n hn
    · rw [q2.gl (c := 3) (k := 29) (by decide) hk, q1.gl (c := 3) (k := 29) (by decide) hk]
      exact hE.2.2.2.2.1 k hk
    · rw [q2.gl (c := 67) (k := 29) (by decide) hk, q1.gl (c := 67) (k := 29) (by decide) hk]
      exact hE.2.2.2.2.2.1 k hk
    · exact hE.2.2.2.2.2.2.1.cp ((q1.CP (fa := 5) (na := 6) (by decide) (by decide)).tr (q2.CP (fa := 5) (na := 6) (by decide) (by decide))) ((q1.MP (sa := 63) (so := 0) (ma := 66) (mo := 0) (N := 115) (M := 27) (by decide) (by decide) (by decide) (by decide)).tr (q2.MP (sa := 63) (so := 0) (ma := 66) (mo := 0) (N := 115) (M := 27) (by decide) (by decide) (by decide) (by decide)))
    · by_cases h0 : (xs (i + 1)).toInt = 0
      · exact hE.2.2.2.2.2.2.1.cp ((t1.2.1 h0).1.tr (q2.CP (fa := 40) (na := 41) (by decide) (by decide))) ((q1.MP (sa := 63) (so := 0) (ma := 66) (mo := 0) (N := 115) (M := 27) (by decide) (by decide) (by decide) (by decide)).tr (t2.2.1 h0).1)
      · by_cases h1 : (xs (i + 1)).toInt = 1
        · exact hE.2.2.2.2.2.2.2.1.cp ((t1.2.2.1 h1).2.tr (q2.CP (fa := 40) (na := 41) (by decide) (by decide))) ((q1.MP (sa := 76) (so := 0) (ma := 77) (mo := 0) (N := 822) (M := 54) (by decide) (by decide) (by decide) (by decide)).tr (t2.2.2.1 h1).2)
        · exact hE.2.2.2.2.2.2.2.1.cp ((t1.2.2.2 h0 h1).1.tr (q2.CP (fa := 40) (na := 41) (by decide) (by decide))) ((q1.MP (sa := 76) (so := 0) (ma := 77) (mo := 0) (N := 822) (M := 54) (by decide) (by decide) (by decide) (by decide)).tr (t2.2.2.2 h0 h1).1)
    · by_cases h1 : (xs (i + 1)).toInt = 1
      · exact hE.2.2.2.2.2.2.1.cp ((t1.2.2.1 h1).1.tr (q2.CP (fa := 51) (na := 52) (by decide) (by decide))) ((q1.MP (sa := 63) (so := 0) (ma := 66) (mo := 0) (N := 115) (M := 27) (by decide) (by decide) (by decide) (by decide)).tr (t2.2.2.1 h1).1)
      · by_cases h0 : (xs (i + 1)).toInt = 0
        · exact hE.2.2.2.2.2.2.2.2.1.cp ((t1.2.1 h0).2.tr (q2.CP (fa := 51) (na := 52) (by decide) (by decide))) ((q1.MP (sa := 76) (so := 411) (ma := 77) (mo := 27) (N := 822) (M := 54) (by decide) (by decide) (by decide) (by decide)).tr (t2.2.1 h0).2)
        · exact hE.2.2.2.2.2.2.2.2.1.cp ((t1.2.2.2 h0 h1).2.tr (q2.CP (fa := 51) (na := 52) (by decide) (by decide))) ((q1.MP (sa := 76) (so := 411) (ma := 77) (mo := 27) (N := 822) (M := 54) (by decide) (by decide) (by decide) (by decide)).tr (t2.2.2.2 h0 h1).2)
    · unfold ft_e
      rw [q2.g (c := 1) (i := 10) (by decide), q1.g (c := 1) (i := 10) (by decide), q2.g (c := 61) (i := 15) (by decide), q1.g (c := 61) (i := 15) (by decide)]
      exact hE.2.2.2.2.2.2.2.2.2
  refine lv_pop hx hb (kd_at lt_39_d 15 rfl) rfl ?_
  refine lv_goto (tgt := 1505) hx hb (kd_at lt_39_d 16 rfl) rfl ?_
  exact W.widen (by omega) (by omega) (kend H2 locs2 w2 ls hH2 hE2 hl)
def lt_40 : List (Nat × Instr × Nat) := [(1455, .aload_n 1, 1), (1456, .aload_n 0, 1), (1457, .iload 4, 2), (1459, .iconst 1, 1), (1460, .iadd, 1), (1461, .iaload, 1), (1462, .invokevirtual 186, 3), (1465, .pop, 1), (1466, .aload_n 2, 1), (1467, .aload_n 0, 1), (1468, .iload 4, 2), (1470, .iconst 1, 1), (1471, .iadd, 1), (1472, .iaload, 1), (1473, .invokevirtual 189, 3), (1476, .pop, 1), (1477, .goto 28, 3)]
set_option maxRecDepth 100000 in
theorem lt_40_d : (lt_40.all fun q => decide (decode code q.1 = .ok (q.2.1, q.2.2))) = true := by decide +kernel
theorem ll_x40 : Cond.methodLink "ReadBoundLaw" 186 mn_150 ∈ lw_tbl := List.mem_of_getElem? (i := 1122) (by decide +kernel)
theorem ll_m40 : Cond.methodLink "ReadBoundLaw" 189 mn_283 ∈ lw_tbl := List.mem_of_getElem? (i := 1845) (by decide +kernel)
set_option maxRecDepth 100000 in
theorem lc_case40 {p : Program} {l : Launch} {e : Env} {s : State} {m : MethodId} {below : List Frame} {meth : Method} {c : Code} {Q : State → Prop} {D : va_G} {cA : Nat → ClassId} {sa sv : Nat} {ad : Nat → Nat} {b N oq : Nat} {xs : Nat → Int32} {cu su : Nat} {H : Heap} {locs : List Loc} {ls : Array Slot} {w : pi_W} {i : Nat} (hG : lw_G p s m c meth D cA sa sv ad b N oq xs) (hH : lw_H s D cA ad oq w H locs) (hE : lw_e w) (hl : lv_has ls 7 (lw_L ad b oq i)) (hi : i + 6 ≤ N) (hcu : cu + 6 ≤ 601024) (hsu : su + 36 ≤ 7293034) (kend : ∀ (H1 : Heap) (locs1 : List Loc) (w1 : pi_W) (ls1 : Array Slot), lw_H s D cA ad oq w1 H1 locs1 → lw_e w1 → lv_has ls1 7 (lw_L ad b oq i) → W p l e room_1 s m #[Value.ref b] below meth c H1 locs1 (cu + 6) (su + 36) Q (F0 m 1505 ls1 [])) : W p l e room_1 s m #[Value.ref b] below meth c H locs cu su Q (F0 m 1455 ls []) := by
  obtain ⟨hI, hP, hD, hS, ho1, ho2, hof⟩ := id hH
  have C := hG.1
  have hsa := hG.2.1
  have hx := C.1
  have hb := C.2.1
  obtain ⟨e0, he0, fs0, rfl, -, -⟩ := hI.1.at (a := 0) (c := .inr (10, _)) rfl
  refine lv_aload_n hx hb (kd_at lt_40_d 0 rfl) rfl (lv_at hl 1 rfl) ?_
  refine lw_push (j := 1) (jj := 1) hG hS hl (by omega) rfl (kd_at lt_40_d 1 rfl) (kd_at lt_40_d 2 rfl) (kd_at lt_40_d 3 rfl) (kd_at lt_40_d 4 rfl) (kd_at lt_40_d 5 rfl) ?_
  refine lw_hq C hsa (z := 150) (na := 1) (cp := 186) (a := 0) (As := [.int (xs (i + 1))]) (d := 24) (restM := []) pz_150 lk_x40 ll_x40 rfl he0 (Nat.le_of_ble_eq_true rfl) (by decide) rfl (lx_40 hI (xs (i + 1))) (fun r w' q => by rw [q.1.1.1.1, hI.1.1]) hP hD hS hl.1 (by decide) (by decide) (by show cu ≤ 601024; omega) (by show su ≤ 7293034; omega) (by decide) (kd_at lt_40_d 6 rfl) ?_
  rintro r1 w1 H1 locs1 ⟨⟨hI1, q1⟩, t1, v1, rfl, hv1⟩ hP1 hD1 hS1 hz1 hk1
  have hH1 := lw_oq hG hH hI1 hP1 hD1 hS1 hz1 hk1
  have x12 : gI w1 1 2 = gI w 1 2 := q1.g (by decide)
  have x612 : gI w1 61 2 = gI w 61 2 := q1.g (by decide)
  have x383 : gI w1 38 3 = gI w 38 3 := q1.g (by decide)
  have x493 : gI w1 49 3 = gI w 49 3 := q1.g (by decide)
  have x780 : gI w1 78 0 = gI w 78 0 := q1.g (by decide)
  have x781 : gI w1 78 1 = gI w 78 1 := q1.g (by decide)
  obtain ⟨e1, he1, fs1, rfl, -, -⟩ := hI1.1.at (a := 61) (c := .inr (11, _)) rfl
  refine lv_pop hx hb (kd_at lt_40_d 7 rfl) rfl ?_
  refine lv_aload_n hx hb (kd_at lt_40_d 8 rfl) rfl (lv_at hl 2 rfl) ?_
  refine lw_push (j := 1) (jj := 1) hG hS1 hl (by omega) rfl (kd_at lt_40_d 9 rfl) (kd_at lt_40_d 10 rfl) (kd_at lt_40_d 11 rfl) (kd_at lt_40_d 12 rfl) (kd_at lt_40_d 13 rfl) ?_
  refine lw_hq C hsa (z := 283) (na := 1) (cp := 189) (a := 61) (As := [.int (xs (i + 1))]) (d := 24) (restM := []) pz_283 lk_m40 ll_m40 rfl he1 (Nat.le_of_ble_eq_true rfl) (by decide) rfl (lm_40 hI1 (xs (i + 1))) (fun r w' q => by rw [q.1.1.1.1, hI1.1.1]) hP1 hD1 hS1 hl.1 (by decide) (by decide) (by show cu ≤ 601024; omega) (by show su ≤ 7293034; omega) (by decide) (kd_at lt_40_d 14 rfl) ?_
  rintro r2 w2 H2 locs2 ⟨⟨hI2, q2⟩, t2, v2, rfl, hv2⟩ hP2 hD2 hS2 hz2 hk2
  have hH2 := lw_oq hG hH1 hI2 hP2 hD2 hS2 hz2 hk2
  have m12 : gI w2 1 2 = gI w1 1 2 := q2.g (by decide)
  have m612 : gI w2 61 2 = gI w1 61 2 := q2.g (by decide)
  have m383 : gI w2 38 3 = gI w1 38 3 := q2.g (by decide)
  have m493 : gI w2 49 3 = gI w1 49 3 := q2.g (by decide)
  have m780 : gI w2 78 0 = gI w1 78 0 := q2.g (by decide)
  have m781 : gI w2 78 1 = gI w1 78 1 := q2.g (by decide)
  have hE2 : lw_e w2 := by
    refine ⟨?_, ?_, ?_, fun n hn => ?_, fun k hk => ?_, fun k hk => ?_, ?_, ?_, ?_, ?_⟩
    · rw [m12, x12, m612, x612, hE.1]
    · rw [m383, x383, m780, x780, hE.2.1]
    · rw [m493, x493, m781, x781, hE.2.2.1]
    · rw [q2.gv (c := 2) (k := 940) (by decide) hn, q1.gv (c := 2) (k := 940) (by decide) hn, q2.gv (c := 62) (k := 940) (by decide) hn, q1.gv (c := 62) (k := 940) (by decide) hn]
      exact hE.2.2.2.1 n hn
    · rw [q2.gl (c := 3) (k := 29) (by decide) hk, q1.gl (c := 3) (k := 29) (by decide) hk]
      exact hE.2.2.2.2.1 k hk
    · rw [q2.gl (c := 67) (k := 29) (by decide) hk, q1.gl (c := 67) (k := 29) (by decide) hk]
      exact hE.2.2.2.2.2.1 k hk
    · have k0 : (gv w1 78 0).toInt = (gv w 38 3).toInt := by rw [← gvI, ← gvI, x780, ← hE.2.1]
      have k1 : (gv w1 78 1).toInt = (gv w 49 3).toInt := by rw [← gvI, ← gvI, x781, ← hE.2.2.1]
      have t22 := t2.2
      rw [k0, k1] at t22
      by_cases h0 : (xs (i + 1)).toInt = 0 ∧ ¬ (gv w 38 3).toInt = 0
      · exact hE.2.2.2.2.2.2.2.1.cp ((t1.2.1 h0.1 h0.2).tr (q2.CP (fa := 5) (na := 6) (by decide) (by decide))) ((q1.MP (sa := 76) (so := 0) (ma := 77) (mo := 0) (N := 822) (M := 54) (by decide) (by decide) (by decide) (by decide)).tr (t22.1 h0.1 h0.2))
      · by_cases h1 : (xs (i + 1)).toInt = 1 ∧ ¬ (gv w 49 3).toInt = 0
        · exact hE.2.2.2.2.2.2.2.2.1.cp ((t1.2.2.1 h1.1 h1.2).tr (q2.CP (fa := 5) (na := 6) (by decide) (by decide))) ((q1.MP (sa := 76) (so := 411) (ma := 77) (mo := 27) (N := 822) (M := 54) (by decide) (by decide) (by decide) (by decide)).tr (t22.2.1 h1.1 h1.2))
        · exact hE.2.2.2.2.2.2.1.cp ((t1.2.2.2 h0 h1).tr (q2.CP (fa := 5) (na := 6) (by decide) (by decide))) ((q1.MP (sa := 63) (so := 0) (ma := 66) (mo := 0) (N := 115) (M := 27) (by decide) (by decide) (by decide) (by decide)).tr (t22.2.2 h0 h1))
    · exact hE.2.2.2.2.2.2.2.1.cp ((q1.CP (fa := 40) (na := 41) (by decide) (by decide)).tr (q2.CP (fa := 40) (na := 41) (by decide) (by decide))) ((q1.MP (sa := 76) (so := 0) (ma := 77) (mo := 0) (N := 822) (M := 54) (by decide) (by decide) (by decide) (by decide)).tr (q2.MP (sa := 76) (so := 0) (ma := 77) (mo := 0) (N := 822) (M := 54) (by decide) (by decide) (by decide) (by decide)))
    · exact hE.2.2.2.2.2.2.2.2.1.cp ((q1.CP (fa := 51) (na := 52) (by decide) (by decide)).tr (q2.CP (fa := 51) (na := 52) (by decide) (by decide))) ((q1.MP (sa := 76) (so := 411) (ma := 77) (mo := 27) (N := 822) (M := 54) (by decide) (by decide) (by decide) (by decide)).tr (q2.MP (sa := 76) (so := 411) (ma := 77) (mo := 27) (N := 822) (M := 54) (by decide) (by decide) (by decide) (by decide)))
    · unfold ft_e
      rw [q2.g (c := 1) (i := 10) (by decide), q1.g (c := 1) (i := 10) (by decide), q2.g (c := 61) (i := 15) (by decide), q1.g (c := 61) (i := 15) (by decide)]
      exact hE.2.2.2.2.2.2.2.2.2
  refine lv_pop hx hb (kd_at lt_40_d 15 rfl) rfl ?_
  refine lv_goto (tgt := 1505) hx hb (kd_at lt_40_d 16 rfl) rfl ?_
  exact W.widen (by omega) (by omega) (kend H2 locs2 w2 ls hH2 hE2 hl)
def lt_41 : List (Nat × Instr × Nat) := [(1480, .aload_n 1, 1), (1481, .aload_n 0, 1), (1482, .iload 4, 2), (1484, .iconst 1, 1), (1485, .iadd, 1), (1486, .iaload, 1), (1487, .invokevirtual 190, 3), (1490, .pop, 1), (1491, .aload_n 2, 1), (1492, .aload_n 0, 1), (1493, .iload 4, 2), (1495, .iconst 1, 1), (1496, .iadd, 1), (1497, .iaload, 1), (1498, .invokevirtual 193, 3), (1501, .pop, 1), (1502, .goto 3, 3)]
set_option maxRecDepth 100000 in
theorem lt_41_d : (lt_41.all fun q => decide (decode code q.1 = .ok (q.2.1, q.2.2))) = true := by decide +kernel
theorem ll_x41 : Cond.methodLink "ReadBoundLaw" 190 mn_151 ∈ lw_tbl := List.mem_of_getElem? (i := 1130) (by decide +kernel)
theorem ll_m41 : Cond.methodLink "ReadBoundLaw" 193 mn_284 ∈ lw_tbl := List.mem_of_getElem? (i := 1849) (by decide +kernel)
set_option maxRecDepth 100000 in
theorem lc_case41 {p : Program} {l : Launch} {e : Env} {s : State} {m : MethodId} {below : List Frame} {meth : Method} {c : Code} {Q : State → Prop} {D : va_G} {cA : Nat → ClassId} {sa sv : Nat} {ad : Nat → Nat} {b N oq : Nat} {xs : Nat → Int32} {cu su : Nat} {H : Heap} {locs : List Loc} {ls : Array Slot} {w : pi_W} {i : Nat} (hG : lw_G p s m c meth D cA sa sv ad b N oq xs) (hH : lw_H s D cA ad oq w H locs) (hE : lw_e w) (hl : lv_has ls 7 (lw_L ad b oq i)) (hi : i + 6 ≤ N) (hcu : cu + 6 ≤ 601024) (hsu : su + 36 ≤ 7293034) (kend : ∀ (H1 : Heap) (locs1 : List Loc) (w1 : pi_W) (ls1 : Array Slot), lw_H s D cA ad oq w1 H1 locs1 → lw_e w1 → lv_has ls1 7 (lw_L ad b oq i) → W p l e room_1 s m #[Value.ref b] below meth c H1 locs1 (cu + 6) (su + 36) Q (F0 m 1505 ls1 [])) : W p l e room_1 s m #[Value.ref b] below meth c H locs cu su Q (F0 m 1480 ls []) := by
  obtain ⟨hI, hP, hD, hS, ho1, ho2, hof⟩ := id hH
  have C := hG.1
  have hsa := hG.2.1
  have hx := C.1
  have hb := C.2.1
  obtain ⟨e0, he0, fs0, rfl, -, -⟩ := hI.1.at (a := 0) (c := .inr (10, _)) rfl
  refine lv_aload_n hx hb (kd_at lt_41_d 0 rfl) rfl (lv_at hl 1 rfl) ?_
  refine lw_push (j := 1) (jj := 1) hG hS hl (by omega) rfl (kd_at lt_41_d 1 rfl) (kd_at lt_41_d 2 rfl) (kd_at lt_41_d 3 rfl) (kd_at lt_41_d 4 rfl) (kd_at lt_41_d 5 rfl) ?_
  refine lw_hq C hsa (z := 151) (na := 1) (cp := 190) (a := 0) (As := [.int (xs (i + 1))]) (d := 24) (restM := []) pz_151 lk_x41 ll_x41 rfl he0 (Nat.le_of_ble_eq_true rfl) (by decide) rfl (lx_41 hI (xs (i + 1))) (fun r w' q => by rw [q.1.1.1.1, hI.1.1]) hP hD hS hl.1 (by decide) (by decide) (by show cu ≤ 601024; omega) (by show su ≤ 7293034; omega) (by decide) (kd_at lt_41_d 6 rfl) ?_
  rintro r1 w1 H1 locs1 ⟨⟨hI1, q1⟩, v1, rfl⟩ hP1 hD1 hS1 hz1 hk1
  have hH1 := lw_oq hG hH hI1 hP1 hD1 hS1 hz1 hk1
  have x12 : gI w1 1 2 = gI w 1 2 := q1.g (by decide)
  have x612 : gI w1 61 2 = gI w 61 2 := q1.g (by decide)
  have x383 : gI w1 38 3 = gI w 38 3 := q1.g (by decide)
  have x493 : gI w1 49 3 = gI w 49 3 := q1.g (by decide)
  have x780 : gI w1 78 0 = gI w 78 0 := q1.g (by decide)
  have x781 : gI w1 78 1 = gI w 78 1 := q1.g (by decide)
  obtain ⟨e1, he1, fs1, rfl, -, -⟩ := hI1.1.at (a := 61) (c := .inr (11, _)) rfl
  refine lv_pop hx hb (kd_at lt_41_d 7 rfl) rfl ?_
  refine lv_aload_n hx hb (kd_at lt_41_d 8 rfl) rfl (lv_at hl 2 rfl) ?_
  refine lw_push (j := 1) (jj := 1) hG hS1 hl (by omega) rfl (kd_at lt_41_d 9 rfl) (kd_at lt_41_d 10 rfl) (kd_at lt_41_d 11 rfl) (kd_at lt_41_d 12 rfl) (kd_at lt_41_d 13 rfl) ?_
  refine lw_hq C hsa (z := 284) (na := 1) (cp := 193) (a := 61) (As := [.int (xs (i + 1))]) (d := 24) (restM := []) pz_284 lk_m41 ll_m41 rfl he1 (Nat.le_of_ble_eq_true rfl) (by decide) rfl (lm_41 hI1 (xs (i + 1))) (fun r w' q => by rw [q.1.1.1.1, hI1.1.1]) hP1 hD1 hS1 hl.1 (by decide) (by decide) (by show cu ≤ 601024; omega) (by show su ≤ 7293034; omega) (by decide) (kd_at lt_41_d 14 rfl) ?_
  rintro r2 w2 H2 locs2 ⟨⟨hI2, q2⟩, v2, rfl⟩ hP2 hD2 hS2 hz2 hk2
  have hH2 := lw_oq hG hH1 hI2 hP2 hD2 hS2 hz2 hk2
  have m12 : gI w2 1 2 = gI w1 1 2 := q2.g (by decide)
  have m612 : gI w2 61 2 = gI w1 61 2 := q2.g (by decide)
  have m383 : gI w2 38 3 = gI w1 38 3 := q2.g (by decide)
  have m493 : gI w2 49 3 = gI w1 49 3 := q2.g (by decide)
  have m780 : gI w2 78 0 = gI w1 78 0 := q2.g (by decide)
  have m781 : gI w2 78 1 = gI w1 78 1 := q2.g (by decide)
  have hE2 : lw_e w2 := by
    refine ⟨?_, ?_, ?_, fun n hn => ?_, fun k hk => ?_, fun k hk => ?_, ?_, ?_, ?_, ?_⟩
    · rw [m12, x12, m612, x612, hE.1]
    · rw [m383, x383, m780, x780, hE.2.1]
    · rw [m493, x493, m781, x781, hE.2.2.1]
    · rw [q2.gv (c := 2) (k := 940) (by decide) hn, q1.gv (c := 2) (k := 940) (by decide) hn, q2.gv (c := 62) (k := 940) (by decide) hn, q1.gv (c := 62) (k := 940) (by decide) hn]
      exact hE.2.2.2.1 n hn
    · rw [q2.gl (c := 3) (k := 29) (by decide) hk, q1.gl (c := 3) (k := 29) (by decide) hk]
      exact hE.2.2.2.2.1 k hk
    · rw [q2.gl (c := 67) (k := 29) (by decide) hk, q1.gl (c := 67) (k := 29) (by decide) hk]
      exact hE.2.2.2.2.2.1 k hk
    · exact hE.2.2.2.2.2.2.1.cp ((q1.CP (fa := 5) (na := 6) (by decide) (by decide)).tr (q2.CP (fa := 5) (na := 6) (by decide) (by decide))) ((q1.MP (sa := 63) (so := 0) (ma := 66) (mo := 0) (N := 115) (M := 27) (by decide) (by decide) (by decide) (by decide)).tr (q2.MP (sa := 63) (so := 0) (ma := 66) (mo := 0) (N := 115) (M := 27) (by decide) (by decide) (by decide) (by decide)))
    · exact hE.2.2.2.2.2.2.2.1.cp ((q1.CP (fa := 40) (na := 41) (by decide) (by decide)).tr (q2.CP (fa := 40) (na := 41) (by decide) (by decide))) ((q1.MP (sa := 76) (so := 0) (ma := 77) (mo := 0) (N := 822) (M := 54) (by decide) (by decide) (by decide) (by decide)).tr (q2.MP (sa := 76) (so := 0) (ma := 77) (mo := 0) (N := 822) (M := 54) (by decide) (by decide) (by decide) (by decide)))
    · exact hE.2.2.2.2.2.2.2.2.1.cp ((q1.CP (fa := 51) (na := 52) (by decide) (by decide)).tr (q2.CP (fa := 51) (na := 52) (by decide) (by decide))) ((q1.MP (sa := 76) (so := 411) (ma := 77) (mo := 27) (N := 822) (M := 54) (by decide) (by decide) (by decide) (by decide)).tr (q2.MP (sa := 76) (so := 411) (ma := 77) (mo := 27) (N := 822) (M := 54) (by decide) (by decide) (by decide) (by decide)))
    · unfold ft_e
      rw [q2.g (c := 1) (i := 10) (by decide), q1.g (c := 1) (i := 10) (by decide), q2.g (c := 61) (i := 15) (by decide), q1.g (c := 61) (i := 15) (by decide)]
      exact hE.2.2.2.2.2.2.2.2.2
  refine lv_pop hx hb (kd_at lt_41_d 15 rfl) rfl ?_
  refine lv_goto (tgt := 1505) hx hb (kd_at lt_41_d 16 rfl) rfl ?_
  exact W.widen (by omega) (by omega) (kend H2 locs2 w2 ls hH2 hE2 hl)
