def lt_11 : List (Nat × Instr × Nat) := [(598, .aload_n 1, 1), (599, .aload_n 0, 1), (600, .iload 4, 2), (602, .iconst 1, 1), (603, .iadd, 1), (604, .iaload, 1), (605, .invokevirtual 69, 3), (608, .pop, 1), (609, .aload_n 2, 1), (610, .aload_n 0, 1), (611, .iload 4, 2), (613, .iconst 1, 1), (614, .iadd, 1), (615, .iaload, 1), (616, .invokevirtual 72, 3), (619, .pop, 1), (620, .goto 885, 3)]
set_option maxRecDepth 100000 in
theorem lt_11_d : (lt_11.all fun q => decide (decode code q.1 = .ok (q.2.1, q.2.2))) = true := by decide +kernel
theorem ll_x11 : Cond.methodLink "ReadBoundLaw" 69 mn_121 ∈ lw_tbl := List.mem_of_getElem? (i := 798) (by decide +kernel)
theorem ll_m11 : Cond.methodLink "ReadBoundLaw" 72 mn_233 ∈ lw_tbl := List.mem_of_getElem? (i := 1608) (by decide +kernel)
set_option maxRecDepth 100000 in
theorem lc_case11 {p : Program} {l : Launch} {e : Env} {s : State} {m : MethodId} {below : List Frame} {meth : Method} {c : Code} {Q : State → Prop} {D : va_G} {cA : Nat → ClassId} {sa sv : Nat} {ad : Nat → Nat} {b N oq : Nat} {xs : Nat → Int32} {cu su : Nat} {H : Heap} {locs : List Loc} {ls : Array Slot} {w : pi_W} {i : Nat} (hG : lw_G p s m c meth D cA sa sv ad b N oq xs) (hH : lw_H s D cA ad oq w H locs) (hE : lw_e w) (hl : lv_has ls 7 (lw_L ad b oq i)) (hi : i + 6 ≤ N) (hcu : cu + 6 ≤ 601024) (hsu : su + 36 ≤ 7293034) (kend : ∀ (H1 : Heap) (locs1 : List Loc) (w1 : pi_W) (ls1 : Array Slot), lw_H s D cA ad oq w1 H1 locs1 → lw_e w1 → lv_has ls1 7 (lw_L ad b oq i) → W p l e room_1 s m #[Value.ref b] below meth c H1 locs1 (cu + 6) (su + 36) Q (F0 m 1505 ls1 [])) : W p l e room_1 s m #[Value.ref b] below meth c H locs cu su Q (F0 m 598 ls []) := by
  obtain ⟨hI, hP, hD, hS, ho1, ho2, hof⟩ := id hH
  have C := hG.1
  have hsa := hG.2.1
  have hx := C.1
  have hb := C.2.1
  obtain ⟨e0, he0, fs0, rfl, -, -⟩ := hI.1.at (a := 0) (c := .inr (10, _)) rfl
  refine lv_aload_n hx hb (kd_at lt_11_d 0 rfl) rfl (lv_at hl 1 rfl) ?_
  refine lw_push (j := 1) (jj := 1) hG hS hl (by omega) rfl (kd_at lt_11_d 1 rfl) (kd_at lt_11_d 2 rfl) (kd_at lt_11_d 3 rfl) (kd_at lt_11_d 4 rfl) (kd_at lt_11_d 5 rfl) ?_
  refine lw_hq C hsa (z := 121) (na := 1) (cp := 69) (a := 0) (As := [.int (xs (i + 1))]) (d := 24) (restM := []) pz_121 lk_x11 ll_x11 rfl he0 (Nat.le_of_ble_eq_true rfl) (by decide) rfl (lx_11 hI (xs (i + 1))) (fun r w' q => by rw [q.1.1.1.1, hI.1.1]) hP hD hS hl.1 (by decide) (by decide) (by show cu ≤ 601024; omega) (by show su ≤ 7293034; omega) (by decide) (kd_at lt_11_d 6 rfl) ?_
  rintro r1 w1 H1 locs1 ⟨⟨hI1, q1⟩, v1, rfl⟩ hP1 hD1 hS1 hz1 hk1
  have hH1 := lw_oq hG hH hI1 hP1 hD1 hS1 hz1 hk1
  have x12 : gI w1 1 2 = gI w 1 2 := q1.g (by decide)
  have x612 : gI w1 61 2 = gI w 61 2 := q1.g (by decide)
  have x383 : gI w1 38 3 = gI w 38 3 := q1.g (by decide)
  have x493 : gI w1 49 3 = gI w 49 3 := q1.g (by decide)
  have x780 : gI w1 78 0 = gI w 78 0 := q1.g (by decide)
  have x781 : gI w1 78 1 = gI w 78 1 := q1.g (by decide)
  obtain ⟨e1, he1, fs1, rfl, -, -⟩ := hI1.1.at (a := 61) (c := .inr (11, _)) rfl
  refine lv_pop hx hb (kd_at lt_11_d 7 rfl) rfl ?_
  refine lv_aload_n hx hb (kd_at lt_11_d 8 rfl) rfl (lv_at hl 2 rfl) ?_
  refine lw_push (j := 1) (jj := 1) hG hS1 hl (by omega) rfl (kd_at lt_11_d 9 rfl) (kd_at lt_11_d 10 rfl) (kd_at lt_11_d 11 rfl) (kd_at lt_11_d 12 rfl) (kd_at lt_11_d 13 rfl) ?_
  refine lw_hq C hsa (z := 233) (na := 1) (cp := 72) (a := 61) (As := [.int (xs (i + 1))]) (d := 24) (restM := []) pz_233 lk_m11 ll_m11 rfl he1 (Nat.le_of_ble_eq_true rfl) (by decide) rfl (lm_11 hI1 (xs (i + 1))) (fun r w' q => by rw [q.1.1.1.1, hI1.1.1]) hP1 hD1 hS1 hl.1 (by decide) (by decide) (by show cu ≤ 601024; omega) (by show su ≤ 7293034; omega) (by decide) (kd_at lt_11_d 14 rfl) ?_
  rintro r2 w2 H2 locs2 ⟨⟨hI2, q2⟩, v2, rfl⟩ hP2 hD2 hS2 hz2 hk2
  have hH2 := lw_oq hG hH1 hI2 hP2 hD2 hS2 hz2 hk2
  have m12 : gI w2 1 2 = gI w1 1 2 := q2.g (by decide)
  have m612 : gI w2 61 2 = gI w1 61 2 := q2.g (by decide)
  have m383 : gI w2 38 3 = gI w1 38 3 := q2.g (by decide)
  have m493 : gI w2 49 3 = gI w1 49 3 := q2.g (by decide)
  have m780 : gI w2 78 0 = gI w1 78 0 := q2.g (by decide)
  have m781 : gI w2 78 1 = gI w1 78 1 := q2.g (by decide)
  have hE2 : lw_e w2 := by
    refine ⟨?_, ?_, ?_, fun n hn => ?_, fun k hk => ?_, fun k hk => ?_, ?_, ?_, ?_, ?_⟩
    · rw [m12, x12, m612, x612, hE.1]
    · rw [m383, x383, m780, x780, hE.2.1]
    · rw [m493, x493, m781, x781, hE.2.2.1]
    · rw [q2.gv (c := 2) (k := 940) (by decide) hn, q1.gv (c := 2) (k := 940) (by decide) hn, q2.gv (c := 62) (k := 940) (by decide) hn, q1.gv (c := 62) (k := 940) (by decide) hn]
      exact hE.2.2.2.1 n hn
    · rw [q2.gl (c := 3) (k := 29) (by decide) hk, q1.gl (c := 3) (k := 29) (by decide) hk]
      exact hE.2.2.2.2.1 k hk
    · rw [q2.gl (c := 67) (k := 29) (by decide) hk, q1.gl (c := 67) (k := 29) (by decide) hk]
      exact hE.2.2.2.2.2.1 k hk
    · exact hE.2.2.2.2.2.2.1.cp ((q1.CP (fa := 5) (na := 6) (by decide) (by decide)).tr (q2.CP (fa := 5) (na := 6) (by decide) (by decide))) ((q1.MP (sa := 63) (so := 0) (ma := 66) (mo := 0) (N := 115) (M := 27) (by decide) (by decide) (by decide) (by decide)).tr (q2.MP (sa := 63) (so := 0) (ma := 66) (mo := 0) (N := 115) (M := 27) (by decide) (by decide) (by decide) (by decide)))
    · exact hE.2.2.2.2.2.2.2.1.cp ((q1.CP (fa := 40) (na := 41) (by decide) (by decide)).tr (q2.CP (fa := 40) (na := 41) (by decide) (by decide))) ((q1.MP (sa := 76) (so := 0) (ma := 77) (mo := 0) (N := 822) (M := 54) (by decide) (by decide) (by decide) (by decide)).tr (q2.MP (sa := 76) (so := 0) (ma := 77) (mo := 0) (N := 822) (M := 54) (by decide) (by decide) (by decide) (by decide)))
    · exact hE.2.2.2.2.2.2.2.2.1.cp ((q1.CP (fa := 51) (na := 52) (by decide) (by decide)).tr (q2.CP (fa := 51) (na := 52) (by decide) (by decide))) ((q1.MP (sa := 76) (so := 411) (ma := 77) (mo := 27) (N := 822) (M := 54) (by decide) (by decide) (by decide) (by decide)).tr (q2.MP (sa := 76) (so := 411) (ma := 77) (mo := 27) (N := 822) (M := 54) (by decide) (by decide) (by decide) (by decide)))
    · unfold ft_e
      rw [q2.g (c := 1) (i := 10) (by decide), q1.g (c := 1) (i := 10) (by decide), q2.g (c := 61) (i := 15) (by decide), q1.g (c := 61) (i := 15) (by decide)]
      exact hE.2.2.2.2.2.2.2.2.2
  refine lv_pop hx hb (kd_at lt_11_d 15 rfl) rfl ?_
  refine lv_goto (tgt := 1505) hx hb (kd_at lt_11_d 16 rfl) rfl ?_
  exact W.widen (by omega) (by omega) (kend H2 locs2 w2 ls hH2 hE2 hl)
def lt_12 : List (Nat × Instr × Nat) := [(623, .aload_n 1, 1), (624, .aload_n 0, 1), (625, .iload 4, 2), (627, .iconst 1, 1), (628, .iadd, 1), (629, .iaload, 1), (630, .aload_n 0, 1), (631, .iload 4, 2), (633, .iconst 2, 1), (634, .iadd, 1), (635, .iaload, 1), (636, .invokevirtual 73, 3), (639, .pop, 1), (640, .aload_n 2, 1), (641, .aload_n 0, 1), (642, .iload 4, 2), (644, .iconst 1, 1), (645, .iadd, 1), (646, .iaload, 1), (647, .aload_n 0, 1), (648, .iload 4, 2), (650, .iconst 2, 1), (651, .iadd, 1), (652, .iaload, 1), (653, .invokevirtual 76, 3), (656, .pop, 1), (657, .goto 848, 3)]
set_option maxRecDepth 100000 in
theorem lt_12_d : (lt_12.all fun q => decide (decode code q.1 = .ok (q.2.1, q.2.2))) = true := by decide +kernel
theorem ll_x12 : Cond.methodLink "ReadBoundLaw" 73 mn_122 ∈ lw_tbl := List.mem_of_getElem? (i := 802) (by decide +kernel)
theorem ll_m12 : Cond.methodLink "ReadBoundLaw" 76 mn_234 ∈ lw_tbl := List.mem_of_getElem? (i := 1624) (by decide +kernel)
set_option maxRecDepth 100000 in
theorem lc_case12 {p : Program} {l : Launch} {e : Env} {s : State} {m : MethodId} {below : List Frame} {meth : Method} {c : Code} {Q : State → Prop} {D : va_G} {cA : Nat → ClassId} {sa sv : Nat} {ad : Nat → Nat} {b N oq : Nat} {xs : Nat → Int32} {cu su : Nat} {H : Heap} {locs : List Loc} {ls : Array Slot} {w : pi_W} {i : Nat} (hG : lw_G p s m c meth D cA sa sv ad b N oq xs) (hH : lw_H s D cA ad oq w H locs) (hE : lw_e w) (hl : lv_has ls 7 (lw_L ad b oq i)) (hi : i + 6 ≤ N) (hcu : cu + 6 ≤ 601024) (hsu : su + 36 ≤ 7293034) (kend : ∀ (H1 : Heap) (locs1 : List Loc) (w1 : pi_W) (ls1 : Array Slot), lw_H s D cA ad oq w1 H1 locs1 → lw_e w1 → lv_has ls1 7 (lw_L ad b oq i) → W p l e room_1 s m #[Value.ref b] below meth c H1 locs1 (cu + 6) (su + 36) Q (F0 m 1505 ls1 [])) : W p l e room_1 s m #[Value.ref b] below meth c H locs cu su Q (F0 m 623 ls []) := by
  obtain ⟨hI, hP, hD, hS, ho1, ho2, hof⟩ := id hH
  have C := hG.1
  have hsa := hG.2.1
  have hx := C.1
  have hb := C.2.1
  obtain ⟨e0, he0, fs0, rfl, -, -⟩ := hI.1.at (a := 0) (c := .inr (10, _)) rfl
  refine lv_aload_n hx hb (kd_at lt_12_d 0 rfl) rfl (lv_at hl 1 rfl) ?_
  refine lw_push (j := 1) (jj := 1) hG hS hl (by omega) rfl (kd_at lt_12_d 1 rfl) (kd_at lt_12_d 2 rfl) (kd_at lt_12_d 3 rfl) (kd_at lt_12_d 4 rfl) (kd_at lt_12_d 5 rfl) ?_
  refine lw_push (j := 2) (jj := 2) hG hS hl (by omega) rfl (kd_at lt_12_d 6 rfl) (kd_at lt_12_d 7 rfl) (kd_at lt_12_d 8 rfl) (kd_at lt_12_d 9 rfl) (kd_at lt_12_d 10 rfl) ?_
  refine lw_hq C hsa (z := 122) (na := 2) (cp := 73) (a := 0) (As := [.int (xs (i + 1)), .int (xs (i + 2))]) (d := 24) (restM := []) pz_122 lk_x12 ll_x12 rfl he0 (Nat.le_of_ble_eq_true rfl) (by decide) rfl (lx_12 hI (xs (i + 1)) (xs (i + 2))) (fun r w' q => by rw [q.1.1.1.1, hI.1.1]) hP hD hS hl.1 (by decide) (by decide) (by show cu ≤ 601024; omega) (by show su ≤ 7293034; omega) (by decide) (kd_at lt_12_d 11 rfl) ?_
  rintro r1 w1 H1 locs1 ⟨⟨hI1, q1⟩, v1, rfl⟩ hP1 hD1 hS1 hz1 hk1
  have hH1 := lw_oq hG hH hI1 hP1 hD1 hS1 hz1 hk1
  have x12 : gI w1 1 2 = gI w 1 2 := q1.g (by decide)
  have x612 : gI w1 61 2 = gI w 61 2 := q1.g (by decide)
  have x383 : gI w1 38 3 = gI w 38 3 := q1.g (by decide)
  have x493 : gI w1 49 3 = gI w 49 3 := q1.g (by decide)
  have x780 : gI w1 78 0 = gI w 78 0 := q1.g (by decide)
  have x781 : gI w1 78 1 = gI w 78 1 := q1.g (by decide)
  obtain ⟨e1, he1, fs1, rfl, -, -⟩ := hI1.1.at (a := 61) (c := .inr (11, _)) rfl
  refine lv_pop hx hb (kd_at lt_12_d 12 rfl) rfl ?_
  refine lv_aload_n hx hb (kd_at lt_12_d 13 rfl) rfl (lv_at hl 2 rfl) ?_
  refine lw_push (j := 1) (jj := 1) hG hS1 hl (by omega) rfl (kd_at lt_12_d 14 rfl) (kd_at lt_12_d 15 rfl) (kd_at lt_12_d 16 rfl) (kd_at lt_12_d 17 rfl) (kd_at lt_12_d 18 rfl) ?_
  refine lw_push (j := 2) (jj := 2) hG hS1 hl (by omega) rfl (kd_at lt_12_d 19 rfl) (kd_at lt_12_d 20 rfl) (kd_at lt_12_d 21 rfl) (kd_at lt_12_d 22 rfl) (kd_at lt_12_d 23 rfl) ?_
  refine lw_hq C hsa (z := 234) (na := 2) (cp := 76) (a := 61) (As := [.int (xs (i + 1)), .int (xs (i + 2))]) (d := 24) (restM := []) pz_234 lk_m12 ll_m12 rfl he1 (Nat.le_of_ble_eq_true rfl) (by decide) rfl (lm_12 hI1 (xs (i + 1)) (xs (i + 2))) (fun r w' q => by rw [q.1.1.1.1, hI1.1.1]) hP1 hD1 hS1 hl.1 (by decide) (by decide) (by show cu ≤ 601024; omega) (by show su ≤ 7293034; omega) (by decide) (kd_at lt_12_d 24 rfl) ?_
  rintro r2 w2 H2 locs2 ⟨⟨hI2, q2⟩, v2, rfl⟩ hP2 hD2 hS2 hz2 hk2
  have hH2 := lw_oq hG hH1 hI2 hP2 hD2 hS2 hz2 hk2
  have m12 : gI w2 1 2 = gI w1 1 2 := q2.g (by decide)
  have m612 : gI w2 61 2 = gI w1 61 2 := q2.g (by decide)
  have m383 : gI w2 38 3 = gI w1 38 3 := q2.g (by decide)
  have m493 : gI w2 49 3 = gI w1 49 3 := q2.g (by decide)
  have m780 : gI w2 78 0 = gI w1 78 0 := q2.g (by decide)
  have m781 : gI w2 78 1 = gI w1 78 1 := q2.g (by decide)
  have hE2 : lw_e w2 := by
    refine ⟨?_, ?_, ?_, fun n hn => ?_, fun k hk => ?_, fun k hk => ?_, ?_, ?_, ?_, ?_⟩
    · rw [m12, x12, m612, x612, hE.1]
    · rw [m383, x383, m780, x780, hE.2.1]
    · rw [m493, x493, m781, x781, hE.2.2.1]
    · rw [q2.gv (c := 2) (k := 940) (by decide) hn, q1.gv (c := 2) (k := 940) (by decide) hn, q2.gv (c := 62) (k := 940) (by decide) hn, q1.gv (c := 62) (k := 940) (by decide) hn]
      exact hE.2.2.2.1 n hn
    · rw [q2.gl (c := 3) (k := 29) (by decide) hk, q1.gl (c := 3) (k := 29) (by decide) hk]
      exact hE.2.2.2.2.1 k hk
    · rw [q2.gl (c := 67) (k := 29) (by decide) hk, q1.gl (c := 67) (k := 29) (by decide) hk]
      exact hE.2.2.2.2.2.1 k hk
    · exact hE.2.2.2.2.2.2.1.cp ((q1.CP (fa := 5) (na := 6) (by decide) (by decide)).tr (q2.CP (fa := 5) (na := 6) (by decide) (by decide))) ((q1.MP (sa := 63) (so := 0) (ma := 66) (mo := 0) (N := 115) (M := 27) (by decide) (by decide) (by decide) (by decide)).tr (q2.MP (sa := 63) (so := 0) (ma := 66) (mo := 0) (N := 115) (M := 27) (by decide) (by decide) (by decide) (by decide)))
    · exact hE.2.2.2.2.2.2.2.1.cp ((q1.CP (fa := 40) (na := 41) (by decide) (by decide)).tr (q2.CP (fa := 40) (na := 41) (by decide) (by decide))) ((q1.MP (sa := 76) (so := 0) (ma := 77) (mo := 0) (N := 822) (M := 54) (by decide) (by decide) (by decide) (by decide)).tr (q2.MP (sa := 76) (so := 0) (ma := 77) (mo := 0) (N := 822) (M := 54) (by decide) (by decide) (by decide) (by decide)))
    · exact hE.2.2.2.2.2.2.2.2.1.cp ((q1.CP (fa := 51) (na := 52) (by decide) (by decide)).tr (q2.CP (fa := 51) (na := 52) (by decide) (by decide))) ((q1.MP (sa := 76) (so := 411) (ma := 77) (mo := 27) (N := 822) (M := 54) (by decide) (by decide) (by decide) (by decide)).tr (q2.MP (sa := 76) (so := 411) (ma := 77) (mo := 27) (N := 822) (M := 54) (by decide) (by decide) (by decide) (by decide)))
    · unfold ft_e
      rw [q2.g (c := 1) (i := 10) (by decide), q1.g (c := 1) (i := 10) (by decide), q2.g (c := 61) (i := 15) (by decide), q1.g (c := 61) (i := 15) (by decide)]
      exact hE.2.2.2.2.2.2.2.2.2
  refine lv_pop hx hb (kd_at lt_12_d 25 rfl) rfl ?_
  refine lv_goto (tgt := 1505) hx hb (kd_at lt_12_d 26 rfl) rfl ?_
  exact W.widen (by omega) (by omega) (kend H2 locs2 w2 ls hH2 hE2 hl)
def lt_13 : List (Nat × Instr × Nat) := [(660, .aload_n 1, 1), (661, .aload_n 0, 1), (662, .iload 4, 2), (664, .iconst 1, 1), (665, .iadd, 1), (666, .iaload, 1), (667, .invokevirtual 77, 3), (670, .pop, 1), (671, .aload_n 2, 1), (672, .aload_n 0, 1), (673, .iload 4, 2), (675, .iconst 1, 1), (676, .iadd, 1), (677, .iaload, 1), (678, .invokevirtual 80, 3), (681, .pop, 1), (682, .goto 823, 3)]
set_option maxRecDepth 100000 in
theorem lt_13_d : (lt_13.all fun q => decide (decode code q.1 = .ok (q.2.1, q.2.2))) = true := by decide +kernel
theorem ll_x13 : Cond.methodLink "ReadBoundLaw" 77 mn_123 ∈ lw_tbl := List.mem_of_getElem? (i := 806) (by decide +kernel)
theorem ll_m13 : Cond.methodLink "ReadBoundLaw" 80 mn_235 ∈ lw_tbl := List.mem_of_getElem? (i := 1636) (by decide +kernel)
set_option maxRecDepth 100000 in
theorem lc_case13 {p : Program} {l : Launch} {e : Env} {s : State} {m : MethodId} {below : List Frame} {meth : Method} {c : Code} {Q : State → Prop} {D : va_G} {cA : Nat → ClassId} {sa sv : Nat} {ad : Nat → Nat} {b N oq : Nat} {xs : Nat → Int32} {cu su : Nat} {H : Heap} {locs : List Loc} {ls : Array Slot} {w : pi_W} {i : Nat} (hG : lw_G p s m c meth D cA sa sv ad b N oq xs) (hH : lw_H s D cA ad oq w H locs) (hE : lw_e w) (hl : lv_has ls 7 (lw_L ad b oq i)) (hi : i + 6 ≤ N) (hcu : cu + 6 ≤ 601024) (hsu : su + 36 ≤ 7293034) (kend : ∀ (H1 : Heap) (locs1 : List Loc) (w1 : pi_W) (ls1 : Array Slot), lw_H s D cA ad oq w1 H1 locs1 → lw_e w1 → lv_has ls1 7 (lw_L ad b oq i) → W p l e room_1 s m #[Value.ref b] below meth c H1 locs1 (cu + 6) (su + 36) Q (F0 m 1505 ls1 [])) : W p l e room_1 s m #[Value.ref b] below meth c H locs cu su Q (F0 m 660 ls []) := by
  obtain ⟨hI, hP, hD, hS, ho1, ho2, hof⟩ := id hH
  have C := hG.1
  have hsa := hG.2.1
  have hx := C.1
  have hb := C.2.1
  obtain ⟨e0, he0, fs0, rfl, -, -⟩ := hI.1.at (a := 0) (c := .inr (10, _)) rfl
  refine lv_aload_n hx hb (kd_at lt_13_d 0 rfl) rfl (lv_at hl 1 rfl) ?_
  refine lw_push (j := 1) (jj := 1) hG hS hl (by omega) rfl (kd_at lt_13_d 1 rfl) (kd_at lt_13_d 2 rfl) (kd_at lt_13_d 3 rfl) (kd_at lt_13_d 4 rfl) (kd_at lt_13_d 5 rfl) ?_
  refine lw_hq C hsa (z := 123) (na := 1) (cp := 77) (a := 0) (As := [.int (xs (i + 1))]) (d := 24) (restM := []) pz_123 lk_x13 ll_x13 rfl he0 (Nat.le_of_ble_eq_true rfl) (by decide) rfl (lx_13 hI (xs (i + 1))) (fun r w' q => by rw [q.1.1.1.1, hI.1.1]) hP hD hS hl.1 (by decide) (by decide) (by show cu ≤ 601024; omega) (by show su ≤ 7293034; omega) (by decide) (kd_at lt_13_d 6 rfl) ?_
  rintro r1 w1 H1 locs1 ⟨⟨hI1, q1⟩, v1, rfl⟩ hP1 hD1 hS1 hz1 hk1
  have hH1 := lw_oq hG hH hI1 hP1 hD1 hS1 hz1 hk1
  have x12 : gI w1 1 2 = gI w 1 2 := q1.g (by decide)
  have x612 : gI w1 61 2 = gI w 61 2 := q1.g (by decide)
  have x383 : gI w1 38 3 = gI w 38 3 := q1.g (by decide)
  have x493 : gI w1 49 3 = gI w 49 3 := q1.g (by decide)
  have x780 : gI w1 78 0 = gI w 78 0 := q1.g (by decide)
  have x781 : gI w1 78 1 = gI w 78 1 := q1.g (by decide)
  obtain ⟨e1, he1, fs1, rfl, -, -⟩ := hI1.1.at (a := 61) (c := .inr (11, _)) rfl
  refine lv_pop hx hb (kd_at lt_13_d 7 rfl) rfl ?_
  refine lv_aload_n hx hb (kd_at lt_13_d 8 rfl) rfl (lv_at hl 2 rfl) ?_
  refine lw_push (j := 1) (jj := 1) hG hS1 hl (by omega) rfl (kd_at lt_13_d 9 rfl) (kd_at lt_13_d 10 rfl) (kd_at lt_13_d 11 rfl) (kd_at lt_13_d 12 rfl) (kd_at lt_13_d 13 rfl) ?_
  refine lw_hq C hsa (z := 235) (na := 1) (cp := 80) (a := 61) (As := [.int (xs (i + 1))]) (d := 24) (restM := []) pz_235 lk_m13 ll_m13 rfl he1 (Nat.le_of_ble_eq_true rfl) (by decide) rfl (lm_13 hI1 (xs (i + 1))) (fun r w' q => by rw [q.1.1.1.1, hI1.1.1]) hP1 hD1 hS1 hl.1 (by decide) (by decide) (by show cu ≤ 601024; omega) (by show su ≤ 7293034; omega) (by decide) (kd_at lt_13_d 14 rfl) ?_
  rintro r2 w2 H2 locs2 ⟨⟨hI2, q2⟩, v2, rfl⟩ hP2 hD2 hS2 hz2 hk2
  have hH2 := lw_oq hG hH1 hI2 hP2 hD2 hS2 hz2 hk2
  have m12 : gI w2 1 2 = gI w1 1 2 := q2.g (by decide)
  have m612 : gI w2 61 2 = gI w1 61 2 := q2.g (by decide)
  have m383 : gI w2 38 3 = gI w1 38 3 := q2.g (by decide)
  have m493 : gI w2 49 3 = gI w1 49 3 := q2.g (by decide)
  have m780 : gI w2 78 0 = gI w1 78 0 := q2.g (by decide)
  have m781 : gI w2 78 1 = gI w1 78 1 := q2.g (by decide)
  have hE2 : lw_e w2 := by
    refine ⟨?_, ?_, ?_, fun n hn => ?_, fun k hk => ?_, fun k hk => ?_, ?_, ?_, ?_, ?_⟩
    · rw [m12, x12, m612, x612, hE.1]
    · rw [m383, x383, m780, x780, hE.2.1]
    · rw [m493, x493, m781, x781, hE.2.2.1]
    · rw [q2.gv (c := 2) (k := 940) (by decide) hn, q1.gv (c := 2) (k := 940) (by decide) hn, q2.gv (c := 62) (k := 940) (by decide) hn, q1.gv (c := 62) (k := 940) (by decide) hn]
      exact hE.2.2.2.1 n hn
    · rw [q2.gl (c := 3) (k := 29) (by decide) hk, q1.gl (c := 3) (k := 29) (by decide) hk]
      exact hE.2.2.2.2.1 k hk
    · rw [q2.gl (c := 67) (k := 29) (by decide) hk, q1.gl (c := 67) (k := 29) (by decide) hk]
      exact hE.2.2.2.2.2.1 k hk
    · exact hE.2.2.2.2.2.2.1.cp ((q1.CP (fa := 5) (na := 6) (by decide) (by decide)).tr (q2.CP (fa := 5) (na := 6) (by decide) (by decide))) ((q1.MP (sa := 63) (so := 0) (ma := 66) (mo := 0) (N := 115) (M := 27) (by decide) (by decide) (by decide) (by decide)).tr (q2.MP (sa := 63) (so := 0) (ma := 66) (mo := 0) (N := 115) (M := 27) (by decide) (by decide) (by decide) (by decide)))
    · exact hE.2.2.2.2.2.2.2.1.cp ((q1.CP (fa := 40) (na := 41) (by decide) (by decide)).tr (q2.CP (fa := 40) (na := 41) (by decide) (by decide))) ((q1.MP (sa := 76) (so := 0) (ma := 77) (mo := 0) (N := 822) (M := 54) (by decide) (by decide) (by decide) (by decide)).tr (q2.MP (sa := 76) (so := 0) (ma := 77) (mo := 0) (N := 822) (M := 54) (by decide) (by decide) (by decide) (by decide)))
    · exact hE.2.2.2.2.2.2.2.2.1.cp ((q1.CP (fa := 51) (na := 52) (by decide) (by decide)).tr (q2.CP (fa := 51) (na := 52) (by decide) (by decide))) ((q1.MP (sa := 76) (so := 411) (ma := 77) (mo := 27) (N := 822) (M := 54) (by decide) (by decide) (by decide) (by decide)).tr (q2.MP (sa := 76) (so := 411) (ma := 77) (mo := 27) (N := 822) (M := 54) (by decide) (by decide) (by decide) (by decide)))
    · unfold ft_e
      rw [q2.g (c := 1) (i := 10) (by decide), q1.g (c := 1) (i := 10) (by decide), q2.g (c := 61) (i := 15) (by decide), q1.g (c := 61) (i := 15) (by decide)]
      exact hE.2.2.2.2.2.2.2.2.2
  refine lv_pop hx hb (kd_at lt_13_d 15 rfl) rfl ?_
  refine lv_goto (tgt := 1505) hx hb (kd_at lt_13_d 16 rfl) rfl ?_
  exact W.widen (by omega) (by omega) (kend H2 locs2 w2 ls hH2 hE2 hl)
def lt_14 : List (Nat × Instr × Nat) := [(685, .aload_n 1, 1), (686, .aload_n 0, 1), (687, .iload 4, 2), (689, .iconst 1, 1), (690, .iadd, 1), (691, .iaload, 1), (692, .invokevirtual 81, 3), (695, .pop, 1), (696, .aload_n 2, 1), (697, .aload_n 0, 1), (698, .iload 4, 2), (700, .iconst 1, 1), (701, .iadd, 1), (702, .iaload, 1), (703, .invokevirtual 84, 3), (706, .pop, 1), (707, .goto 798, 3)]
set_option maxRecDepth 100000 in
theorem lt_14_d : (lt_14.all fun q => decide (decode code q.1 = .ok (q.2.1, q.2.2))) = true := by decide +kernel
theorem ll_x14 : Cond.methodLink "ReadBoundLaw" 81 mn_124 ∈ lw_tbl := List.mem_of_getElem? (i := 810) (by decide +kernel)
theorem ll_m14 : Cond.methodLink "ReadBoundLaw" 84 mn_236 ∈ lw_tbl := List.mem_of_getElem? (i := 1648) (by decide +kernel)
set_option maxRecDepth 100000 in
theorem lc_case14 {p : Program} {l : Launch} {e : Env} {s : State} {m : MethodId} {below : List Frame} {meth : Method} {c : Code} {Q : State → Prop} {D : va_G} {cA : Nat → ClassId} {sa sv : Nat} {ad : Nat → Nat} {b N oq : Nat} {xs : Nat → Int32} {cu su : Nat} {H : Heap} {locs : List Loc} {ls : Array Slot} {w : pi_W} {i : Nat} (hG : lw_G p s m c meth D cA sa sv ad b N oq xs) (hH : lw_H s D cA ad oq w H locs) (hE : lw_e w) (hl : lv_has ls 7 (lw_L ad b oq i)) (hi : i + 6 ≤ N) (hcu : cu + 6 ≤ 601024) (hsu : su + 36 ≤ 7293034) (kend : ∀ (H1 : Heap) (locs1 : List Loc) (w1 : pi_W) (ls1 : Array Slot), lw_H s D cA ad oq w1 H1 locs1 → lw_e w1 → lv_has ls1 7 (lw_L ad b oq i) → W p l e room_1 s m #[Value.ref b] below meth c H1 locs1 (cu + 6) (su + 36) Q (F0 m 1505 ls1 [])) : W p l e room_1 s m #[Value.ref b] below meth c H locs cu su Q (F0 m 685 ls []) := by
  obtain ⟨hI, hP, hD, hS, ho1, ho2, hof⟩ := id hH
  have C := hG.1
  have hsa := hG.2.1
  have hx := C.1
  have hb := C.2.1
  obtain ⟨e0, he0, fs0, rfl, -, -⟩ := hI.1.at (a := 0) (c := .inr (10, _)) rfl
  refine lv_aload_n hx hb (kd_at lt_14_d 0 rfl) rfl (lv_at hl 1 rfl) ?_
  refine lw_push (j := 1) (jj := 1) hG hS hl (by omega) rfl (kd_at lt_14_d 1 rfl) (kd_at lt_14_d 2 rfl) (kd_at lt_14_d 3 rfl) (kd_at lt_14_d 4 rfl) (kd_at lt_14_d 5 rfl) ?_
  refine lw_hq C hsa (z := 124) (na := 1) (cp := 81) (a := 0) (As := [.int (xs (i + 1))]) (d := 24) (restM := []) pz_124 lk_x14 ll_x14 rfl he0 (Nat.le_of_ble_eq_true rfl) (by decide) rfl (lx_14 hI (xs (i + 1))) (fun r w' q => by rw [q.1.1.1.1, hI.1.1]) hP hD hS hl.1 (by decide) (by decide) (by show cu ≤ 601024; omega) (by show su ≤ 7293034; omega) (by decide) (kd_at lt_14_d 6 rfl) ?_
  rintro r1 w1 H1 locs1 ⟨⟨hI1, q1⟩, v1, rfl⟩ hP1 hD1 hS1 hz1 hk1
  have hH1 := lw_oq hG hH hI1 hP1 hD1 hS1 hz1 hk1
  have x12 : gI w1 1 2 = gI w 1 2 := q1.g (by decide)
  have x612 : gI w1 61 2 = gI w 61 2 := q1.g (by decide)
  have x383 : gI w1 38 3 = gI w 38 3 := q1.g (by decide)
  have x493 : gI w1 49 3 = gI w 49 3 := q1.g (by decide)
  have x780 : gI w1 78 0 = gI w 78 0 := q1.g (by decide)
  have x781 : gI w1 78 1 = gI w 78 1 := q1.g (by decide)
  obtain ⟨e1, he1, fs1, rfl, -, -⟩ := hI1.1.at (a := 61) (c := .inr (11, _)) rfl
  refine lv_pop hx hb (kd_at lt_14_d 7 rfl) rfl ?_
  refine lv_aload_n hx hb (kd_at lt_14_d 8 rfl) rfl (lv_at hl 2 rfl) ?_
  refine lw_push (j := 1) (jj := 1) hG hS1 hl (by omega) rfl (kd_at lt_14_d 9 rfl) (kd_at lt_14_d 10 rfl) (kd_at lt_14_d 11 rfl) (kd_at lt_14_d 12 rfl) (kd_at lt_14_d 13 rfl) ?_
  refine lw_hq C hsa (z := 236) (na := 1) (cp := 84) (a := 61) (As := [.int (xs (i + 1))]) (d := 24) (restM := []) pz_236 lk_m14 ll_m14 rfl he1 (Nat.le_of_ble_eq_true rfl) (by decide) rfl (lm_14 hI1 (xs (i + 1))) (fun r w' q => by rw [q.1.1.1.1, hI1.1.1]) hP1 hD1 hS1 hl.1 (by decide) (by decide) (by show cu ≤ 601024; omega) (by show su ≤ 7293034; omega) (by decide) (kd_at lt_14_d 14 rfl) ?_
  rintro r2 w2 H2 locs2 ⟨⟨hI2, q2⟩, v2, rfl⟩ hP2 hD2 hS2 hz2 hk2
  have hH2 := lw_oq hG hH1 hI2 hP2 hD2 hS2 hz2 hk2
  have m12 : gI w2 1 2 = gI w1 1 2 := q2.g (by decide)
  have m612 : gI w2 61 2 = gI w1 61 2 := q2.g (by decide)
  have m383 : gI w2 38 3 = gI w1 38 3 := q2.g (by decide)
  have m493 : gI w2 49 3 = gI w1 49 3 := q2.g (by decide)
  have m780 : gI w2 78 0 = gI w1 78 0 := q2.g (by decide)
  have m781 : gI w2 78 1 = gI w1 78 1 := q2.g (by decide)
  have hE2 : lw_e w2 := by
    refine ⟨?_, ?_, ?_, fun n hn => ?_, fun k hk => ?_, fun k hk => ?_, ?_, ?_, ?_, ?_⟩
    · rw [m12, x12, m612, x612, hE.1]
    · rw [m383, x383, m780, x780, hE.2.1]
    · rw [m493, x493, m781, x781, hE.2.2.1]
    · rw [q2.gv (c := 2) (k := 940) (by decide) hn, q1.gv (c := 2) (k := 940) (by decide) hn, q2.gv (c := 62) (k := 940) (by decide) hn, q1.gv (c := 62) (k := 940) (by decide) hn]
      exact hE.2.2.2.1 n hn
    · rw [q2.gl (c := 3) (k := 29) (by decide) hk, q1.gl (c := 3) (k := 29) (by decide) hk]
      exact hE.2.2.2.2.1 k hk
    · rw [q2.gl (c := 67) (k := 29) (by decide) hk, q1.gl (c := 67) (k := 29) (by decide) hk]
      exact hE.2.2.2.2.2.1 k hk
    · exact hE.2.2.2.2.2.2.1.cp ((q1.CP (fa := 5) (na := 6) (by decide) (by decide)).tr (q2.CP (fa := 5) (na := 6) (by decide) (by decide))) ((q1.MP (sa := 63) (so := 0) (ma := 66) (mo := 0) (N := 115) (M := 27) (by decide) (by decide) (by decide) (by decide)).tr (q2.MP (sa := 63) (so := 0) (ma := 66) (mo := 0) (N := 115) (M := 27) (by decide) (by decide) (by decide) (by decide)))
    · exact hE.2.2.2.2.2.2.2.1.cp ((q1.CP (fa := 40) (na := 41) (by decide) (by decide)).tr (q2.CP (fa := 40) (na := 41) (by decide) (by decide))) ((q1.MP (sa := 76) (so := 0) (ma := 77) (mo := 0) (N := 822) (M := 54) (by decide) (by decide) (by decide) (by decide)).tr (q2.MP (sa := 76) (so := 0) (ma := 77) (mo := 0) (N := 822) (M := 54) (by decide) (by decide) (by decide) (by decide)))
    · exact hE.2.2.2.2.2.2.2.2.1.cp ((q1.CP (fa := 51) (na := 52) (by decide) (by decide)).tr (q2.CP (fa := 51) (na := 52) (by decide) (by decide))) ((q1.MP (sa := 76) (so := 411) (ma := 77) (mo := 27) (N := 822) (M := 54) (by decide) (by decide) (by decide) (by decide)).tr (q2.MP (sa := 76) (so := 411) (ma := 77) (mo := 27) (N := 822) (M := 54) (by decide) (by decide) (by decide) (by decide)))
    · unfold ft_e
      rw [q2.g (c := 1) (i := 10) (by decide), q1.g (c := 1) (i := 10) (by decide), q2.g (c := 61) (i := 15) (by decide), q1.g (c := 61) (i := 15) (by decide)]
      exact hE.2.2.2.2.2.2.2.2.2
  refine lv_pop hx hb (kd_at lt_14_d 15 rfl) rfl ?_
  refine lv_goto (tgt := 1505) hx hb (kd_at lt_14_d 16 rfl) rfl ?_
  exact W.widen (by omega) (by omega) (kend H2 locs2 w2 ls hH2 hE2 hl)
def lt_15 : List (Nat × Instr × Nat) := [(710, .aload_n 1, 1), (711, .invokevirtual 85, 3), (714, .pop, 1), (715, .aload_n 2, 1), (716, .invokevirtual 88, 3), (719, .pop, 1), (720, .goto 785, 3)]
set_option maxRecDepth 100000 in
theorem lt_15_d : (lt_15.all fun q => decide (decode code q.1 = .ok (q.2.1, q.2.2))) = true := by decide +kernel
theorem ll_x15 : Cond.methodLink "ReadBoundLaw" 85 mn_125 ∈ lw_tbl := List.mem_of_getElem? (i := 826) (by decide +kernel)
theorem ll_m15 : Cond.methodLink "ReadBoundLaw" 88 mn_238 ∈ lw_tbl := List.mem_of_getElem? (i := 1664) (by decide +kernel)
set_option maxRecDepth 100000 in
theorem lc_case15 {p : Program} {l : Launch} {e : Env} {s : State} {m : MethodId} {below : List Frame} {meth : Method} {c : Code} {Q : State → Prop} {D : va_G} {cA : Nat → ClassId} {sa sv : Nat} {ad : Nat → Nat} {b N oq : Nat} {xs : Nat → Int32} {cu su : Nat} {H : Heap} {locs : List Loc} {ls : Array Slot} {w : pi_W} {i : Nat} (hG : lw_G p s m c meth D cA sa sv ad b N oq xs) (hH : lw_H s D cA ad oq w H locs) (hE : lw_e w) (hl : lv_has ls 7 (lw_L ad b oq i)) (hi : i + 6 ≤ N) (hcu : cu + 6 ≤ 601024) (hsu : su + 36 ≤ 7293034) (kend : ∀ (H1 : Heap) (locs1 : List Loc) (w1 : pi_W) (ls1 : Array Slot), lw_H s D cA ad oq w1 H1 locs1 → lw_e w1 → lv_has ls1 7 (lw_L ad b oq i) → W p l e room_1 s m #[Value.ref b] below meth c H1 locs1 (cu + 6) (su + 36) Q (F0 m 1505 ls1 [])) : W p l e room_1 s m #[Value.ref b] below meth c H locs cu su Q (F0 m 710 ls []) := by
  obtain ⟨hI, hP, hD, hS, ho1, ho2, hof⟩ := id hH
  have C := hG.1
  have hsa := hG.2.1
  have hx := C.1
  have hb := C.2.1
  obtain ⟨e0, he0, fs0, rfl, -, -⟩ := hI.1.at (a := 0) (c := .inr (10, _)) rfl
  refine lv_aload_n hx hb (kd_at lt_15_d 0 rfl) rfl (lv_at hl 1 rfl) ?_
  refine lw_hq C hsa (z := 125) (na := 0) (cp := 85) (a := 0) (As := []) (d := 24) (restM := []) pz_125 lk_x15 ll_x15 rfl he0 (Nat.le_of_ble_eq_true rfl) (by decide) rfl (lx_15 hI) (fun r w' q => by rw [q.1.1.1.1, hI.1.1]) hP hD hS hl.1 (by decide) (by decide) (by show cu ≤ 601024; omega) (by show su ≤ 7293034; omega) (by decide) (kd_at lt_15_d 1 rfl) ?_
  rintro r1 w1 H1 locs1 ⟨⟨hI1, q1⟩, v1, rfl⟩ hP1 hD1 hS1 hz1 hk1
  have hH1 := lw_oq hG hH hI1 hP1 hD1 hS1 hz1 hk1
  have x12 : gI w1 1 2 = gI w 1 2 := q1.g (by decide)
  have x612 : gI w1 61 2 = gI w 61 2 := q1.g (by decide)
  have x383 : gI w1 38 3 = gI w 38 3 := q1.g (by decide)
  have x493 : gI w1 49 3 = gI w 49 3 := q1.g (by decide)
  have x780 : gI w1 78 0 = gI w 78 0 := q1.g (by decide)
  have x781 : gI w1 78 1 = gI w 78 1 := q1.g (by decide)
  obtain ⟨e1, he1, fs1, rfl, -, -⟩ := hI1.1.at (a := 61) (c := .inr (11, _)) rfl
  refine lv_pop hx hb (kd_at lt_15_d 2 rfl) rfl ?_
  refine lv_aload_n hx hb (kd_at lt_15_d 3 rfl) rfl (lv_at hl 2 rfl) ?_
  refine lw_hq C hsa (z := 238) (na := 0) (cp := 88) (a := 61) (As := []) (d := 24) (restM := []) pz_238 lk_m15 ll_m15 rfl he1 (Nat.le_of_ble_eq_true rfl) (by decide) rfl (lm_15 hI1) (fun r w' q => by rw [q.1.1.1.1, hI1.1.1]) hP1 hD1 hS1 hl.1 (by decide) (by decide) (by show cu ≤ 601024; omega) (by show su ≤ 7293034; omega) (by decide) (kd_at lt_15_d 4 rfl) ?_
  rintro r2 w2 H2 locs2 ⟨⟨hI2, q2⟩, v2, rfl⟩ hP2 hD2 hS2 hz2 hk2
  have hH2 := lw_oq hG hH1 hI2 hP2 hD2 hS2 hz2 hk2
  have m12 : gI w2 1 2 = gI w1 1 2 := q2.g (by decide)
  have m612 : gI w2 61 2 = gI w1 61 2 := q2.g (by decide)
  have m383 : gI w2 38 3 = gI w1 38 3 := q2.g (by decide)
  have m493 : gI w2 49 3 = gI w1 49 3 := q2.g (by decide)
  have m780 : gI w2 78 0 = gI w1 78 0 := q2.g (by decide)
  have m781 : gI w2 78 1 = gI w1 78 1 := q2.g (by decide)
  have hE2 : lw_e w2 := by
    refine ⟨?_, ?_, ?_, fun n hn => ?_, fun k hk => ?_, fun k hk => ?_, ?_, ?_, ?_, ?_⟩
    · rw [m12, x12, m612, x612, hE.1]
    · rw [m383, x383, m780, x780, hE.2.1]
    · rw [m493, x493, m781, x781, hE.2.2.1]
    · rw [q2.gv (c := 2) (k := 940) (by decide) hn, q1.gv (c := 2) (k := 940) (by decide) hn, q2.gv (c := 62) (k := 940) (by decide) hn, q1.gv (c := 62) (k := 940) (by decide) hn]
      exact hE.2.2.2.1 n hn
    · rw [q2.gl (c := 3) (k := 29) (by decide) hk, q1.gl (c := 3) (k := 29) (by decide) hk]
      exact hE.2.2.2.2.1 k hk
    · rw [q2.gl (c := 67) (k := 29) (by decide) hk, q1.gl (c := 67) (k := 29) (by decide) hk]
      exact hE.2.2.2.2.2.1 k hk
    · exact hE.2.2.2.2.2.2.1.cp ((q1.CP (fa := 5) (na := 6) (by decide) (by decide)).tr (q2.CP (fa := 5) (na := 6) (by decide) (by decide))) ((q1.MP (sa := 63) (so := 0) (ma := 66) (mo := 0) (N := 115) (M := 27) (by decide) (by decide) (by decide) (by decide)).tr (q2.MP (sa := 63) (so := 0) (ma := 66) (mo := 0) (N := 115) (M := 27) (by decide) (by decide) (by decide) (by decide)))
    · exact hE.2.2.2.2.2.2.2.1.cp ((q1.CP (fa := 40) (na := 41) (by decide) (by decide)).tr (q2.CP (fa := 40) (na := 41) (by decide) (by decide))) ((q1.MP (sa := 76) (so := 0) (ma := 77) (mo := 0) (N := 822) (M := 54) (by decide) (by decide) (by decide) (by decide)).tr (q2.MP (sa := 76) (so := 0) (ma := 77) (mo := 0) (N := 822) (M := 54) (by decide) (by decide) (by decide) (by decide)))
    · exact hE.2.2.2.2.2.2.2.2.1.cp ((q1.CP (fa := 51) (na := 52) (by decide) (by decide)).tr (q2.CP (fa := 51) (na := 52) (by decide) (by decide))) ((q1.MP (sa := 76) (so := 411) (ma := 77) (mo := 27) (N := 822) (M := 54) (by decide) (by decide) (by decide) (by decide)).tr (q2.MP (sa := 76) (so := 411) (ma := 77) (mo := 27) (N := 822) (M := 54) (by decide) (by decide) (by decide) (by decide)))
    · unfold ft_e
      rw [q2.g (c := 1) (i := 10) (by decide), q1.g (c := 1) (i := 10) (by decide), q2.g (c := 61) (i := 15) (by decide), q1.g (c := 61) (i := 15) (by decide)]
      exact hE.2.2.2.2.2.2.2.2.2
  refine lv_pop hx hb (kd_at lt_15_d 5 rfl) rfl ?_
  refine lv_goto (tgt := 1505) hx hb (kd_at lt_15_d 6 rfl) rfl ?_
  exact W.widen (by omega) (by omega) (kend H2 locs2 w2 ls hH2 hE2 hl)
def lt_16 : List (Nat × Instr × Nat) := [(723, .aload_n 1, 1), (724, .aload_n 0, 1), (725, .iload 4, 2), (727, .iconst 1, 1), (728, .iadd, 1), (729, .iaload, 1), (730, .aload_n 0, 1), (731, .iload 4, 2), (733, .iconst 2, 1), (734, .iadd, 1), (735, .iaload, 1), (736, .invokevirtual 89, 3), (739, .pop, 1), (740, .aload_n 2, 1), (741, .aload_n 0, 1), (742, .iload 4, 2), (744, .iconst 1, 1), (745, .iadd, 1), (746, .iaload, 1), (747, .aload_n 0, 1), (748, .iload 4, 2), (750, .iconst 2, 1), (751, .iadd, 1), (752, .iaload, 1), (753, .invokevirtual 92, 3), (756, .pop, 1), (757, .goto 748, 3)]
set_option maxRecDepth 100000 in
theorem lt_16_d : (lt_16.all fun q => decide (decode code q.1 = .ok (q.2.1, q.2.2))) = true := by decide +kernel
theorem ll_x16 : Cond.methodLink "ReadBoundLaw" 89 mn_126 ∈ lw_tbl := List.mem_of_getElem? (i := 834) (by decide +kernel)
theorem ll_m16 : Cond.methodLink "ReadBoundLaw" 92 mn_241 ∈ lw_tbl := List.mem_of_getElem? (i := 1668) (by decide +kernel)
set_option maxRecDepth 100000 in
theorem lc_case16 {p : Program} {l : Launch} {e : Env} {s : State} {m : MethodId} {below : List Frame} {meth : Method} {c : Code} {Q : State → Prop} {D : va_G} {cA : Nat → ClassId} {sa sv : Nat} {ad : Nat → Nat} {b N oq : Nat} {xs : Nat → Int32} {cu su : Nat} {H : Heap} {locs : List Loc} {ls : Array Slot} {w : pi_W} {i : Nat} (hG : lw_G p s m c meth D cA sa sv ad b N oq xs) (hH : lw_H s D cA ad oq w H locs) (hE : lw_e w) (hl : lv_has ls 7 (lw_L ad b oq i)) (hi : i + 6 ≤ N) (hcu : cu + 6 ≤ 601024) (hsu : su + 36 ≤ 7293034) (kend : ∀ (H1 : Heap) (locs1 : List Loc) (w1 : pi_W) (ls1 : Array Slot), lw_H s D cA ad oq w1 H1 locs1 → lw_e w1 → lv_has ls1 7 (lw_L ad b oq i) → W p l e room_1 s m #[Value.ref b] below meth c H1 locs1 (cu + 6) (su + 36) Q (F0 m 1505 ls1 [])) : W p l e room_1 s m #[Value.ref b] below meth c H locs cu su Q (F0 m 723 ls []) := by
  obtain ⟨hI, hP, hD, hS, ho1, ho2, hof⟩ := id hH
  have C := hG.1
  have hsa := hG.2.1
  have hx := C.1
  have hb := C.2.1
  obtain ⟨e0, he0, fs0, rfl, -, -⟩ := hI.1.at (a := 0) (c := .inr (10, _)) rfl
  refine lv_aload_n hx hb (kd_at lt_16_d 0 rfl) rfl (lv_at hl 1 rfl) ?_
  refine lw_push (j := 1) (jj := 1) hG hS hl (by omega) rfl (kd_at lt_16_d 1 rfl) (kd_at lt_16_d 2 rfl) (kd_at lt_16_d 3 rfl) (kd_at lt_16_d 4 rfl) (kd_at lt_16_d 5 rfl) ?_
  refine lw_push (j := 2) (jj := 2) hG hS hl (by omega) rfl (kd_at lt_16_d 6 rfl) (kd_at lt_16_d 7 rfl) (kd_at lt_16_d 8 rfl) (kd_at lt_16_d 9 rfl) (kd_at lt_16_d 10 rfl) ?_
  refine lw_hq C hsa (z := 126) (na := 2) (cp := 89) (a := 0) (As := [.int (xs (i + 1)), .int (xs (i + 2))]) (d := 24) (restM := []) pz_126 lk_x16 ll_x16 rfl he0 (Nat.le_of_ble_eq_true rfl) (by decide) rfl (lx_16 hI (xs (i + 1)) (xs (i + 2))) (fun r w' q => by rw [q.1.1.1.1, hI.1.1]) hP hD hS hl.1 (by decide) (by decide) (by show cu ≤ 601024; omega) (by show su ≤ 7293034; omega) (by decide) (kd_at lt_16_d 11 rfl) ?_
  rintro r1 w1 H1 locs1 ⟨⟨hI1, q1⟩, v1, rfl⟩ hP1 hD1 hS1 hz1 hk1
  have hH1 := lw_oq hG hH hI1 hP1 hD1 hS1 hz1 hk1
  have x12 : gI w1 1 2 = gI w 1 2 := q1.g (by decide)
  have x612 : gI w1 61 2 = gI w 61 2 := q1.g (by decide)
  have x383 : gI w1 38 3 = gI w 38 3 := q1.g (by decide)
  have x493 : gI w1 49 3 = gI w 49 3 := q1.g (by decide)
  have x780 : gI w1 78 0 = gI w 78 0 := q1.g (by decide)
  have x781 : gI w1 78 1 = gI w 78 1 := q1.g (by decide)
  obtain ⟨e1, he1, fs1, rfl, -, -⟩ := hI1.1.at (a := 61) (c := .inr (11, _)) rfl
  refine lv_pop hx hb (kd_at lt_16_d 12 rfl) rfl ?_
  refine lv_aload_n hx hb (kd_at lt_16_d 13 rfl) rfl (lv_at hl 2 rfl) ?_
  refine lw_push (j := 1) (jj := 1) hG hS1 hl (by omega) rfl (kd_at lt_16_d 14 rfl) (kd_at lt_16_d 15 rfl) (kd_at lt_16_d 16 rfl) (kd_at lt_16_d 17 rfl) (kd_at lt_16_d 18 rfl) ?_
  refine lw_push (j := 2) (jj := 2) hG hS1 hl (by omega) rfl (kd_at lt_16_d 19 rfl) (kd_at lt_16_d 20 rfl) (kd_at lt_16_d 21 rfl) (kd_at lt_16_d 22 rfl) (kd_at lt_16_d 23 rfl) ?_
  refine lw_hq C hsa (z := 241) (na := 2) (cp := 92) (a := 61) (As := [.int (xs (i + 1)), .int (xs (i + 2))]) (d := 24) (restM := []) pz_241 lk_m16 ll_m16 rfl he1 (Nat.le_of_ble_eq_true rfl) (by decide) rfl (lm_16 hI1 (xs (i + 1)) (xs (i + 2))) (fun r w' q => by rw [q.1.1.1.1, hI1.1.1]) hP1 hD1 hS1 hl.1 (by decide) (by decide) (by show cu ≤ 601024; omega) (by show su ≤ 7293034; omega) (by decide) (kd_at lt_16_d 24 rfl) ?_
  rintro r2 w2 H2 locs2 ⟨⟨hI2, q2⟩, v2, rfl⟩ hP2 hD2 hS2 hz2 hk2
  have hH2 := lw_oq hG hH1 hI2 hP2 hD2 hS2 hz2 hk2
  have m12 : gI w2 1 2 = gI w1 1 2 := q2.g (by decide)
  have m612 : gI w2 61 2 = gI w1 61 2 := q2.g (by decide)
  have m383 : gI w2 38 3 = gI w1 38 3 := q2.g (by decide)
  have m493 : gI w2 49 3 = gI w1 49 3 := q2.g (by decide)
  have m780 : gI w2 78 0 = gI w1 78 0 := q2.g (by decide)
  have m781 : gI w2 78 1 = gI w1 78 1 := q2.g (by decide)
  have hE2 : lw_e w2 := by
    refine ⟨?_, ?_, ?_, fun n hn => ?_, fun k hk => ?_, fun k hk => ?_, ?_, ?_, ?_, ?_⟩
    · rw [m12, x12, m612, x612, hE.1]
    · rw [m383, x383, m780, x780, hE.2.1]
    · rw [m493, x493, m781, x781, hE.2.2.1]
    · rw [q2.gv (c := 2) (k := 940) (by decide) hn, q1.gv (c := 2) (k := 940) (by decide) hn, q2.gv (c := 62) (k := 940) (by decide) hn, q1.gv (c := 62) (k := 940) (by decide) hn]
      exact hE.2.2.2.1 n hn
    · rw [q2.gl (c := 3) (k := 29) (by decide) hk, q1.gl (c := 3) (k := 29) (by decide) hk]
      exact hE.2.2.2.2.1 k hk
    · rw [q2.gl (c := 67) (k := 29) (by decide) hk, q1.gl (c := 67) (k := 29) (by decide) hk]
      exact hE.2.2.2.2.2.1 k hk
    · exact hE.2.2.2.2.2.2.1.cp ((q1.CP (fa := 5) (na := 6) (by decide) (by decide)).tr (q2.CP (fa := 5) (na := 6) (by decide) (by decide))) ((q1.MP (sa := 63) (so := 0) (ma := 66) (mo := 0) (N := 115) (M := 27) (by decide) (by decide) (by decide) (by decide)).tr (q2.MP (sa := 63) (so := 0) (ma := 66) (mo := 0) (N := 115) (M := 27) (by decide) (by decide) (by decide) (by decide)))
    · exact hE.2.2.2.2.2.2.2.1.cp ((q1.CP (fa := 40) (na := 41) (by decide) (by decide)).tr (q2.CP (fa := 40) (na := 41) (by decide) (by decide))) ((q1.MP (sa := 76) (so := 0) (ma := 77) (mo := 0) (N := 822) (M := 54) (by decide) (by decide) (by decide) (by decide)).tr (q2.MP (sa := 76) (so := 0) (ma := 77) (mo := 0) (N := 822) (M := 54) (by decide) (by decide) (by decide) (by decide)))
    · exact hE.2.2.2.2.2.2.2.2.1.cp ((q1.CP (fa := 51) (na := 52) (by decide) (by decide)).tr (q2.CP (fa := 51) (na := 52) (by decide) (by decide))) ((q1.MP (sa := 76) (so := 411) (ma := 77) (mo := 27) (N := 822) (M := 54) (by decide) (by decide) (by decide) (by decide)).tr (q2.MP (sa := 76) (so := 411) (ma := 77) (mo := 27) (N := 822) (M := 54) (by decide) (by decide) (by decide) (by decide)))
    · unfold ft_e
      rw [q2.g (c := 1) (i := 10) (by decide), q1.g (c := 1) (i := 10) (by decide), q2.g (c := 61) (i := 15) (by decide), q1.g (c := 61) (i := 15) (by decide)]
      exact hE.2.2.2.2.2.2.2.2.2
  refine lv_pop hx hb (kd_at lt_16_d 25 rfl) rfl ?_
  refine lv_goto (tgt := 1505) hx hb (kd_at lt_16_d 26 rfl) rfl ?_
  exact W.widen (by omega) (by omega) (kend H2 locs2 w2 ls hH2 hE2 hl)
def lt_17 : List (Nat × Instr × Nat) := [(760, .aload_n 1, 1), (761, .aload_n 0, 1), (762, .iload 4, 2), (764, .iconst 1, 1), (765, .iadd, 1), (766, .iaload, 1), (767, .aload_n 0, 1), (768, .iload 4, 2), (770, .iconst 2, 1), (771, .iadd, 1), (772, .iaload, 1), (773, .invokevirtual 93, 3), (776, .pop, 1), (777, .aload_n 2, 1), (778, .aload_n 0, 1), (779, .iload 4, 2), (781, .iconst 1, 1), (782, .iadd, 1), (783, .iaload, 1), (784, .aload_n 0, 1), (785, .iload 4, 2), (787, .iconst 2, 1), (788, .iadd, 1), (789, .iaload, 1), (790, .invokevirtual 96, 3), (793, .pop, 1), (794, .goto 711, 3)]
set_option maxRecDepth 100000 in
theorem lt_17_d : (lt_17.all fun q => decide (decode code q.1 = .ok (q.2.1, q.2.2))) = true := by decide +kernel
theorem ll_x17 : Cond.methodLink "ReadBoundLaw" 93 mn_127 ∈ lw_tbl := List.mem_of_getElem? (i := 843) (by decide +kernel)
theorem ll_m17 : Cond.methodLink "ReadBoundLaw" 96 mn_242 ∈ lw_tbl := List.mem_of_getElem? (i := 1672) (by decide +kernel)
set_option maxRecDepth 100000 in
theorem lc_case17 {p : Program} {l : Launch} {e : Env} {s : State} {m : MethodId} {below : List Frame} {meth : Method} {c : Code} {Q : State → Prop} {D : va_G} {cA : Nat → ClassId} {sa sv : Nat} {ad : Nat → Nat} {b N oq : Nat} {xs : Nat → Int32} {cu su : Nat} {H : Heap} {locs : List Loc} {ls : Array Slot} {w : pi_W} {i : Nat} (hG : lw_G p s m c meth D cA sa sv ad b N oq xs) (hH : lw_H s D cA ad oq w H locs) (hE : lw_e w) (hl : lv_has ls 7 (lw_L ad b oq i)) (hi : i + 6 ≤ N) (hcu : cu + 6 ≤ 601024) (hsu : su + 36 ≤ 7293034) (kend : ∀ (H1 : Heap) (locs1 : List Loc) (w1 : pi_W) (ls1 : Array Slot), lw_H s D cA ad oq w1 H1 locs1 → lw_e w1 → lv_has ls1 7 (lw_L ad b oq i) → W p l e room_1 s m #[Value.ref b] below meth c H1 locs1 (cu + 6) (su + 36) Q (F0 m 1505 ls1 [])) : W p l e room_1 s m #[Value.ref b] below meth c H locs cu su Q (F0 m 760 ls []) := by
  obtain ⟨hI, hP, hD, hS, ho1, ho2, hof⟩ := id hH
  have C := hG.1
  have hsa := hG.2.1
  have hx := C.1
  have hb := C.2.1
  obtain ⟨e0, he0, fs0, rfl, -, -⟩ := hI.1.at (a := 0) (c := .inr (10, _)) rfl
  refine lv_aload_n hx hb (kd_at lt_17_d 0 rfl) rfl (lv_at hl 1 rfl) ?_
  refine lw_push (j := 1) (jj := 1) hG hS hl (by omega) rfl (kd_at lt_17_d 1 rfl) (kd_at lt_17_d 2 rfl) (kd_at lt_17_d 3 rfl) (kd_at lt_17_d 4 rfl) (kd_at lt_17_d 5 rfl) ?_
  refine lw_push (j := 2) (jj := 2) hG hS hl (by omega) rfl (kd_at lt_17_d 6 rfl) (kd_at lt_17_d 7 rfl) (kd_at lt_17_d 8 rfl) (kd_at lt_17_d 9 rfl) (kd_at lt_17_d 10 rfl) ?_
  refine lw_hq C hsa (z := 127) (na := 2) (cp := 93) (a := 0) (As := [.int (xs (i + 1)), .int (xs (i + 2))]) (d := 24) (restM := []) pz_127 lk_x17 ll_x17 rfl he0 (Nat.le_of_ble_eq_true rfl) (by decide) rfl (lx_17 hI (xs (i + 1)) (xs (i + 2))) (fun r w' q => by rw [q.1.1.1.1, hI.1.1]) hP hD hS hl.1 (by decide) (by decide) (by show cu ≤ 601024; omega) (by show su ≤ 7293034; omega) (by decide) (kd_at lt_17_d 11 rfl) ?_
  rintro r1 w1 H1 locs1 ⟨⟨hI1, q1⟩, v1, rfl⟩ hP1 hD1 hS1 hz1 hk1
  have hH1 := lw_oq hG hH hI1 hP1 hD1 hS1 hz1 hk1
  have x12 : gI w1 1 2 = gI w 1 2 := q1.g (by decide)
  have x612 : gI w1 61 2 = gI w 61 2 := q1.g (by decide)
  have x383 : gI w1 38 3 = gI w 38 3 := q1.g (by decide)
  have x493 : gI w1 49 3 = gI w 49 3 := q1.g (by decide)
  have x780 : gI w1 78 0 = gI w 78 0 := q1.g (by decide)
  have x781 : gI w1 78 1 = gI w 78 1 := q1.g (by decide)
  obtain ⟨e1, he1, fs1, rfl, -, -⟩ := hI1.1.at (a := 61) (c := .inr (11, _)) rfl
  refine lv_pop hx hb (kd_at lt_17_d 12 rfl) rfl ?_
  refine lv_aload_n hx hb (kd_at lt_17_d 13 rfl) rfl (lv_at hl 2 rfl) ?_
  refine lw_push (j := 1) (jj := 1) hG hS1 hl (by omega) rfl (kd_at lt_17_d 14 rfl) (kd_at lt_17_d 15 rfl) (kd_at lt_17_d 16 rfl) (kd_at lt_17_d 17 rfl) (kd_at lt_17_d 18 rfl) ?_
  refine lw_push (j := 2) (jj := 2) hG hS1 hl (by omega) rfl (kd_at lt_17_d 19 rfl) (kd_at lt_17_d 20 rfl) (kd_at lt_17_d 21 rfl) (kd_at lt_17_d 22 rfl) (kd_at lt_17_d 23 rfl) ?_
  refine lw_hq C hsa (z := 242) (na := 2) (cp := 96) (a := 61) (As := [.int (xs (i + 1)), .int (xs (i + 2))]) (d := 24) (restM := []) pz_242 lk_m17 ll_m17 rfl he1 (Nat.le_of_ble_eq_true rfl) (by decide) rfl (lm_17 hI1 (xs (i + 1)) (xs (i + 2))) (fun r w' q => by rw [q.1.1.1.1, hI1.1.1]) hP1 hD1 hS1 hl.1 (by decide) (by decide) (by show cu ≤ 601024; omega) (by show su ≤ 7293034; omega) (by decide) (kd_at lt_17_d 24 rfl) ?_
  rintro r2 w2 H2 locs2 ⟨⟨hI2, q2⟩, v2, rfl⟩ hP2 hD2 hS2 hz2 hk2
  have hH2 := lw_oq hG hH1 hI2 hP2 hD2 hS2 hz2 hk2
  have m12 : gI w2 1 2 = gI w1 1 2 := q2.g (by decide)
  have m612 : gI w2 61 2 = gI w1 61 2 := q2.g (by decide)
  have m383 : gI w2 38 3 = gI w1 38 3 := q2.g (by decide)
  have m493 : gI w2 49 3 = gI w1 49 3 := q2.g (by decide)
  have m780 : gI w2 78 0 = gI w1 78 0 := q2.g (by decide)
  have m781 : gI w2 78 1 = gI w1 78 1 := q2.g (by decide)
  have hE2 : lw_e w2 := by
    refine ⟨?_, ?_, ?_, fun n hn => ?_, fun k hk => ?_, fun k hk => ?_, ?_, ?_, ?_, ?_⟩
    · rw [m12, x12, m612, x612, hE.1]
    · rw [m383, x383, m780, x780, hE.2.1]
    · rw [m493, x493, m781, x781, hE.2.2.1]
    · rw [q2.gv (c := 2) (k := 940) (by decide) hn, q1.gv (c := 2) (k := 940) (by decide) hn, q2.gv (c := 62) (k := 940) (by decide) hn, q1.gv (c := 62) (k := 940) (by decide) hn]
      exact hE.2.2.2.1 n hn
    · rw [q2.gl (c := 3) (k := 29) (by decide) hk, q1.gl (c := 3) (k := 29) (by decide) hk]
      exact hE.2.2.2.2.1 k hk
    · rw [q2.gl (c := 67) (k := 29) (by decide) hk, q1.gl (c := 67) (k := 29) (by decide) hk]
      exact hE.2.2.2.2.2.1 k hk
    · exact hE.2.2.2.2.2.2.1.cp ((q1.CP (fa := 5) (na := 6) (by decide) (by decide)).tr (q2.CP (fa := 5) (na := 6) (by decide) (by decide))) ((q1.MP (sa := 63) (so := 0) (ma := 66) (mo := 0) (N := 115) (M := 27) (by decide) (by decide) (by decide) (by decide)).tr (q2.MP (sa := 63) (so := 0) (ma := 66) (mo := 0) (N := 115) (M := 27) (by decide) (by decide) (by decide) (by decide)))
    · exact hE.2.2.2.2.2.2.2.1.cp ((q1.CP (fa := 40) (na := 41) (by decide) (by decide)).tr (q2.CP (fa := 40) (na := 41) (by decide) (by decide))) ((q1.MP (sa := 76) (so := 0) (ma := 77) (mo := 0) (N := 822) (M := 54) (by decide) (by decide) (by decide) (by decide)).tr (q2.MP (sa := 76) (so := 0) (ma := 77) (mo := 0) (N := 822) (M := 54) (by decide) (by decide) (by decide) (by decide)))
    · exact hE.2.2.2.2.2.2.2.2.1.cp ((q1.CP (fa := 51) (na := 52) (by decide) (by decide)).tr (q2.CP (fa := 51) (na := 52) (by decide) (by decide))) ((q1.MP (sa := 76) (so := 411) (ma := 77) (mo := 27) (N := 822) (M := 54) (by decide) (by decide) (by decide) (by decide)).tr (q2.MP (sa := 76) (so := 411) (ma := 77) (mo := 27) (N := 822) (M := 54) (by decide) (by decide) (by decide) (by decide)))
    · unfold ft_e
      rw [q2.g (c := 1) (i := 10) (by decide), q1.g (c := 1) (i := 10) (by decide), q2.g (c := 61) (i := 15) (by decide), q1.g (c := 61) (i := 15) (by decide)]
      exact hE.2.2.2.2.2.2.2.2.2
  refine lv_pop hx hb (kd_at lt_17_d 25 rfl) rfl ?_
  refine lv_goto (tgt := 1505) hx hb (kd_at lt_17_d 26 rfl) rfl ?_
  exact W.widen (by omega) (by omega) (kend H2 locs2 w2 ls hH2 hE2 hl)
def lt_18 : List (Nat × Instr × Nat) := [(797, .aload_n 1, 1), (798, .aload_n 0, 1), (799, .iload 4, 2), (801, .iconst 1, 1), (802, .iadd, 1), (803, .iaload, 1), (804, .invokevirtual 97, 3), (807, .pop, 1), (808, .aload_n 2, 1), (809, .aload_n 0, 1), (810, .iload 4, 2), (812, .iconst 1, 1), (813, .iadd, 1), (814, .iaload, 1), (815, .invokevirtual 100, 3), (818, .pop, 1), (819, .goto 686, 3)]
set_option maxRecDepth 100000 in
theorem lt_18_d : (lt_18.all fun q => decide (decode code q.1 = .ok (q.2.1, q.2.2))) = true := by decide +kernel
theorem ll_x18 : Cond.methodLink "ReadBoundLaw" 97 mn_128 ∈ lw_tbl := List.mem_of_getElem? (i := 848) (by decide +kernel)
theorem ll_m18 : Cond.methodLink "ReadBoundLaw" 100 mn_243 ∈ lw_tbl := List.mem_of_getElem? (i := 1676) (by decide +kernel)
set_option maxRecDepth 100000 in
theorem lc_case18 {p : Program} {l : Launch} {e : Env} {s : State} {m : MethodId} {below : List Frame} {meth : Method} {c : Code} {Q : State → Prop} {D : va_G} {cA : Nat → ClassId} {sa sv : Nat} {ad : Nat → Nat} {b N oq : Nat} {xs : Nat → Int32} {cu su : Nat} {H : Heap} {locs : List Loc} {ls : Array Slot} {w : pi_W} {i : Nat} (hG : lw_G p s m c meth D cA sa sv ad b N oq xs) (hH : lw_H s D cA ad oq w H locs) (hE : lw_e w) (hl : lv_has ls 7 (lw_L ad b oq i)) (hi : i + 6 ≤ N) (hcu : cu + 6 ≤ 601024) (hsu : su + 36 ≤ 7293034) (kend : ∀ (H1 : Heap) (locs1 : List Loc) (w1 : pi_W) (ls1 : Array Slot), lw_H s D cA ad oq w1 H1 locs1 → lw_e w1 → lv_has ls1 7 (lw_L ad b oq i) → W p l e room_1 s m #[Value.ref b] below meth c H1 locs1 (cu + 6) (su + 36) Q (F0 m 1505 ls1 [])) : W p l e room_1 s m #[Value.ref b] below meth c H locs cu su Q (F0 m 797 ls []) := by
  obtain ⟨hI, hP, hD, hS, ho1, ho2, hof⟩ := id hH
  have C := hG.1
  have hsa := hG.2.1
  have hx := C.1
  have hb := C.2.1
  obtain ⟨e0, he0, fs0, rfl, -, -⟩ := hI.1.at (a := 0) (c := .inr (10, _)) rfl
  refine lv_aload_n hx hb (kd_at lt_18_d 0 rfl) rfl (lv_at hl 1 rfl) ?_
  refine lw_push (j := 1) (jj := 1) hG hS hl (by omega) rfl (kd_at lt_18_d 1 rfl) (kd_at lt_18_d 2 rfl) (kd_at lt_18_d 3 rfl) (kd_at lt_18_d 4 rfl) (kd_at lt_18_d 5 rfl) ?_
  refine lw_hq C hsa (z := 128) (na := 1) (cp := 97) (a := 0) (As := [.int (xs (i + 1))]) (d := 24) (restM := []) pz_128 lk_x18 ll_x18 rfl he0 (Nat.le_of_ble_eq_true rfl) (by decide) rfl (lx_18 hI (xs (i + 1))) (fun r w' q => by rw [q.1.1.1.1, hI.1.1]) hP hD hS hl.1 (by decide) (by decide) (by show cu ≤ 601024; omega) (by show su ≤ 7293034; omega) (by decide) (kd_at lt_18_d 6 rfl) ?_
  rintro r1 w1 H1 locs1 ⟨⟨hI1, q1⟩, v1, rfl⟩ hP1 hD1 hS1 hz1 hk1
  have hH1 := lw_oq hG hH hI1 hP1 hD1 hS1 hz1 hk1
  have x12 : gI w1 1 2 = gI w 1 2 := q1.g (by decide)
  have x612 : gI w1 61 2 = gI w 61 2 := q1.g (by decide)
  have x383 : gI w1 38 3 = gI w 38 3 := q1.g (by decide)
  have x493 : gI w1 49 3 = gI w 49 3 := q1.g (by decide)
  have x780 : gI w1 78 0 = gI w 78 0 := q1.g (by decide)
  have x781 : gI w1 78 1 = gI w 78 1 := q1.g (by decide)
  obtain ⟨e1, he1, fs1, rfl, -, -⟩ := hI1.1.at (a := 61) (c := .inr (11, _)) rfl
  refine lv_pop hx hb (kd_at lt_18_d 7 rfl) rfl ?_
  refine lv_aload_n hx hb (kd_at lt_18_d 8 rfl) rfl (lv_at hl 2 rfl) ?_
  refine lw_push (j := 1) (jj := 1) hG hS1 hl (by omega) rfl (kd_at lt_18_d 9 rfl) (kd_at lt_18_d 10 rfl) (kd_at lt_18_d 11 rfl) (kd_at lt_18_d 12 rfl) (kd_at lt_18_d 13 rfl) ?_
  refine lw_hq C hsa (z := 243) (na := 1) (cp := 100) (a := 61) (As := [.int (xs (i + 1))]) (d := 24) (restM := []) pz_243 lk_m18 ll_m18 rfl he1 (Nat.le_of_ble_eq_true rfl) (by decide) rfl (lm_18 hI1 (xs (i + 1))) (fun r w' q => by rw [q.1.1.1.1, hI1.1.1]) hP1 hD1 hS1 hl.1 (by decide) (by decide) (by show cu ≤ 601024; omega) (by show su ≤ 7293034; omega) (by decide) (kd_at lt_18_d 14 rfl) ?_
  rintro r2 w2 H2 locs2 ⟨⟨hI2, q2⟩, v2, rfl⟩ hP2 hD2 hS2 hz2 hk2
  have hH2 := lw_oq hG hH1 hI2 hP2 hD2 hS2 hz2 hk2
  have m12 : gI w2 1 2 = gI w1 1 2 := q2.g (by decide)
  have m612 : gI w2 61 2 = gI w1 61 2 := q2.g (by decide)
  have m383 : gI w2 38 3 = gI w1 38 3 := q2.g (by decide)
  have m493 : gI w2 49 3 = gI w1 49 3 := q2.g (by decide)
  have m780 : gI w2 78 0 = gI w1 78 0 := q2.g (by decide)
  have m781 : gI w2 78 1 = gI w1 78 1 := q2.g (by decide)
  have hE2 : lw_e w2 := by
    refine ⟨?_, ?_, ?_, fun n hn => ?_, fun k hk => ?_, fun k hk => ?_, ?_, ?_, ?_, ?_⟩
    · rw [m12, x12, m612, x612, hE.1]
    · rw [m383, x383, m780, x780, hE.2.1]
    · rw [m493, x493, m781, x781, hE.2.2.1]
    · rw [q2.gv (c := 2) (k := 940) (by decide) hn, q1.gv (c := 2) (k := 940) (by decide) hn, q2.gv (c := 62) (k := 940) (by decide) hn, q1.gv (c := 62) (k := 940) (by decide) hn]
      exact hE.2.2.2.1 n hn
    · rw [q2.gl (c := 3) (k := 29) (by decide) hk, q1.gl (c := 3) (k := 29) (by decide) hk]
      exact hE.2.2.2.2.1 k hk
    · rw [q2.gl (c := 67) (k := 29) (by decide) hk, q1.gl (c := 67) (k := 29) (by decide) hk]
      exact hE.2.2.2.2.2.1 k hk
    · exact hE.2.2.2.2.2.2.1.cp ((q1.CP (fa := 5) (na := 6) (by decide) (by decide)).tr (q2.CP (fa := 5) (na := 6) (by decide) (by decide))) ((q1.MP (sa := 63) (so := 0) (ma := 66) (mo := 0) (N := 115) (M := 27) (by decide) (by decide) (by decide) (by decide)).tr (q2.MP (sa := 63) (so := 0) (ma := 66) (mo := 0) (N := 115) (M := 27) (by decide) (by decide) (by decide) (by decide)))
    · exact hE.2.2.2.2.2.2.2.1.cp ((q1.CP (fa := 40) (na := 41) (by decide) (by decide)).tr (q2.CP (fa := 40) (na := 41) (by decide) (by decide))) ((q1.MP (sa := 76) (so := 0) (ma := 77) (mo := 0) (N := 822) (M := 54) (by decide) (by decide) (by decide) (by decide)).tr (q2.MP (sa := 76) (so := 0) (ma := 77) (mo := 0) (N := 822) (M := 54) (by decide) (by decide) (by decide) (by decide)))
    · exact hE.2.2.2.2.2.2.2.2.1.cp ((q1.CP (fa := 51) (na := 52) (by decide) (by decide)).tr (q2.CP (fa := 51) (na := 52) (by decide) (by decide))) ((q1.MP (sa := 76) (so := 411) (ma := 77) (mo := 27) (N := 822) (M := 54) (by decide) (by decide) (by decide) (by decide)).tr (q2.MP (sa := 76) (so := 411) (ma := 77) (mo := 27) (N := 822) (M := 54) (by decide) (by decide) (by decide) (by decide)))
    · unfold ft_e
      rw [q2.g (c := 1) (i := 10) (by decide), q1.g (c := 1) (i := 10) (by decide), q2.g (c := 61) (i := 15) (by decide), q1.g (c := 61) (i := 15) (by decide)]
      exact hE.2.2.2.2.2.2.2.2.2
  refine lv_pop hx hb (kd_at lt_18_d 15 rfl) rfl ?_
  refine lv_goto (tgt := 1505) hx hb (kd_at lt_18_d 16 rfl) rfl ?_
  exact W.widen (by omega) (by omega) (kend H2 locs2 w2 ls hH2 hE2 hl)
def lt_19 : List (Nat × Instr × Nat) := [(822, .aload_n 1, 1), (823, .aload_n 0, 1), (824, .iload 4, 2), (826, .iconst 1, 1), (827, .iadd, 1), (828, .iaload, 1), (829, .invokevirtual 101, 3), (832, .pop, 1), (833, .aload_n 2, 1), (834, .aload_n 0, 1), (835, .iload 4, 2), (837, .iconst 1, 1), (838, .iadd, 1), (839, .iaload, 1), (840, .invokevirtual 104, 3), (843, .pop, 1), (844, .goto 661, 3)]
set_option maxRecDepth 100000 in
theorem lt_19_d : (lt_19.all fun q => decide (decode code q.1 = .ok (q.2.1, q.2.2))) = true := by decide +kernel
theorem ll_x19 : Cond.methodLink "ReadBoundLaw" 101 mn_129 ∈ lw_tbl := List.mem_of_getElem? (i := 853) (by decide +kernel)
theorem ll_m19 : Cond.methodLink "ReadBoundLaw" 104 mn_244 ∈ lw_tbl := List.mem_of_getElem? (i := 1680) (by decide +kernel)
set_option maxRecDepth 100000 in
theorem lc_case19 {p : Program} {l : Launch} {e : Env} {s : State} {m : MethodId} {below : List Frame} {meth : Method} {c : Code} {Q : State → Prop} {D : va_G} {cA : Nat → ClassId} {sa sv : Nat} {ad : Nat → Nat} {b N oq : Nat} {xs : Nat → Int32} {cu su : Nat} {H : Heap} {locs : List Loc} {ls : Array Slot} {w : pi_W} {i : Nat} (hG : lw_G p s m c meth D cA sa sv ad b N oq xs) (hH : lw_H s D cA ad oq w H locs) (hE : lw_e w) (hl : lv_has ls 7 (lw_L ad b oq i)) (hi : i + 6 ≤ N) (hcu : cu + 6 ≤ 601024) (hsu : su + 36 ≤ 7293034) (kend : ∀ (H1 : Heap) (locs1 : List Loc) (w1 : pi_W) (ls1 : Array Slot), lw_H s D cA ad oq w1 H1 locs1 → lw_e w1 → lv_has ls1 7 (lw_L ad b oq i) → W p l e room_1 s m #[Value.ref b] below meth c H1 locs1 (cu + 6) (su + 36) Q (F0 m 1505 ls1 [])) : W p l e room_1 s m #[Value.ref b] below meth c H locs cu su Q (F0 m 822 ls []) := by
  obtain ⟨hI, hP, hD, hS, ho1, ho2, hof⟩ := id hH
  have C := hG.1
  have hsa := hG.2.1
  have hx := C.1
  have hb := C.2.1
  obtain ⟨e0, he0, fs0, rfl, -, -⟩ := hI.1.at (a := 0) (c := .inr (10, _)) rfl
  refine lv_aload_n hx hb (kd_at lt_19_d 0 rfl) rfl (lv_at hl 1 rfl) ?_
  refine lw_push (j := 1) (jj := 1) hG hS hl (by omega) rfl (kd_at lt_19_d 1 rfl) (kd_at lt_19_d 2 rfl) (kd_at lt_19_d 3 rfl) (kd_at lt_19_d 4 rfl) (kd_at lt_19_d 5 rfl) ?_
  refine lw_hq C hsa (z := 129) (na := 1) (cp := 101) (a := 0) (As := [.int (xs (i + 1))]) (d := 24) (restM := []) pz_129 lk_x19 ll_x19 rfl he0 (Nat.le_of_ble_eq_true rfl) (by decide) rfl (lx_19 hI (xs (i + 1))) (fun r w' q => by rw [q.1.1.1.1, hI.1.1]) hP hD hS hl.1 (by decide) (by decide) (by show cu ≤ 601024; omega) (by show su ≤ 7293034; omega) (by decide) (kd_at lt_19_d 6 rfl) ?_
  rintro r1 w1 H1 locs1 ⟨⟨hI1, q1⟩, v1, rfl⟩ hP1 hD1 hS1 hz1 hk1
  have hH1 := lw_oq hG hH hI1 hP1 hD1 hS1 hz1 hk1
  have x12 : gI w1 1 2 = gI w 1 2 := q1.g (by decide)
  have x612 : gI w1 61 2 = gI w 61 2 := q1.g (by decide)
  have x383 : gI w1 38 3 = gI w 38 3 := q1.g (by decide)
  have x493 : gI w1 49 3 = gI w 49 3 := q1.g (by decide)
  have x780 : gI w1 78 0 = gI w 78 0 := q1.g (by decide)
  have x781 : gI w1 78 1 = gI w 78 1 := q1.g (by decide)
  obtain ⟨e1, he1, fs1, rfl, -, -⟩ := hI1.1.at (a := 61) (c := .inr (11, _)) rfl
  refine lv_pop hx hb (kd_at lt_19_d 7 rfl) rfl ?_
  refine lv_aload_n hx hb (kd_at lt_19_d 8 rfl) rfl (lv_at hl 2 rfl) ?_
  refine lw_push (j := 1) (jj := 1) hG hS1 hl (by omega) rfl (kd_at lt_19_d 9 rfl) (kd_at lt_19_d 10 rfl) (kd_at lt_19_d 11 rfl) (kd_at lt_19_d 12 rfl) (kd_at lt_19_d 13 rfl) ?_
  refine lw_hq C hsa (z := 244) (na := 1) (cp := 104) (a := 61) (As := [.int (xs (i + 1))]) (d := 24) (restM := []) pz_244 lk_m19 ll_m19 rfl he1 (Nat.le_of_ble_eq_true rfl) (by decide) rfl (lm_19 hI1 (xs (i + 1))) (fun r w' q => by rw [q.1.1.1.1, hI1.1.1]) hP1 hD1 hS1 hl.1 (by decide) (by decide) (by show cu ≤ 601024; omega) (by show su ≤ 7293034; omega) (by decide) (kd_at lt_19_d 14 rfl) ?_
  rintro r2 w2 H2 locs2 ⟨⟨hI2, q2⟩, v2, rfl⟩ hP2 hD2 hS2 hz2 hk2
  have hH2 := lw_oq hG hH1 hI2 hP2 hD2 hS2 hz2 hk2
  have m12 : gI w2 1 2 = gI w1 1 2 := q2.g (by decide)
  have m612 : gI w2 61 2 = gI w1 61 2 := q2.g (by decide)
  have m383 : gI w2 38 3 = gI w1 38 3 := q2.g (by decide)
  have m493 : gI w2 49 3 = gI w1 49 3 := q2.g (by decide)
  have m780 : gI w2 78 0 = gI w1 78 0 := q2.g (by decide)
  have m781 : gI w2 78 1 = gI w1 78 1 := q2.g (by decide)
  have hE2 : lw_e w2 := by
    refine ⟨?_, ?_, ?_, fun n hn => ?_, fun k hk => ?_, fun k hk => ?_, ?_, ?_, ?_, ?_⟩
    · rw [m12, x12, m612, x612, hE.1]
    · rw [m383, x383, m780, x780, hE.2.1]
    · rw [m493, x493, m781, x781, hE.2.2.1]
    · rw [q2.gv (c := 2) (k := 940) (by decide) hn, q1.gv (c := 2) (k := 940) (by decide) hn, q2.gv (c := 62) (k := 940) (by decide) hn, q1.gv (c := 62) (k := 940) (by decide) hn]
      exact hE.2.2.2.1 n hn
    · rw [q2.gl (c := 3) (k := 29) (by decide) hk, q1.gl (c := 3) (k := 29) (by decide) hk]
      exact hE.2.2.2.2.1 k hk
    · rw [q2.gl (c := 67) (k := 29) (by decide) hk, q1.gl (c := 67) (k := 29) (by decide) hk]
      exact hE.2.2.2.2.2.1 k hk
    · exact hE.2.2.2.2.2.2.1.cp ((q1.CP (fa := 5) (na := 6) (by decide) (by decide)).tr (q2.CP (fa := 5) (na := 6) (by decide) (by decide))) ((q1.MP (sa := 63) (so := 0) (ma := 66) (mo := 0) (N := 115) (M := 27) (by decide) (by decide) (by decide) (by decide)).tr (q2.MP (sa := 63) (so := 0) (ma := 66) (mo := 0) (N := 115) (M := 27) (by decide) (by decide) (by decide) (by decide)))
    · exact hE.2.2.2.2.2.2.2.1.cp ((q1.CP (fa := 40) (na := 41) (by decide) (by decide)).tr (q2.CP (fa := 40) (na := 41) (by decide) (by decide))) ((q1.MP (sa := 76) (so := 0) (ma := 77) (mo := 0) (N := 822) (M := 54) (by decide) (by decide) (by decide) (by decide)).tr (q2.MP (sa := 76) (so := 0) (ma := 77) (mo := 0) (N := 822) (M := 54) (by decide) (by decide) (by decide) (by decide)))
    · exact hE.2.2.2.2.2.2.2.2.1.cp ((q1.CP (fa := 51) (na := 52) (by decide) (by decide)).tr (q2.CP (fa := 51) (na := 52) (by decide) (by decide))) ((q1.MP (sa := 76) (so := 411) (ma := 77) (mo := 27) (N := 822) (M := 54) (by decide) (by decide) (by decide) (by decide)).tr (q2.MP (sa := 76) (so := 411) (ma := 77) (mo := 27) (N := 822) (M := 54) (by decide) (by decide) (by decide) (by decide)))
    · unfold ft_e
      rw [q2.g (c := 1) (i := 10) (by decide), q1.g (c := 1) (i := 10) (by decide), q2.g (c := 61) (i := 15) (by decide), q1.g (c := 61) (i := 15) (by decide)]
      exact hE.2.2.2.2.2.2.2.2.2
  refine lv_pop hx hb (kd_at lt_19_d 15 rfl) rfl ?_
  refine lv_goto (tgt := 1505) hx hb (kd_at lt_19_d 16 rfl) rfl ?_
  exact W.widen (by omega) (by omega) (kend H2 locs2 w2 ls hH2 hE2 hl)
def lt_20 : List (Nat × Instr × Nat) := [(847, .aload_n 1, 1), (848, .aload_n 0, 1), (849, .iload 4, 2), (851, .iconst 1, 1), (852, .iadd, 1), (853, .iaload, 1), (854, .invokevirtual 105, 3), (857, .pop, 1), (858, .aload_n 2, 1), (859, .aload_n 0, 1), (860, .iload 4, 2), (862, .iconst 1, 1), (863, .iadd, 1), (864, .iaload, 1), (865, .invokevirtual 108, 3), (868, .pop, 1), (869, .goto 636, 3)]
set_option maxRecDepth 100000 in
theorem lt_20_d : (lt_20.all fun q => decide (decode code q.1 = .ok (q.2.1, q.2.2))) = true := by decide +kernel
theorem ll_x20 : Cond.methodLink "ReadBoundLaw" 105 mn_130 ∈ lw_tbl := List.mem_of_getElem? (i := 858) (by decide +kernel)
theorem ll_m20 : Cond.methodLink "ReadBoundLaw" 108 mn_245 ∈ lw_tbl := List.mem_of_getElem? (i := 1684) (by decide +kernel)
set_option maxRecDepth 100000 in
theorem lc_case20 {p : Program} {l : Launch} {e : Env} {s : State} {m : MethodId} {below : List Frame} {meth : Method} {c : Code} {Q : State → Prop} {D : va_G} {cA : Nat → ClassId} {sa sv : Nat} {ad : Nat → Nat} {b N oq : Nat} {xs : Nat → Int32} {cu su : Nat} {H : Heap} {locs : List Loc} {ls : Array Slot} {w : pi_W} {i : Nat} (hG : lw_G p s m c meth D cA sa sv ad b N oq xs) (hH : lw_H s D cA ad oq w H locs) (hE : lw_e w) (hl : lv_has ls 7 (lw_L ad b oq i)) (hi : i + 6 ≤ N) (hcu : cu + 6 ≤ 601024) (hsu : su + 36 ≤ 7293034) (kend : ∀ (H1 : Heap) (locs1 : List Loc) (w1 : pi_W) (ls1 : Array Slot), lw_H s D cA ad oq w1 H1 locs1 → lw_e w1 → lv_has ls1 7 (lw_L ad b oq i) → W p l e room_1 s m #[Value.ref b] below meth c H1 locs1 (cu + 6) (su + 36) Q (F0 m 1505 ls1 [])) : W p l e room_1 s m #[Value.ref b] below meth c H locs cu su Q (F0 m 847 ls []) := by
  obtain ⟨hI, hP, hD, hS, ho1, ho2, hof⟩ := id hH
  have C := hG.1
  have hsa := hG.2.1
  have hx := C.1
  have hb := C.2.1
  obtain ⟨e0, he0, fs0, rfl, -, -⟩ := hI.1.at (a := 0) (c := .inr (10, _)) rfl
  refine lv_aload_n hx hb (kd_at lt_20_d 0 rfl) rfl (lv_at hl 1 rfl) ?_
  refine lw_push (j := 1) (jj := 1) hG hS hl (by omega) rfl (kd_at lt_20_d 1 rfl) (kd_at lt_20_d 2 rfl) (kd_at lt_20_d 3 rfl) (kd_at lt_20_d 4 rfl) (kd_at lt_20_d 5 rfl) ?_
  refine lw_hq C hsa (z := 130) (na := 1) (cp := 105) (a := 0) (As := [.int (xs (i + 1))]) (d := 24) (restM := []) pz_130 lk_x20 ll_x20 rfl he0 (Nat.le_of_ble_eq_true rfl) (by decide) rfl (lx_20 hI (xs (i + 1))) (fun r w' q => by rw [q.1.1.1.1, hI.1.1]) hP hD hS hl.1 (by decide) (by decide) (by show cu ≤ 601024; omega) (by show su ≤ 7293034; omega) (by decide) (kd_at lt_20_d 6 rfl) ?_
  rintro r1 w1 H1 locs1 ⟨⟨hI1, q1⟩, v1, rfl⟩ hP1 hD1 hS1 hz1 hk1
  have hH1 := lw_oq hG hH hI1 hP1 hD1 hS1 hz1 hk1
  have x12 : gI w1 1 2 = gI w 1 2 := q1.g (by decide)
  have x612 : gI w1 61 2 = gI w 61 2 := q1.g (by decide)
  have x383 : gI w1 38 3 = gI w 38 3 := q1.g (by decide)
  have x493 : gI w1 49 3 = gI w 49 3 := q1.g (by decide)
  have x780 : gI w1 78 0 = gI w 78 0 := q1.g (by decide)
  have x781 : gI w1 78 1 = gI w 78 1 := q1.g (by decide)
  obtain ⟨e1, he1, fs1, rfl, -, -⟩ := hI1.1.at (a := 61) (c := .inr (11, _)) rfl
  refine lv_pop hx hb (kd_at lt_20_d 7 rfl) rfl ?_
  refine lv_aload_n hx hb (kd_at lt_20_d 8 rfl) rfl (lv_at hl 2 rfl) ?_
  refine lw_push (j := 1) (jj := 1) hG hS1 hl (by omega) rfl (kd_at lt_20_d 9 rfl) (kd_at lt_20_d 10 rfl) (kd_at lt_20_d 11 rfl) (kd_at lt_20_d 12 rfl) (kd_at lt_20_d 13 rfl) ?_
  refine lw_hq C hsa (z := 245) (na := 1) (cp := 108) (a := 61) (As := [.int (xs (i + 1))]) (d := 24) (restM := []) pz_245 lk_m20 ll_m20 rfl he1 (Nat.le_of_ble_eq_true rfl) (by decide) rfl (lm_20 hI1 (xs (i + 1))) (fun r w' q => by rw [q.1.1.1.1, hI1.1.1]) hP1 hD1 hS1 hl.1 (by decide) (by decide) (by show cu ≤ 601024; omega) (by show su ≤ 7293034; omega) (by decide) (kd_at lt_20_d 14 rfl) ?_
  rintro r2 w2 H2 locs2 ⟨⟨hI2, q2⟩, v2, rfl⟩ hP2 hD2 hS2 hz2 hk2
  have hH2 := lw_oq hG hH1 hI2 hP2 hD2 hS2 hz2 hk2
  have m12 : gI w2 1 2 = gI w1 1 2 := q2.g (by decide)
  have m612 : gI w2 61 2 = gI w1 61 2 := q2.g (by decide)
  have m383 : gI w2 38 3 = gI w1 38 3 := q2.g (by decide)
  have m493 : gI w2 49 3 = gI w1 49 3 := q2.g (by decide)
  have m780 : gI w2 78 0 = gI w1 78 0 := q2.g (by decide)
  have m781 : gI w2 78 1 = gI w1 78 1 := q2.g (by decide)
  have hE2 : lw_e w2 := by
    refine ⟨?_, ?_, ?_, fun n hn => ?_, fun k hk => ?_, fun k hk => ?_, ?_, ?_, ?_, ?_⟩
    · rw [m12, x12, m612, x612, hE.1]
    · rw [m383, x383, m780, x780, hE.2.1]
    · rw [m493, x493, m781, x781, hE.2.2.1]
    · rw [q2.gv (c := 2) (k := 940) (by decide) hn, q1.gv (c := 2) (k := 940) (by decide) hn, q2.gv (c := 62) (k := 940) (by decide) hn, q1.gv (c := 62) (k := 940) (by decide) hn]
      exact hE.2.2.2.1 n hn
    · rw [q2.gl (c := 3) (k := 29) (by decide) hk, q1.gl (c := 3) (k := 29) (by decide) hk]
      exact hE.2.2.2.2.1 k hk
    · rw [q2.gl (c := 67) (k := 29) (by decide) hk, q1.gl (c := 67) (k := 29) (by decide) hk]
      exact hE.2.2.2.2.2.1 k hk
    · exact hE.2.2.2.2.2.2.1.cp ((q1.CP (fa := 5) (na := 6) (by decide) (by decide)).tr (q2.CP (fa := 5) (na := 6) (by decide) (by decide))) ((q1.MP (sa := 63) (so := 0) (ma := 66) (mo := 0) (N := 115) (M := 27) (by decide) (by decide) (by decide) (by decide)).tr (q2.MP (sa := 63) (so := 0) (ma := 66) (mo := 0) (N := 115) (M := 27) (by decide) (by decide) (by decide) (by decide)))
    · exact hE.2.2.2.2.2.2.2.1.cp ((q1.CP (fa := 40) (na := 41) (by decide) (by decide)).tr (q2.CP (fa := 40) (na := 41) (by decide) (by decide))) ((q1.MP (sa := 76) (so := 0) (ma := 77) (mo := 0) (N := 822) (M := 54) (by decide) (by decide) (by decide) (by decide)).tr (q2.MP (sa := 76) (so := 0) (ma := 77) (mo := 0) (N := 822) (M := 54) (by decide) (by decide) (by decide) (by decide)))
    · exact hE.2.2.2.2.2.2.2.2.1.cp ((q1.CP (fa := 51) (na := 52) (by decide) (by decide)).tr (q2.CP (fa := 51) (na := 52) (by decide) (by decide))) ((q1.MP (sa := 76) (so := 411) (ma := 77) (mo := 27) (N := 822) (M := 54) (by decide) (by decide) (by decide) (by decide)).tr (q2.MP (sa := 76) (so := 411) (ma := 77) (mo := 27) (N := 822) (M := 54) (by decide) (by decide) (by decide) (by decide)))
    · unfold ft_e
      rw [q2.g (c := 1) (i := 10) (by decide), q1.g (c := 1) (i := 10) (by decide), q2.g (c := 61) (i := 15) (by decide), q1.g (c := 61) (i := 15) (by decide)]
      exact hE.2.2.2.2.2.2.2.2.2
  refine lv_pop hx hb (kd_at lt_20_d 15 rfl) rfl ?_
  refine lv_goto (tgt := 1505) hx hb (kd_at lt_20_d 16 rfl) rfl ?_
  exact W.widen (by omega) (by omega) (kend H2 locs2 w2 ls hH2 hE2 hl)
def lt_21 : List (Nat × Instr × Nat) := [(872, .aload_n 1, 1), (873, .aload_n 0, 1), (874, .iload 4, 2), (876, .iconst 1, 1), (877, .iadd, 1), (878, .iaload, 1), (879, .invokevirtual 109, 3), (882, .pop, 1), (883, .aload_n 2, 1), (884, .aload_n 0, 1), (885, .iload 4, 2), (887, .iconst 1, 1), (888, .iadd, 1), (889, .iaload, 1), (890, .invokevirtual 112, 3), (893, .pop, 1), (894, .goto 611, 3)]
set_option maxRecDepth 100000 in
theorem lt_21_d : (lt_21.all fun q => decide (decode code q.1 = .ok (q.2.1, q.2.2))) = true := by decide +kernel
theorem ll_x21 : Cond.methodLink "ReadBoundLaw" 109 mn_131 ∈ lw_tbl := List.mem_of_getElem? (i := 866) (by decide +kernel)
theorem ll_m21 : Cond.methodLink "ReadBoundLaw" 112 mn_246 ∈ lw_tbl := List.mem_of_getElem? (i := 1688) (by decide +kernel)
set_option maxRecDepth 100000 in
theorem lc_case21 {p : Program} {l : Launch} {e : Env} {s : State} {m : MethodId} {below : List Frame} {meth : Method} {c : Code} {Q : State → Prop} {D : va_G} {cA : Nat → ClassId} {sa sv : Nat} {ad : Nat → Nat} {b N oq : Nat} {xs : Nat → Int32} {cu su : Nat} {H : Heap} {locs : List Loc} {ls : Array Slot} {w : pi_W} {i : Nat} (hG : lw_G p s m c meth D cA sa sv ad b N oq xs) (hH : lw_H s D cA ad oq w H locs) (hE : lw_e w) (hl : lv_has ls 7 (lw_L ad b oq i)) (hi : i + 6 ≤ N) (hcu : cu + 6 ≤ 601024) (hsu : su + 36 ≤ 7293034) (kend : ∀ (H1 : Heap) (locs1 : List Loc) (w1 : pi_W) (ls1 : Array Slot), lw_H s D cA ad oq w1 H1 locs1 → lw_e w1 → lv_has ls1 7 (lw_L ad b oq i) → W p l e room_1 s m #[Value.ref b] below meth c H1 locs1 (cu + 6) (su + 36) Q (F0 m 1505 ls1 [])) : W p l e room_1 s m #[Value.ref b] below meth c H locs cu su Q (F0 m 872 ls []) := by
  obtain ⟨hI, hP, hD, hS, ho1, ho2, hof⟩ := id hH
  have C := hG.1
  have hsa := hG.2.1
  have hx := C.1
  have hb := C.2.1
  obtain ⟨e0, he0, fs0, rfl, -, -⟩ := hI.1.at (a := 0) (c := .inr (10, _)) rfl
  refine lv_aload_n hx hb (kd_at lt_21_d 0 rfl) rfl (lv_at hl 1 rfl) ?_
  refine lw_push (j := 1) (jj := 1) hG hS hl (by omega) rfl (kd_at lt_21_d 1 rfl) (kd_at lt_21_d 2 rfl) (kd_at lt_21_d 3 rfl) (kd_at lt_21_d 4 rfl) (kd_at lt_21_d 5 rfl) ?_
  refine lw_hq C hsa (z := 131) (na := 1) (cp := 109) (a := 0) (As := [.int (xs (i + 1))]) (d := 24) (restM := []) pz_131 lk_x21 ll_x21 rfl he0 (Nat.le_of_ble_eq_true rfl) (by decide) rfl (lx_21 hI (xs (i + 1))) (fun r w' q => by rw [q.1.1.1.1, hI.1.1]) hP hD hS hl.1 (by decide) (by decide) (by show cu ≤ 601024; omega) (by show su ≤ 7293034; omega) (by decide) (kd_at lt_21_d 6 rfl) ?_
  rintro r1 w1 H1 locs1 ⟨⟨hI1, q1⟩, v1, rfl⟩ hP1 hD1 hS1 hz1 hk1
  have hH1 := lw_oq hG hH hI1 hP1 hD1 hS1 hz1 hk1
  have x12 : gI w1 1 2 = gI w 1 2 := q1.g (by decide)
  have x612 : gI w1 61 2 = gI w 61 2 := q1.g (by decide)
  have x383 : gI w1 38 3 = gI w 38 3 := q1.g (by decide)
  have x493 : gI w1 49 3 = gI w 49 3 := q1.g (by decide)
  have x780 : gI w1 78 0 = gI w 78 0 := q1.g (by decide)
  have x781 : gI w1 78 1 = gI w 78 1 := q1.g (by decide)
  obtain ⟨e1, he1, fs1, rfl, -, -⟩ := hI1.1.at (a := 61) (c := .inr (11, _)) rfl
  refine lv_pop hx hb (kd_at lt_21_d 7 rfl) rfl ?_
  refine lv_aload_n hx hb (kd_at lt_21_d 8 rfl) rfl (lv_at hl 2 rfl) ?_
  refine lw_push (j := 1) (jj := 1) hG hS1 hl (by omega) rfl (kd_at lt_21_d 9 rfl) (kd_at lt_21_d 10 rfl) (kd_at lt_21_d 11 rfl) (kd_at lt_21_d 12 rfl) (kd_at lt_21_d 13 rfl) ?_
  refine lw_hq C hsa (z := 246) (na := 1) (cp := 112) (a := 61) (As := [.int (xs (i + 1))]) (d := 24) (restM := []) pz_246 lk_m21 ll_m21 rfl he1 (Nat.le_of_ble_eq_true rfl) (by decide) rfl (lm_21 hI1 (xs (i + 1))) (fun r w' q => by rw [q.1.1.1.1, hI1.1.1]) hP1 hD1 hS1 hl.1 (by decide) (by decide) (by show cu ≤ 601024; omega) (by show su ≤ 7293034; omega) (by decide) (kd_at lt_21_d 14 rfl) ?_
  rintro r2 w2 H2 locs2 ⟨⟨hI2, q2⟩, v2, rfl⟩ hP2 hD2 hS2 hz2 hk2
  have hH2 := lw_oq hG hH1 hI2 hP2 hD2 hS2 hz2 hk2
  have m12 : gI w2 1 2 = gI w1 1 2 := q2.g (by decide)
  have m612 : gI w2 61 2 = gI w1 61 2 := q2.g (by decide)
  have m383 : gI w2 38 3 = gI w1 38 3 := q2.g (by decide)
  have m493 : gI w2 49 3 = gI w1 49 3 := q2.g (by decide)
  have m780 : gI w2 78 0 = gI w1 78 0 := q2.g (by decide)
  have m781 : gI w2 78 1 = gI w1 78 1 := q2.g (by decide)
  have hE2 : lw_e w2 := by
    refine ⟨?_, ?_, ?_, fun n hn => ?_, fun k hk => ?_, fun k hk => ?_, ?_, ?_, ?_, ?_⟩
    · rw [m12, x12, m612, x612, hE.1]
    · rw [m383, x383, m780, x780, hE.2.1]
    · rw [m493, x493, m781, x781, hE.2.2.1]
    · rw [q2.gv (c := 2) (k := 940) (by decide) hn, q1.gv (c := 2) (k := 940) (by decide) hn, q2.gv (c := 62) (k := 940) (by decide) hn, q1.gv (c := 62) (k := 940) (by decide) hn]
      exact hE.2.2.2.1 n hn
    · rw [q2.gl (c := 3) (k := 29) (by decide) hk, q1.gl (c := 3) (k := 29) (by decide) hk]
      exact hE.2.2.2.2.1 k hk
    · rw [q2.gl (c := 67) (k := 29) (by decide) hk, q1.gl (c := 67) (k := 29) (by decide) hk]
      exact hE.2.2.2.2.2.1 k hk
    · exact hE.2.2.2.2.2.2.1.cp ((q1.CP (fa := 5) (na := 6) (by decide) (by decide)).tr (q2.CP (fa := 5) (na := 6) (by decide) (by decide))) ((q1.MP (sa := 63) (so := 0) (ma := 66) (mo := 0) (N := 115) (M := 27) (by decide) (by decide) (by decide) (by decide)).tr (q2.MP (sa := 63) (so := 0) (ma := 66) (mo := 0) (N := 115) (M := 27) (by decide) (by decide) (by decide) (by decide)))
    · exact hE.2.2.2.2.2.2.2.1.cp ((q1.CP (fa := 40) (na := 41) (by decide) (by decide)).tr (q2.CP (fa := 40) (na := 41) (by decide) (by decide))) ((q1.MP (sa := 76) (so := 0) (ma := 77) (mo := 0) (N := 822) (M := 54) (by decide) (by decide) (by decide) (by decide)).tr (q2.MP (sa := 76) (so := 0) (ma := 77) (mo := 0) (N := 822) (M := 54) (by decide) (by decide) (by decide) (by decide)))
    · exact hE.2.2.2.2.2.2.2.2.1.cp ((q1.CP (fa := 51) (na := 52) (by decide) (by decide)).tr (q2.CP (fa := 51) (na := 52) (by decide) (by decide))) ((q1.MP (sa := 76) (so := 411) (ma := 77) (mo := 27) (N := 822) (M := 54) (by decide) (by decide) (by decide) (by decide)).tr (q2.MP (sa := 76) (so := 411) (ma := 77) (mo := 27) (N := 822) (M := 54) (by decide) (by decide) (by decide) (by decide)))
    · unfold ft_e
      rw [q2.g (c := 1) (i := 10) (by decide), q1.g (c := 1) (i := 10) (by decide), q2.g (c := 61) (i := 15) (by decide), q1.g (c := 61) (i := 15) (by decide)]
      exact hE.2.2.2.2.2.2.2.2.2
  refine lv_pop hx hb (kd_at lt_21_d 15 rfl) rfl ?_
  refine lv_goto (tgt := 1505) hx hb (kd_at lt_21_d 16 rfl) rfl ?_
  exact W.widen (by omega) (by omega) (kend H2 locs2 w2 ls hH2 hE2 hl)
