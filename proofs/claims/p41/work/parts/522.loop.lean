/-! ===== the law's loop, more; by program ===== -/
def lt_4 : List (Nat × Instr × Nat) := [(348, .aload_n 1, 1), (349, .aload_n 0, 1), (350, .iload 4, 2), (352, .iconst 1, 1), (353, .iadd, 1), (354, .iaload, 1), (355, .aload_n 0, 1), (356, .iload 4, 2), (358, .iconst 2, 1), (359, .iadd, 1), (360, .iaload, 1), (361, .invokevirtual 38, 3), (364, .pop, 1), (365, .aload_n 2, 1), (366, .aload_n 0, 1), (367, .iload 4, 2), (369, .iconst 1, 1), (370, .iadd, 1), (371, .iaload, 1), (372, .aload_n 0, 1), (373, .iload 4, 2), (375, .iconst 2, 1), (376, .iadd, 1), (377, .iaload, 1), (378, .invokevirtual 41, 3), (381, .pop, 1), (382, .goto 1123, 3)]
set_option maxRecDepth 100000 in
theorem lt_4_d : (lt_4.all fun q => decide (decode code q.1 = .ok (q.2.1, q.2.2))) = true := by decide +kernel
theorem ll_x4 : Cond.methodLink "ReadBoundLaw" 38 mn_115 ∈ lw_tbl := List.mem_of_getElem? (i := 668) (by decide +kernel)
theorem ll_m4 : Cond.methodLink "ReadBoundLaw" 41 mn_209 ∈ lw_tbl := List.mem_of_getElem? (i := 1497) (by decide +kernel)
set_option maxRecDepth 100000 in
theorem lc_case4 {p : Program} {l : Launch} {e : Env} {s : State} {m : MethodId} {below : List Frame} {meth : Method} {c : Code} {Q : State → Prop} {D : va_G} {cA : Nat → ClassId} {sa sv : Nat} {ad : Nat → Nat} {b N oq : Nat} {xs : Nat → Int32} {cu su : Nat} {H : Heap} {locs : List Loc} {ls : Array Slot} {w : pi_W} {i : Nat} (hG : lw_G p s m c meth D cA sa sv ad b N oq xs) (hH : lw_H s D cA ad oq w H locs) (hl : lv_has ls 7 (lw_L ad b oq i)) (hi : i + 6 ≤ N) (hcu : cu + 6 ≤ 601024) (hsu : su + 36 ≤ 7293034) (kend : ∀ (H1 : Heap) (locs1 : List Loc) (w1 : pi_W) (ls1 : Array Slot), lw_H s D cA ad oq w1 H1 locs1 → lv_has ls1 7 (lw_L ad b oq i) → W p l e room_1 s m #[Value.ref b] below meth c H1 locs1 (cu + 6) (su + 36) Q (F0 m 1505 ls1 [])) : W p l e room_1 s m #[Value.ref b] below meth c H locs cu su Q (F0 m 348 ls []) := by
  obtain ⟨hI, hP, hD, hS, ho1, ho2, hof⟩ := id hH
  have C := hG.1
  have hsa := hG.2.1
  have hx := C.1
  have hb := C.2.1
  obtain ⟨e0, he0, fs0, rfl, -, -⟩ := hI.1.at (a := 0) (c := .inr (10, _)) rfl
  refine lv_aload_n hx hb (kd_at lt_4_d 0 rfl) rfl (lv_at hl 1 rfl) ?_
  refine lw_push (j := 1) (jj := 1) hG hS hl (by omega) rfl (kd_at lt_4_d 1 rfl) (kd_at lt_4_d 2 rfl) (kd_at lt_4_d 3 rfl) (kd_at lt_4_d 4 rfl) (kd_at lt_4_d 5 rfl) ?_
  refine lw_push (j := 2) (jj := 2) hG hS hl (by omega) rfl (kd_at lt_4_d 6 rfl) (kd_at lt_4_d 7 rfl) (kd_at lt_4_d 8 rfl) (kd_at lt_4_d 9 rfl) (kd_at lt_4_d 10 rfl) ?_
  refine lw_hq C hsa (z := 115) (na := 2) (cp := 38) (a := 0) (As := [.int (xs (i + 1)), .int (xs (i + 2))]) (d := 24) (restM := []) pz_115 lk_x4 ll_x4 rfl he0 (Nat.le_of_ble_eq_true rfl) (by decide) rfl (lx_4 hI (xs (i + 1)) (xs (i + 2))) (fun r w' q => by rw [q.1.1.1, hI.1.1]) hP hD hS hl.1 (by decide) (by decide) (by show cu ≤ 601024; omega) (by show su ≤ 7293034; omega) (by decide) (kd_at lt_4_d 11 rfl) ?_
  rintro r1 w1 H1 locs1 ⟨hI1, v1, rfl⟩ hP1 hD1 hS1 hz1 hk1
  have hH1 := lw_oq hG hH hI1 hP1 hD1 hS1 hz1 hk1
  obtain ⟨e1, he1, fs1, rfl, -, -⟩ := hI1.1.at (a := 61) (c := .inr (11, _)) rfl
  refine lv_pop hx hb (kd_at lt_4_d 12 rfl) rfl ?_
  refine lv_aload_n hx hb (kd_at lt_4_d 13 rfl) rfl (lv_at hl 2 rfl) ?_
  refine lw_push (j := 1) (jj := 1) hG hS1 hl (by omega) rfl (kd_at lt_4_d 14 rfl) (kd_at lt_4_d 15 rfl) (kd_at lt_4_d 16 rfl) (kd_at lt_4_d 17 rfl) (kd_at lt_4_d 18 rfl) ?_
  refine lw_push (j := 2) (jj := 2) hG hS1 hl (by omega) rfl (kd_at lt_4_d 19 rfl) (kd_at lt_4_d 20 rfl) (kd_at lt_4_d 21 rfl) (kd_at lt_4_d 22 rfl) (kd_at lt_4_d 23 rfl) ?_
  refine lw_hq C hsa (z := 209) (na := 2) (cp := 41) (a := 61) (As := [.int (xs (i + 1)), .int (xs (i + 2))]) (d := 24) (restM := []) pz_209 lk_m4 ll_m4 rfl he1 (Nat.le_of_ble_eq_true rfl) (by decide) rfl (lm_4 hI1 (xs (i + 1)) (xs (i + 2))) (fun r w' q => by rw [q.1.1.1, hI1.1.1]) hP1 hD1 hS1 hl.1 (by decide) (by decide) (by show cu ≤ 601024; omega) (by show su ≤ 7293034; omega) (by decide) (kd_at lt_4_d 24 rfl) ?_
  rintro r2 w2 H2 locs2 ⟨hI2, v2, rfl⟩ hP2 hD2 hS2 hz2 hk2
  have hH2 := lw_oq hG hH1 hI2 hP2 hD2 hS2 hz2 hk2
  refine lv_pop hx hb (kd_at lt_4_d 25 rfl) rfl ?_
  refine lv_goto (tgt := 1505) hx hb (kd_at lt_4_d 26 rfl) rfl ?_
  exact W.widen (by omega) (by omega) (kend H2 locs2 w2 ls hH2 hl)
