/-! ===== the law's loop, more; by program ===== -/
def lt_3 : List (Nat × Instr × Nat) := [(335, .aload_n 1, 1), (336, .invokevirtual 34, 3), (339, .pop, 1), (340, .aload_n 2, 1), (341, .invokevirtual 37, 3), (344, .pop, 1), (345, .goto 1160, 3)]
set_option maxRecDepth 100000 in
theorem lt_3_d : (lt_3.all fun q => decide (decode code q.1 = .ok (q.2.1, q.2.2))) = true := by decide +kernel
theorem ll_x3 : Cond.methodLink "ReadBoundLaw" 34 mn_114 ∈ lw_tbl := List.mem_of_getElem? (i := 664) (by decide +kernel)
theorem ll_m3 : Cond.methodLink "ReadBoundLaw" 37 mn_193 ∈ lw_tbl := List.mem_of_getElem? (i := 1493) (by decide +kernel)
set_option maxRecDepth 100000 in
theorem lc_case3 {p : Program} {l : Launch} {e : Env} {s : State} {m : MethodId} {below : List Frame} {meth : Method} {c : Code} {Q : State → Prop} {D : va_G} {cA : Nat → ClassId} {sa sv : Nat} {ad : Nat → Nat} {b N oq : Nat} {xs : Nat → Int32} {cu su : Nat} {H : Heap} {locs : List Loc} {ls : Array Slot} {w : pi_W} {i : Nat} (hG : lw_G p s m c meth D cA sa sv ad b N oq xs) (hH : lw_H s D cA ad oq w H locs) (hl : lv_has ls 7 (lw_L ad b oq i)) (hi : i + 6 ≤ N) (hcu : cu + 6 ≤ 601024) (hsu : su + 36 ≤ 7293034) (kend : ∀ (H1 : Heap) (locs1 : List Loc) (w1 : pi_W) (ls1 : Array Slot), lw_H s D cA ad oq w1 H1 locs1 → lv_has ls1 7 (lw_L ad b oq i) → W p l e room_1 s m #[Value.ref b] below meth c H1 locs1 (cu + 6) (su + 36) Q (F0 m 1505 ls1 [])) : W p l e room_1 s m #[Value.ref b] below meth c H locs cu su Q (F0 m 335 ls []) := by
  obtain ⟨hI, hP, hD, hS, ho1, ho2, hof⟩ := id hH
  have C := hG.1
  have hsa := hG.2.1
  have hx := C.1
  have hb := C.2.1
  obtain ⟨e0, he0, fs0, rfl, -, -⟩ := hI.1.at (a := 0) (c := .inr (10, _)) rfl
  refine lv_aload_n hx hb (kd_at lt_3_d 0 rfl) rfl (lv_at hl 1 rfl) ?_
  refine lw_hq C hsa (z := 114) (na := 0) (cp := 34) (a := 0) (As := []) (d := 24) (restM := []) pz_114 lk_x3 ll_x3 rfl he0 (Nat.le_of_ble_eq_true rfl) (by decide) rfl (lx_3 hI) (fun r w' q => by rw [q.1.1.1, hI.1.1]) hP hD hS hl.1 (by decide) (by decide) (by show cu ≤ 601024; omega) (by show su ≤ 7293034; omega) (by decide) (kd_at lt_3_d 1 rfl) ?_
  rintro r1 w1 H1 locs1 ⟨hI1, v1, rfl⟩ hP1 hD1 hS1 hz1 hk1
  have hH1 := lw_oq hG hH hI1 hP1 hD1 hS1 hz1 hk1
  obtain ⟨e1, he1, fs1, rfl, -, -⟩ := hI1.1.at (a := 61) (c := .inr (11, _)) rfl
  refine lv_pop hx hb (kd_at lt_3_d 2 rfl) rfl ?_
  refine lv_aload_n hx hb (kd_at lt_3_d 3 rfl) rfl (lv_at hl 2 rfl) ?_
  refine lw_hq C hsa (z := 193) (na := 0) (cp := 37) (a := 61) (As := []) (d := 24) (restM := []) pz_193 lk_m3 ll_m3 rfl he1 (Nat.le_of_ble_eq_true rfl) (by decide) rfl (lm_3 hI1) (fun r w' q => by rw [q.1.1.1, hI1.1.1]) hP1 hD1 hS1 hl.1 (by decide) (by decide) (by show cu ≤ 601024; omega) (by show su ≤ 7293034; omega) (by decide) (kd_at lt_3_d 4 rfl) ?_
  rintro r2 w2 H2 locs2 ⟨hI2, v2, rfl⟩ hP2 hD2 hS2 hz2 hk2
  have hH2 := lw_oq hG hH1 hI2 hP2 hD2 hS2 hz2 hk2
  refine lv_pop hx hb (kd_at lt_3_d 5 rfl) rfl ?_
  refine lv_goto (tgt := 1505) hx hb (kd_at lt_3_d 6 rfl) rfl ?_
  exact W.widen (by omega) (by omega) (kend H2 locs2 w2 ls hH2 hl)
