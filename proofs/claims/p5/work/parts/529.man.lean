/-! ===== the law's call of man ===== -/
def lt_5 : List (Nat × Instr × Nat) := [(385, .aload_n 1, 1), (386, .aload_n 0, 1), (387, .iload 4, 2), (389, .iconst 1, 1), (390, .iadd, 1), (391, .iaload, 1), (392, .aload_n 0, 1), (393, .iload 4, 2), (395, .iconst 2, 1), (396, .iadd, 1), (397, .iaload, 1), (398, .aload_n 3, 1), (399, .invokestatic 42, 3), (402, .istore 5, 2), (404, .aload_n 2, 1), (405, .aload_n 0, 1), (406, .iload 4, 2), (408, .iconst 1, 1), (409, .iadd, 1), (410, .iaload, 1), (411, .aload_n 0, 1), (412, .iload 4, 2), (414, .iconst 2, 1), (415, .iadd, 1), (416, .iaload, 1), (417, .invokevirtual 47, 3), (420, .istore 6, 2), (422, .goto 1083, 3)]
set_option maxRecDepth 100000 in
theorem lt_5_d : (lt_5.all fun q => decide (decode code q.1 = .ok (q.2.1, q.2.2))) = true := by decide +kernel
theorem ll_m5 : Cond.methodLink "ReadBoundLaw" 47 mn_210 ∈ lw_tbl := by decide +kernel
theorem lc_good : GoodIn pi_good (va_wsS "ReadBoundLaw" 42 mn_lm (Cond.codeWith mn_lm method_3_code 5 (some .int) [(0, 10, 13, 13)] :: pi_good)) := by
  intro w hw
  unfold va_wsS at hw
  rcases List.mem_append.mp hw with h | h
  · simp only [List.mem_cons, List.not_mem_nil, or_false] at h
    rcases h with rfl | rfl | rfl
    · exact ⟨pi_good_of wl_lk rfl, good_of_word rfl⟩
    · exact ⟨pi_good_of wl_st rfl, good_of_word rfl⟩
    · exact ⟨pi_good_of wl_in rfl, good_of_word rfl⟩
  · rcases List.mem_cons.mp h with rfl | h
    · exact ⟨pi_good_of wl_code rfl, good_of_word rfl⟩
    · exact pi_good_all w h
set_option maxRecDepth 100000 in
theorem lc_case5 {p : Program} {l : Launch} {e : Env} {s : State} {m : MethodId} {below : List Frame} {meth : Method} {c : Code} {Q : State → Prop} {D : va_G} {cA : Nat → ClassId} {sa sv : Nat} {ad : Nat → Nat} {b N oq : Nat} {xs : Nat → Int32} {cu su : Nat} {H : Heap} {locs : List Loc} {ls : Array Slot} {w : pi_W} {i : Nat} (hst : l.stackTraces = false) (hZ : mm_Z (fun q => s.heap.size ≤ q) s) (hG : lw_G p s m c meth D cA sa sv ad b N oq xs) (hH : lw_H s D cA ad oq w H locs) (hE : lw_e w) (hl : lv_has ls 7 (lw_L ad b oq i)) (hi : i + 6 ≤ N) (hcu : cu + 6 ≤ 601024) (hsu : su + 36 ≤ 7293034) (kend : ∀ (H1 : Heap) (locs1 : List Loc) (w1 : pi_W) (ls1 : Array Slot), lw_H s D cA ad oq w1 H1 locs1 → lw_e w1 → lv_has ls1 7 (lw_L ad b oq i) → W p l e room_1 s m #[Value.ref b] below meth c H1 locs1 (cu + 6) (su + 36) Q (F0 m 1505 ls1 [])) : W p l e room_1 s m #[Value.ref b] below meth c H locs cu su Q (F0 m 385 ls []) := by
  obtain ⟨hI, hP, hD, hS, ho1, ho2, f, hof⟩ := id hH
  have C := hG.1
  have hsa := hG.2.1
  have hne := hG.2.2.2.2.2.1
  have hx := C.1
  have hb := C.2.1
  refine lv_aload_n hx hb (kd_at lt_5_d 0 rfl) rfl (lv_at hl 1 rfl) ?_
  refine lw_push (j := 1) (jj := 1) hG hS hl (by omega) rfl (kd_at lt_5_d 1 rfl) (kd_at lt_5_d 2 rfl) (kd_at lt_5_d 3 rfl) (kd_at lt_5_d 4 rfl) (kd_at lt_5_d 5 rfl) ?_
  refine lw_push (j := 2) (jj := 2) hG hS hl (by omega) rfl (kd_at lt_5_d 6 rfl) (kd_at lt_5_d 7 rfl) (kd_at lt_5_d 8 rfl) (kd_at lt_5_d 9 rfl) (kd_at lt_5_d 10 rfl) ?_
  refine lv_aload_n hx hb (kd_at lt_5_d 11 rfl) rfl (lv_at hl 3 rfl) ?_
  have hB : ∀ q, lm_A cA ad w H.size oq q → s.heap.size ≤ q := by
    rintro q ((⟨k, e, h⟩ | h) | h)
    · exact hD.2 k _ h
    · exact Nat.le_trans hS.1 h
    · rw [h]
      exact ho2
  have hp : PreS s H (lm_Pc D cA sa sv ad w H.size oq (xs (i + 1)) (xs (i + 2))) ([.ref (ad 0), .int (xs (i + 1)), .int (xs (i + 2)), .ref oq] : List Value) := by
    refine ⟨lm_blind, fun U hU hW => ⟨rfl, by rw [hU], by rw [hU]; exact hP, ⟨hD.1, fun k q h => Or.inl (Or.inl ⟨k, q.2, h⟩)⟩, C.2.2.2.2.2.1.call hW hS hU hB, hZ.call hW hS hU hB, hne, f, by rw [hU]; exact hof⟩⟩
  have hr := vx_runSW (l := l) (e := e) (R := room_1) (below := below) (meth := meth) (H := H) (locs := locs) (cells := cu) (slots := su) (cc := code) (nL := 7) (Ts := pi_good) (own := "ReadBoundLaw") (rest := []) (g := F0 m 399 ls [.ref oq, .int (xs (i + 2)), .int (xs (i + 1)), .ref (ad 0)]) ⟨C.1, C.2.1, C.2.2.1, C.2.2.2.1, C.2.2.2.2.1⟩ (lm_met l hst D cA sa sv ad H.size oq hsa hI (xs (i + 1)) (xs (i + 2))) (vx_cwSW (R := room_1) 4 C.2.2.2.2.1 lc_good rfl rfl rfl ⟨by decide, by decide, by decide +kernel⟩ ⟨by decide, by decide⟩) hp rfl rfl hl.1 rfl (lv_room (by decide)) (kd_at lt_5_d 12 rfl) ⟨by show cu + 1 ≤ 601024; omega, by show su + 6 ≤ 7293034; omega⟩
  intro T hT X
  obtain ⟨v, st₀, t, T', L, h0, X', hL, e1, e2, ⟨⟨v', w1, hv, ⟨hI1, hq1⟩, hP1, hD1, f1, hf1⟩, hz, hkk⟩, stp⟩ := hr T hT X
  have hv : v = some (.int v') := Outcome.returned.inj hv
  subst hv
  rw [h0] at hz hkk
  have hS1 : va_S (fun q => s.heap.size ≤ q) s.heap t.heap (locs ++ L) := ⟨Nat.le_trans hS.1 hz, fun q h1 h2 => by rw [hkk q (Nat.lt_of_lt_of_le h1 hS.1) (fun z => h2 (hB q z))]; exact hS.2.1 q h1 h2, fun q hq => by
    rcases List.mem_append.mp hq with h | h
    · exact hS.2.2 q h
    · exact hB _ (hL q h)⟩
  have hD1' : va_D (fun q => s.heap.size ≤ q) (pi_rW cA ad w1) := hD1.weaken (fun k q _ h => hB _ h)
  have hH1 : lw_H s D cA ad oq w1 t.heap (locs ++ L) := ⟨hI1, hP1, hD1', hS1, Nat.lt_of_lt_of_le ho1 hz, ho2, f1, hf1⟩
  have k : W p l e room_1 s m #[Value.ref b] below meth c t.heap (locs ++ L) (cu + 1) (su + 6) Q (F0 m 402 ls [.int v']) := by
    obtain ⟨e1, he1, fs1, rfl, -, -⟩ := hI1.1.at (a := 61) (c := .inr (11, _)) rfl
    refine lv_istore (lv' := (5, .int v') :: lw_L ad b oq i) hx hb (kd_at lt_5_d 13 rfl) hl (by decide) rfl (fun ls2 hl2 => ?_)
    have hl3 : lv_has ls2 7 (lw_L ad b oq i) := lv_sub hl2 [1, 2, 3, 4, 5] rfl
    refine lv_aload_n hx hb (kd_at lt_5_d 14 rfl) rfl (lv_at hl3 2 rfl) ?_
    refine lw_push (j := 1) (jj := 1) hG hS1 hl3 (by omega) rfl (kd_at lt_5_d 15 rfl) (kd_at lt_5_d 16 rfl) (kd_at lt_5_d 17 rfl) (kd_at lt_5_d 18 rfl) (kd_at lt_5_d 19 rfl) ?_
    refine lw_push (j := 2) (jj := 2) hG hS1 hl3 (by omega) rfl (kd_at lt_5_d 20 rfl) (kd_at lt_5_d 21 rfl) (kd_at lt_5_d 22 rfl) (kd_at lt_5_d 23 rfl) (kd_at lt_5_d 24 rfl) ?_
    refine lw_hq C hsa (z := 210) (na := 2) (cp := 47) (a := 61) (As := [.int (xs (i + 1)), .int (xs (i + 2))]) (d := 24) (restM := []) pz_210 lk_m5 ll_m5 rfl he1 (Nat.le_of_ble_eq_true rfl) (by decide) rfl (lm_5 hI1 (xs (i + 1)) (xs (i + 2))) (fun r w' q => by rw [q.1.1.1.1, hI1.1.1]) hP1 hD1' hS1 hl3.1 (by decide) (by decide) (by show cu + 1 ≤ 601024; omega) (by show su + 6 ≤ 7293034; omega) (by decide) (kd_at lt_5_d 25 rfl) ?_
    rintro r2 w2 H2 locs2 ⟨⟨hI2, hq2⟩, v2, rfl⟩ hP2 hD2 hS2 hz2 hk2
    have hH2 := lw_oq hG hH1 hI2 hP2 hD2 hS2 hz2 hk2
    refine lv_istore (lv' := (6, .int v2) :: lw_L ad b oq i) hx hb (kd_at lt_5_d 26 rfl) hl3 (by decide) rfl (fun ls4 hl4 => ?_)
    refine lv_goto (tgt := 1505) hx hb (kd_at lt_5_d 27 rfl) rfl ?_
    exact W.widen (by omega) (by omega) (kend H2 locs2 w2 ls4 hH2 (hE.q (hq1.tr hq2)) (lv_sub hl4 [1, 2, 3, 4, 5] rfl))
  obtain ⟨t2, a1, b1⟩ := k T' e1 X'
  exact ⟨t2, stp t2 a1, b1⟩
