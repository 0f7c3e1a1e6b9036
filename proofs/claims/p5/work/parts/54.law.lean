/-! ===== the law: loop and start; by program ===== -/
def lt_h : List (Nat × Instr × Nat) := [(0, .new 8, 3), (3, .dup, 1), (4, .invokespecial 15, 3), (7, .astore_n 1, 1), (8, .new 16, 3), (11, .dup, 1), (12, .invokespecial 18, 3), (15, .astore_n 2, 1), (16, .iconst 1, 1), (17, .newarray .long, 2), (19, .astore_n 3, 1), (20, .iconst 0, 1), (21, .istore 4, 2), (23, .iload 4, 2), (25, .aload_n 0, 1), (26, .arraylength, 1), (27, .bipush 6, 2), (29, .isub, 1), (30, .if_icmp .gt 1481, 3), (33, .aload_n 0, 1), (34, .iload 4, 2), (36, .iaload, 1), (37, .bipush 63, 2), (39, .iand, 1), (40, .tableswitch 1465 0 41 #[184, 257, 282, 295, 308, 345, 385, 422, 447, 484, 521, 558, 583, 620, 645, 670, 683, 720, 757, 782, 807, 832, 857, 894, 943, 968, 1005, 1054, 1091, 1104, 1129, 1142, 1191, 1216, 1253, 1302, 1327, 1352, 1365, 1390, 1415, 1440], 184), (1505, .iinc 4 6, 3), (1508, .goto (-1485), 3), (1511, .iconst 1, 1), (1512, .ireturn, 1)]
set_option maxRecDepth 100000 in
theorem lt_h_d : (lt_h.all fun q => decide (decode code q.1 = .ok (q.2.1, q.2.2))) = true := by decide +kernel
theorem lw_t6 : (Int8.ofInt 6).toInt32.toInt = 6 := by decide
theorem lw_t63 : (Int8.ofInt 63).toInt32.toInt = 63 := by decide
def lw_off : Array Int := #[184, 257, 282, 295, 308, 345, 385, 422, 447, 484, 521, 558, 583, 620, 645, 670, 683, 720, 757, 782, 807, 832, 857, 894, 943, 968, 1005, 1054, 1091, 1104, 1129, 1142, 1191, 1216, 1253, 1302, 1327, 1352, 1365, 1390, 1415, 1440]
theorem lw_loop {p : Program} {l : Launch} {e : Env} {s : State} {m : MethodId} {below : List Frame} {meth : Method} {c : Code} {D : va_G} {cA : Nat → ClassId} {sa sv : Nat} {ad : Nat → Nat} {b N oq : Nat} {xs : Nat → Int32} (hst : l.stackTraces = false) (hZ : mm_Z (fun q => s.heap.size ≤ q) s) (hG : lw_G p s m c meth D cA sa sv ad b N oq xs) : ∀ (n i : Nat) {H : Heap} {locs : List Loc} {ls : Array Slot} {w : pi_W}, N < i + n → i ≤ N → lw_H s D cA ad oq w H locs → lw_e w → lv_has ls 7 (lw_L ad b oq i) → W p l e room_1 s m #[Value.ref b] below meth c H locs (200 + i) (100000 + 6 * i) (lw_Z below #[Value.ref b] s) (F0 m 23 ls []) := by
  intro n
  induction n with
  | zero => intro i H locs ls w h1 h2; omega
  | succ n ih =>
    intro i H locs ls w h1 h2 hH hE hl
    obtain ⟨hI, hP, hD, hS, ho1, ho2, hof⟩ := id hH
    obtain ⟨C, hsa, hX, hbl, hN, -, hret, hlocks⟩ := id hG
    have hx := C.1
    have hb := C.2.1
    have hbA : ¬ (fun q : Nat => s.heap.size ≤ q) b := Nat.not_le.mpr hbl
    have ti : (Int32.ofNat i).toInt = (i : Int) := Int32.toInt_ofNat_of_lt (by omega)
    have tN : (Int32.ofNat N).toInt = (N : Int) := Int32.toInt_ofNat_of_lt (by omega)
    refine lv_iload hx hb (kd_at lt_h_d 13 rfl) (lv_at hl 4 rfl) ?_
    refine lv_aload_n hx hb (kd_at lt_h_d 14 rfl) rfl (lv_at hl 0 rfl) ?_
    refine va_slen hx hb hX hbl hbA hS (kd_at lt_h_d 15 rfl) ?_
    refine lv_bipush hx hb (kd_at lt_h_d 16 rfl) rfl ?_
    refine lv_isub hx hb (kd_at lt_h_d 17 rfl) ?_
    have tx : (Int32.ofNat N - (Int8.ofInt 6).toInt32).toInt = (N : Int) - 6 := by
      rw [Int32.toInt_sub, tN, lw_t6]
      apply Int.bmod_eq_of_le <;> omega
    refine lv_icmp_gt (tgt := 1511) hx hb (kd_at lt_h_d 18 rfl) rfl (fun hgt => ?_) (fun hle => ?_)
    · refine lv_iconst hx hb (kd_at lt_h_d 27 rfl) rfl ?_
      refine va_forget (fun q hq => hS.2.2 q hq) ?_
      exact W.widen (by omega) (by omega) (lw_ret hx hb hret hlocks (kd_at lt_h_d 28 rfl))
    · have hi6 : i + 6 ≤ N := by
        rw [Int32.lt_iff_toInt_lt, tx, ti] at hle
        omega
      refine lv_aload_n hx hb (kd_at lt_h_d 19 rfl) rfl (lv_at hl 0 rfl) ?_
      refine lv_iload hx hb (kd_at lt_h_d 20 rfl) (lv_at hl 4 rfl) ?_
      have ec := af_cl (x := Int32.ofNat i) (by rw [ti]; omega)
      have en : (Int32.ofNat i).toNatClampNeg = i := by
        have := ec.2
        rw [ti] at this
        omega
      refine va_sld hx hb hX hbl hbA hS (i := Int32.ofNat i) (by
        rintro (q | q)
        · exact ec.1 q
        · rw [en] at q
          omega) (kd_at lt_h_d 21 rfl) ?_
      rw [en]
      refine lv_bipush hx hb (kd_at lt_h_d 22 rfl) rfl ?_
      refine lv_iand hx hb (kd_at lt_h_d 23 rfl) ?_
      have hr := af_and_r (xs i) ((Int8.ofInt 63).toInt32) (by rw [lw_t63]; decide)
      rw [lw_t63] at hr
      generalize xs i &&& (Int8.ofInt 63).toInt32 = t at hr ⊢
      have kend : ∀ (H1 : Heap) (locs1 : List Loc) (w1 : pi_W) (ls1 : Array Slot), lw_H s D cA ad oq w1 H1 locs1 → lw_e w1 → lv_has ls1 7 (lw_L ad b oq i) → W p l e room_1 s m #[Value.ref b] below meth c H1 locs1 (200 + i + 6) (100000 + 6 * i + 36) (lw_Z below #[Value.ref b] s) (F0 m 1505 ls1 []) := by
        intro H1 locs1 w1 ls1 hH1 hE1 hl1
        have e6 : Int32.ofNat i + Int32.ofInt 6 = Int32.ofNat (i + 6) := by
          rw [Int32.ofNat_add]
          rfl
        refine lv_iinc (v := Int32.ofNat (i + 6)) (lv' := [(4, .int (Int32.ofNat (i + 6))), (0, .ref b), (1, .ref (ad 0)), (2, .ref (ad 61)), (3, .ref oq)]) hx hb (kd_at lt_h_d 25 rfl) hl1 (k := 4) rfl e6 (by decide) rfl (fun ls2 hl2 => ?_)
        refine lv_goto (tgt := 23) hx hb (kd_at lt_h_d 26 rfl) rfl ?_
        have hl3 : lv_has ls2 7 (lw_L ad b oq (i + 6)) := lv_sub hl2 [1, 2, 3, 4, 0] rfl
        have k := ih (i + 6) (by omega) hi6 hH1 hE1 hl3
        have e1 : 200 + (i + 6) = 200 + i + 6 := by omega
        have e2 : 100000 + 6 * (i + 6) = 100000 + 6 * i + 36 := by omega
        rw [e1, e2] at k
        exact k
      have hcs : 41 < t.toInt ∨ t.toInt = 0 ∨ t.toInt = 1 ∨ t.toInt = 2 ∨ t.toInt = 3 ∨ t.toInt = 4 ∨ t.toInt = 5 ∨ t.toInt = 6 ∨ t.toInt = 7 ∨ t.toInt = 8 ∨ t.toInt = 9 ∨ t.toInt = 10 ∨ t.toInt = 11 ∨ t.toInt = 12 ∨ t.toInt = 13 ∨ t.toInt = 14 ∨ t.toInt = 15 ∨ t.toInt = 16 ∨ t.toInt = 17 ∨ t.toInt = 18 ∨ t.toInt = 19 ∨ t.toInt = 20 ∨ t.toInt = 21 ∨ t.toInt = 22 ∨ t.toInt = 23 ∨ t.toInt = 24 ∨ t.toInt = 25 ∨ t.toInt = 26 ∨ t.toInt = 27 ∨ t.toInt = 28 ∨ t.toInt = 29 ∨ t.toInt = 30 ∨ t.toInt = 31 ∨ t.toInt = 32 ∨ t.toInt = 33 ∨ t.toInt = 34 ∨ t.toInt = 35 ∨ t.toInt = 36 ∨ t.toInt = 37 ∨ t.toInt = 38 ∨ t.toInt = 39 ∨ t.toInt = 40 ∨ t.toInt = 41 := by omega
      rcases hcs with h | h | h | h | h | h | h | h | h | h | h | h | h | h | h | h | h | h | h | h | h | h | h | h | h | h | h | h | h | h | h | h | h | h | h | h | h | h | h | h | h | h | h
      · refine lv_tableOut (tgt := 1505) hx hb (kd_at lt_h_d 24 rfl) (Or.inr h) rfl ?_
        exact W.widen (by omega) (by omega) (kend H locs w ls hH hE hl)
      · refine lv_tableIn (off := 184) (tgt := 224) hx hb (kd_at lt_h_d 24 rfl) (by omega) (by omega) (by rw [h]; rfl) rfl ?_
        exact lc_case0 hG hH hE hl hi6 (by omega) (by omega) kend
      · refine lv_tableIn (off := 257) (tgt := 297) hx hb (kd_at lt_h_d 24 rfl) (by omega) (by omega) (by rw [h]; rfl) rfl ?_
        exact lc_case1 hG hH hE hl hi6 (by omega) (by omega) kend
      · refine lv_tableIn (off := 282) (tgt := 322) hx hb (kd_at lt_h_d 24 rfl) (by omega) (by omega) (by rw [h]; rfl) rfl ?_
        exact lc_case2 hG hH hE hl hi6 (by omega) (by omega) kend
      · refine lv_tableIn (off := 295) (tgt := 335) hx hb (kd_at lt_h_d 24 rfl) (by omega) (by omega) (by rw [h]; rfl) rfl ?_
        exact lc_case3 hG hH hE hl hi6 (by omega) (by omega) kend
      · refine lv_tableIn (off := 308) (tgt := 348) hx hb (kd_at lt_h_d 24 rfl) (by omega) (by omega) (by rw [h]; rfl) rfl ?_
        exact lc_case4 hG hH hE hl hi6 (by omega) (by omega) kend
      · refine lv_tableIn (off := 345) (tgt := 385) hx hb (kd_at lt_h_d 24 rfl) (by omega) (by omega) (by rw [h]; rfl) rfl ?_
        exact lc_case5 hst hZ hG hH hE hl hi6 (by omega) (by omega) kend
      · refine lv_tableIn (off := 385) (tgt := 425) hx hb (kd_at lt_h_d 24 rfl) (by omega) (by omega) (by rw [h]; rfl) rfl ?_
        exact lc_case6 hG hH hE hl hi6 (by omega) (by omega) kend
      · refine lv_tableIn (off := 422) (tgt := 462) hx hb (kd_at lt_h_d 24 rfl) (by omega) (by omega) (by rw [h]; rfl) rfl ?_
        exact lc_case7 hG hH hE hl hi6 (by omega) (by omega) kend
      · refine lv_tableIn (off := 447) (tgt := 487) hx hb (kd_at lt_h_d 24 rfl) (by omega) (by omega) (by rw [h]; rfl) rfl ?_
        exact lc_case8 hG hH hE hl hi6 (by omega) (by omega) kend
      · refine lv_tableIn (off := 484) (tgt := 524) hx hb (kd_at lt_h_d 24 rfl) (by omega) (by omega) (by rw [h]; rfl) rfl ?_
        exact lc_case9 hG hH hE hl hi6 (by omega) (by omega) kend
      · refine lv_tableIn (off := 521) (tgt := 561) hx hb (kd_at lt_h_d 24 rfl) (by omega) (by omega) (by rw [h]; rfl) rfl ?_
        exact lc_case10 hG hH hE hl hi6 (by omega) (by omega) kend
      · refine lv_tableIn (off := 558) (tgt := 598) hx hb (kd_at lt_h_d 24 rfl) (by omega) (by omega) (by rw [h]; rfl) rfl ?_
        exact lc_case11 hG hH hE hl hi6 (by omega) (by omega) kend
      · refine lv_tableIn (off := 583) (tgt := 623) hx hb (kd_at lt_h_d 24 rfl) (by omega) (by omega) (by rw [h]; rfl) rfl ?_
        exact lc_case12 hG hH hE hl hi6 (by omega) (by omega) kend
      · refine lv_tableIn (off := 620) (tgt := 660) hx hb (kd_at lt_h_d 24 rfl) (by omega) (by omega) (by rw [h]; rfl) rfl ?_
        exact lc_case13 hG hH hE hl hi6 (by omega) (by omega) kend
      · refine lv_tableIn (off := 645) (tgt := 685) hx hb (kd_at lt_h_d 24 rfl) (by omega) (by omega) (by rw [h]; rfl) rfl ?_
        exact lc_case14 hG hH hE hl hi6 (by omega) (by omega) kend
      · refine lv_tableIn (off := 670) (tgt := 710) hx hb (kd_at lt_h_d 24 rfl) (by omega) (by omega) (by rw [h]; rfl) rfl ?_
        exact lc_case15 hG hH hE hl hi6 (by omega) (by omega) kend
      · refine lv_tableIn (off := 683) (tgt := 723) hx hb (kd_at lt_h_d 24 rfl) (by omega) (by omega) (by rw [h]; rfl) rfl ?_
        exact lc_case16 hG hH hE hl hi6 (by omega) (by omega) kend
      · refine lv_tableIn (off := 720) (tgt := 760) hx hb (kd_at lt_h_d 24 rfl) (by omega) (by omega) (by rw [h]; rfl) rfl ?_
        exact lc_case17 hG hH hE hl hi6 (by omega) (by omega) kend
      · refine lv_tableIn (off := 757) (tgt := 797) hx hb (kd_at lt_h_d 24 rfl) (by omega) (by omega) (by rw [h]; rfl) rfl ?_
        exact lc_case18 hG hH hE hl hi6 (by omega) (by omega) kend
      · refine lv_tableIn (off := 782) (tgt := 822) hx hb (kd_at lt_h_d 24 rfl) (by omega) (by omega) (by rw [h]; rfl) rfl ?_
        exact lc_case19 hG hH hE hl hi6 (by omega) (by omega) kend
      · refine lv_tableIn (off := 807) (tgt := 847) hx hb (kd_at lt_h_d 24 rfl) (by omega) (by omega) (by rw [h]; rfl) rfl ?_
        exact lc_case20 hG hH hE hl hi6 (by omega) (by omega) kend
      · refine lv_tableIn (off := 832) (tgt := 872) hx hb (kd_at lt_h_d 24 rfl) (by omega) (by omega) (by rw [h]; rfl) rfl ?_
        exact lc_case21 hG hH hE hl hi6 (by omega) (by omega) kend
      · refine lv_tableIn (off := 857) (tgt := 897) hx hb (kd_at lt_h_d 24 rfl) (by omega) (by omega) (by rw [h]; rfl) rfl ?_
        exact lc_case22 hG hH hE hl hi6 (by omega) (by omega) kend
      · refine lv_tableIn (off := 894) (tgt := 934) hx hb (kd_at lt_h_d 24 rfl) (by omega) (by omega) (by rw [h]; rfl) rfl ?_
        exact lc_case23 hG hH hE hl hi6 (by omega) (by omega) kend
      · refine lv_tableIn (off := 943) (tgt := 983) hx hb (kd_at lt_h_d 24 rfl) (by omega) (by omega) (by rw [h]; rfl) rfl ?_
        exact lc_case24 hG hH hE hl hi6 (by omega) (by omega) kend
      · refine lv_tableIn (off := 968) (tgt := 1008) hx hb (kd_at lt_h_d 24 rfl) (by omega) (by omega) (by rw [h]; rfl) rfl ?_
        exact lc_case25 hG hH hE hl hi6 (by omega) (by omega) kend
      · refine lv_tableIn (off := 1005) (tgt := 1045) hx hb (kd_at lt_h_d 24 rfl) (by omega) (by omega) (by rw [h]; rfl) rfl ?_
        exact lc_case26 hG hH hE hl hi6 (by omega) (by omega) kend
      · refine lv_tableIn (off := 1054) (tgt := 1094) hx hb (kd_at lt_h_d 24 rfl) (by omega) (by omega) (by rw [h]; rfl) rfl ?_
        exact lc_case27 hG hH hE hl hi6 (by omega) (by omega) kend
      · refine lv_tableIn (off := 1091) (tgt := 1131) hx hb (kd_at lt_h_d 24 rfl) (by omega) (by omega) (by rw [h]; rfl) rfl ?_
        exact lc_case28 hG hH hE hl hi6 (by omega) (by omega) kend
      · refine lv_tableIn (off := 1104) (tgt := 1144) hx hb (kd_at lt_h_d 24 rfl) (by omega) (by omega) (by rw [h]; rfl) rfl ?_
        exact lc_case29 hG hH hE hl hi6 (by omega) (by omega) kend
      · refine lv_tableIn (off := 1129) (tgt := 1169) hx hb (kd_at lt_h_d 24 rfl) (by omega) (by omega) (by rw [h]; rfl) rfl ?_
        exact lc_case30 hG hH hE hl hi6 (by omega) (by omega) kend
      · refine lv_tableIn (off := 1142) (tgt := 1182) hx hb (kd_at lt_h_d 24 rfl) (by omega) (by omega) (by rw [h]; rfl) rfl ?_
        exact lc_case31 hG hH hE hl hi6 (by omega) (by omega) kend
      · refine lv_tableIn (off := 1191) (tgt := 1231) hx hb (kd_at lt_h_d 24 rfl) (by omega) (by omega) (by rw [h]; rfl) rfl ?_
        exact lc_case32 hG hH hE hl hi6 (by omega) (by omega) kend
      · refine lv_tableIn (off := 1216) (tgt := 1256) hx hb (kd_at lt_h_d 24 rfl) (by omega) (by omega) (by rw [h]; rfl) rfl ?_
        exact lc_case33 hG hH hE hl hi6 (by omega) (by omega) kend
      · refine lv_tableIn (off := 1253) (tgt := 1293) hx hb (kd_at lt_h_d 24 rfl) (by omega) (by omega) (by rw [h]; rfl) rfl ?_
        exact lc_case34 hG hH hE hl hi6 (by omega) (by omega) kend
      · refine lv_tableIn (off := 1302) (tgt := 1342) hx hb (kd_at lt_h_d 24 rfl) (by omega) (by omega) (by rw [h]; rfl) rfl ?_
        exact lc_case35 hG hH hE hl hi6 (by omega) (by omega) kend
      · refine lv_tableIn (off := 1327) (tgt := 1367) hx hb (kd_at lt_h_d 24 rfl) (by omega) (by omega) (by rw [h]; rfl) rfl ?_
        exact lc_case36 hG hH hE hl hi6 (by omega) (by omega) kend
      · refine lv_tableIn (off := 1352) (tgt := 1392) hx hb (kd_at lt_h_d 24 rfl) (by omega) (by omega) (by rw [h]; rfl) rfl ?_
        exact lc_case37 hG hH hE hl hi6 (by omega) (by omega) kend
      · refine lv_tableIn (off := 1365) (tgt := 1405) hx hb (kd_at lt_h_d 24 rfl) (by omega) (by omega) (by rw [h]; rfl) rfl ?_
        exact lc_case38 hG hH hE hl hi6 (by omega) (by omega) kend
      · refine lv_tableIn (off := 1390) (tgt := 1430) hx hb (kd_at lt_h_d 24 rfl) (by omega) (by omega) (by rw [h]; rfl) rfl ?_
        exact lc_case39 hG hH hE hl hi6 (by omega) (by omega) kend
      · refine lv_tableIn (off := 1415) (tgt := 1455) hx hb (kd_at lt_h_d 24 rfl) (by omega) (by omega) (by rw [h]; rfl) rfl ?_
        exact lc_case40 hG hH hE hl hi6 (by omega) (by omega) kend
      · refine lv_tableIn (off := 1440) (tgt := 1480) hx hb (kd_at lt_h_d 24 rfl) (by omega) (by omega) (by rw [h]; rfl) rfl ?_
        exact lc_case41 hG hH hE hl hi6 (by omega) (by omega) kend
theorem lw_lk1 : Cond.classLink "ReadBoundLaw" 8 RX10 ∈ lw_tbl := by decide +kernel
theorem lw_lk2 : Cond.methodLink "ReadBoundLaw" 15 mn_110 ∈ lw_tbl := by decide +kernel
theorem lw_lk3 : Cond.classLink "ReadBoundLaw" 16 RX11 ∈ lw_tbl := by decide +kernel
theorem lw_lk4 : Cond.methodLink "ReadBoundLaw" 18 mn_172 ∈ lw_tbl := by decide +kernel
set_option maxRecDepth 100000 in
theorem pq_110 : pi_mt[110]? = some (mn_110, prog_1_method_1_code, cf_mX) := rfl
set_option maxRecDepth 100000 in
theorem pq_172 : pi_mt[172]? = some (mn_172, prog_13_method_12_code, cf_mM) := rfl
theorem lk_110 : pi_mk[110]? = some (0, false) := by decide +kernel
theorem lk_172 : pi_mk[172]? = some (0, false) := by decide +kernel
theorem lw_new {p : Program} {l : Launch} {e : Env} {R : Room} {s : State} {m : MethodId} {args : Array Value} {below : List Frame} {meth : Method} {c : Code} {Q : State → Prop} {D : va_G} {cA : Nat → ClassId} {sa sv : Nat} {A : Nat → Prop} {ad : Nat → Nat} {cu su : Nat} {H : Heap} {locs : List Loc} {ls : Array Slot} {pc cp ci n : Nat} {Cn : String} {T : u_T} {w : pi_W} {st : List Value} (C : lw_Cx p s m args c D cA sa sv A) (h1 : vwCl[ci]? = some (Cn, T, n)) (hlk : Cond.classLink "ReadBoundLaw" cp Cn ∈ lw_tbl) (hwl : w.length < pi_str) (hww : pi_wfW w.length w = true) (hP : va_P D vwCl (pi_rW cA ad w) H) (hD : va_D A (pi_rW cA ad w)) (hS : va_S A s.heap H locs) (hcells : cu + 1 ≤ R.cells) (hslots : su + n ≤ R.slots) (hd : decode code pc = .ok (.new cp, 3))
    (k : ∀ (qn : Nat) (ad' : Nat → Nat) (H1 : Heap), (∀ j, j ≠ w.length → ad' j = ad j) → ad' w.length = qn → va_P D vwCl (pi_rW cA ad' (w ++ [.inr (ci, pi_dflt ci n)])) H1 → va_D A (pi_rW cA ad' (w ++ [.inr (ci, pi_dflt ci n)])) → va_S A s.heap H1 locs → W p l e R s m args below meth c H1 locs (cu + 1) (su + n) Q (F0 m (pc + 3) ls (.ref qn :: st))) : W p l e R s m args below meth c H locs cu su Q (F0 m pc ls st) := by
  have hc := lc_all h1
  have hts := C.2.2.2.2.1
  refine va_new (ci := ci) (fs := pi_dflt ci n) (C := Cn) (T := T) (N := n) C.1 C.2.1 hts (fun w hw => pi_good_of (hc.2.1 w hw) (pi_lays_good hw)) (pi_ty ci) hc.2.2.1 C.2.2.2.1 (hts _ (pi_good_of hlk rfl)) (hts _ (pi_good_of hc.2.2.2.2.1 rfl)) (hts _ (pi_good_of hc.2.2.2.2.2.1 rfl)) C.2.2.2.2.2.1.1 hP hD hS C.2.2.2.2.2.2 h1 ?_ hcells hslots hd ?_
  · intro j hj
    simp [vp_V, pi_dflt, hj]
  · intro qn H1 p1 d1 s1
    have he := pi_upd_ext (ad := ad) (e := (.inr (ci, pi_dflt ci n) : pi_E)) (q := qn) hwl
    have e1 : pi_rW cA (fun j => if j = w.length then qn else ad j) (w ++ [.inr (ci, pi_dflt ci n)]) = pi_rW cA ad w ++ [(qn, .inr (ci, pi_dflt ci n))] := by
      rw [pi_rW_app, pi_rW_wf hww he.2.1]
      show _ ++ [(_, Sum.inr (ci, (pi_dflt ci n).map _))] = _
      rw [pi_dflt_rv]
      simp
    refine k qn (fun j => if j = w.length then qn else ad j) H1 (fun j hj => if_neg hj) (if_pos rfl) ?_ ?_ s1
    · rw [e1]
      exact p1
    · rw [e1]
      exact d1
theorem cf_z_ok {w : pi_W} {c i : Nat} (h : cf_z w c i = true) : af_wloc w c i = some (.int 0) := by
  unfold cf_z at h
  split at h
  · rename_i x hx
    have e : x = 0 := by simpa using h
    rw [hx, e]
  · cases h
theorem lw_I0 {w : pi_W} (hC : af_Conf aw_Sh w) (a1 : af_wloc w 63 230 = some (.int 0)) (a2 : af_wloc w 63 4 = some (.int 0)) (a3 : af_wloc w 76 230 = some (.int 0)) (a4 : af_wloc w 76 4 = some (.int 0)) (a5 : af_wloc w 76 641 = some (.int 0)) (a6 : af_wloc w 76 415 = some (.int 0)) : lw_I w := by
  obtain ⟨f63, h63⟩ := hq_arr hC hq_s63 (by decide)
  obtain ⟨f76, h76⟩ := hq_arr hC hq_s76 (by decide)
  refine ⟨hC, ⟨⟨0, fun j => f63 (0 + 231 + j), by decide, a1, fun j hj => h63 _ (by omega), 0, rfl⟩, ⟨0, fun j => f76 (0 + 231 + j), by decide, a3, fun j hj => h76 _ (by omega), 0, rfl⟩, ⟨0, fun j => f76 (411 + 231 + j), by decide, a5, fun j hj => h76 _ (by omega), 0, rfl⟩⟩, ⟨f63 0, 0, h63 0 (by decide), a2, Or.inl rfl⟩, ⟨f76 0, 0, h76 0 (by decide), a4, Or.inl rfl⟩, ⟨f76 411, 0, h76 411 (by decide), a6, Or.inl rfl⟩⟩
set_option maxHeartbeats 4000000 in
set_option maxRecDepth 100000 in
theorem whole_start {p : Program} {e : Env} {s : State} {m : MethodId} {below : List Frame} {meth : Method} {c : Code} (l : Launch) (hst : l.stackTraces = false) {b L : Nat} {xs : Nat → Int32} (hL : L ≤ 3072) (C0 : lw_At p s m meth c b L xs) : W p l e room_1 s m #[Value.ref b] below meth c s.heap [] 0 0 (lw_Z below #[Value.ref b] s) (entryFrame m ([Value.ref b] : List Value).toArray 7) := by
  obtain ⟨D, cA, sa, sv, hK⟩ := lw_K0 C0
  obtain ⟨hx, hb, hr, hml, hown, hts, hX, hbl, hlocks, hgv⟩ := id C0
  have hgood : ∀ w ∈ pi_good, w.before #[Value.ref b] s = true := fun w hw => hts w (List.mem_filter.mp hw).1
  have C : lw_Cx p s m #[Value.ref b] c D cA sa sv (fun q => s.heap.size ≤ q) := ⟨hx, hb, hml, hown, hgood, hK, fun q h => h⟩
  obtain ⟨ad, had⟩ : ∃ ad : Nat → Nat, ad pi_str = sa := ⟨fun _ => sa, rfl⟩
  have hP : va_P D vwCl (pi_rW cA ad []) s.heap := fun k q h => by simp [pi_rW] at h
  have hD : va_D (fun q : Nat => s.heap.size ≤ q) (pi_rW cA ad []) := ⟨fun i j p q h => by simp [pi_rW] at h, fun k q h => by simp [pi_rW] at h⟩
  have hS : va_S (fun q : Nat => s.heap.size ≤ q) s.heap s.heap [] := va_S.rf
  have hl := lv_entry ([.ref b]) (n := 7) (Nat.le_of_ble_eq_true rfl)
  rw [lg_entry_eq]
  generalize (lg_sl ([.ref b]) ++ List.replicate (7 - (lg_sl ([.ref b])).length) Slot.unset).toArray = ls at hl ⊢
  have hl : lv_has ls 7 [(0, .ref b)] := hl
  have hin := lw_init_ok
  unfold lw_init at hin
  split at hin
  · rename_i w1 c1 u1 hr1
    split at hin
    · rename_i w2 c2 u2 hr2
      simp only [Bool.and_eq_true, beq_iff_eq, decide_eq_true_eq] at hin
      obtain ⟨i1, i2, i3, i4, i5, i6, i7, i8, i9, i10, i11, i12, z1, z2, z3, z4, z5, z6, z7⟩ := hin
      have hI := lw_I0 (cf_W_ok i2) (cf_z_ok i3) (cf_z_ok i4) (cf_z_ok i5) (cf_z_ok i6) (cf_z_ok i7) (cf_z_ok i8)
      have hE0 : lw_e w2 := ⟨by rw [gI_of (cf_z_ok z1), gI_of (cf_z_ok z2)], by rw [gI_of (cf_z_ok z3), gI_of (cf_z_ok z5)], by rw [gI_of (cf_z_ok z4), gI_of (cf_z_ok z6)], (cf_t_ok z7).1, (cf_t_ok z7).2.1, (cf_t_ok z7).2.2.1, (cf_t_ok z7).2.2.2.1, (cf_t_ok z7).2.2.2.2.1, (cf_t_ok z7).2.2.2.2.2.1, by unfold ft_e; rw [gvI, gvI, (cf_t_ok z7).2.2.2.2.2.2.1, (cf_t_ok z7).2.2.2.2.2.2.2]⟩
      have i13 : w2.length = 79 := by
        have h1 := hI.1.1
        have h2 : aw_Sh.length = 79 := by decide
        omega
      refine lw_new (ci := 10) (Cn := RX10) (n := 19) (w := []) C rfl lw_lk1 (by decide) rfl hP hD hS (by decide) (by decide) (kd_at lt_h_d 0 rfl) ?_
      intro q1 ad1 H1 ha1 ha1' hP1 hD1 hS1
      refine lv_dup hx hb (kd_at lt_h_d 1 rfl) rfl ?_
      have had1 : ad1 pi_str = sa := (ha1 pi_str (by decide)).trans had
      have e1 : ad1 0 = q1 := ha1'
      subst e1
      refine lw_behind C hP1 hD1 hS1 (lw_runI (a := 0) (As := []) (restM := [.ref (ad1 0)]) C had1 pq_110 lk_110 lw_lk2 rfl rfl (Nat.le_of_ble_eq_true rfl) (by decide) rfl hr1 hP1 hD1 hS1 hl.1 (by decide) (by decide) (by show 0 + 1 + c1 ≤ 601024; omega) (by show 0 + 19 + u1 ≤ 7293034; omega) (Nat.le_of_ble_eq_true rfl) (kd_at lt_h_d 2 rfl)) ?_
      intro ad2 H2 locs2 hx2 hP2 hD2 hS2 hz2 hk2
      have had2 : ad2 pi_str = sa := (hx2.2.1 pi_str (Or.inr rfl)).trans had1
      have e20 : ad2 0 = ad1 0 := hx2.2.1 0 (Or.inl (by decide))
      refine lv_astore_n (x := ad1 0) (lv' := [(1, .ref (ad1 0)), (0, .ref b)]) hx hb (kd_at lt_h_d 3 rfl) rfl hl (by decide) rfl (fun ls2 hl2 => ?_)
      refine lw_new (ci := 11) (Cn := RX11) (n := 45) (w := w1) C rfl lw_lk3 (by rw [i1]; decide) (by rw [i1]; exact i9) hP2 hD2 hS2 (by show 0 + 1 + c1 + 1 ≤ 601024; omega) (by show 0 + 19 + u1 + 45 ≤ 7293034; omega) (kd_at lt_h_d 4 rfl) ?_
      intro q3 ad3 H3 ha3 ha3' hP3 hD3 hS3
      rw [i1] at ha3 ha3'
      refine lv_dup hx hb (kd_at lt_h_d 5 rfl) rfl ?_
      have had3 : ad3 pi_str = sa := (ha3 pi_str (by decide)).trans had2
      subst ha3'
      refine lw_behind C hP3 hD3 hS3 (lw_runI (a := 61) (As := []) (restM := [.ref (ad3 61)]) C had3 pq_172 lk_172 lw_lk4 rfl rfl (Nat.le_of_ble_eq_true rfl) (by decide) rfl hr2 hP3 hD3 hS3 hl2.1 (by decide) (by decide) (by show 0 + 1 + c1 + 1 + c2 ≤ 601024; omega) (by show 0 + 19 + u1 + 45 + u2 ≤ 7293034; omega) (Nat.le_of_ble_eq_true rfl) (kd_at lt_h_d 6 rfl)) ?_
      intro ad4 H4 locs4 hx4 hP4 hD4 hS4 hz4 hk4
      have hlen : (w1 ++ [Sum.inr (11, pi_dflt 11 45)]).length = 62 := by rw [List.length_append, i1]; rfl
      have had4 : ad4 pi_str = sa := (hx4.2.1 pi_str (Or.inr rfl)).trans had3
      have e40 : ad4 0 = ad1 0 := (hx4.2.1 0 (Or.inl (by omega))).trans ((ha3 0 (by decide)).trans e20)
      have e461 : ad4 61 = ad3 61 := hx4.2.1 61 (Or.inl (by omega))
      refine lv_astore_n (x := ad3 61) (lv' := [(2, .ref (ad3 61)), (1, .ref (ad1 0)), (0, .ref b)]) hx hb (kd_at lt_h_d 7 rfl) rfl hl2 (by decide) rfl (fun ls4 hl4 => ?_)
      refine lv_iconst (v := 1) hx hb (kd_at lt_h_d 8 rfl) rfl ?_
      refine va_newaK (N := 1) hx hb (hts (Cond.arrayClass (newarray.typeOf .long)) wd_aL) (g := F0 m 17 ls4 [.int 1]) rfl (kd_at lt_h_d 9 rfl) rfl (by decide) rfl (by decide) (by show 0 + 1 + c1 + 1 + c2 + 1 ≤ 601024; omega) (by show 0 + 19 + u1 + 45 + u2 + 1 ≤ 7293034; omega) rfl ?_
      intro H5 cL hq5 hz5 hk5 hA5 hf5
      have hcL : cL = cA 2 := pi_RA (D := D) (s := s) C.2.2.2.2.2.1.1 (t := 2) (ty := .long) rfl (fun C h => by cases h) hf5
      subst hcL
      have hS5 : va_S (fun q : Nat => s.heap.size ≤ q) s.heap H5 locs4 := ⟨by rw [hz5]; exact Nat.le_succ_of_le hS4.1, fun q h1 h2 => by rw [hk5 q (Nat.lt_of_lt_of_le h1 hS4.1)]; exact hS4.2.1 q h1 h2, hS4.2.2⟩
      have hP5 : va_P D vwCl (pi_rW cA ad4 w2) H5 := hP4.kept (fun k q hk => hk5 _ (hP4 k q hk).lt)
      refine lv_astore_n (x := H4.size) (lv' := [(3, .ref H4.size), (2, .ref (ad3 61)), (1, .ref (ad1 0)), (0, .ref b)]) hx hb (kd_at lt_h_d 10 rfl) rfl hl4 (by decide) rfl (fun ls5 hl5 => ?_)
      refine lv_iconst (v := 0) hx hb (kd_at lt_h_d 11 rfl) rfl ?_
      refine lv_istore (lv' := [(4, .int 0), (3, .ref H4.size), (2, .ref (ad3 61)), (1, .ref (ad1 0)), (0, .ref b)]) hx hb (kd_at lt_h_d 12 rfl) hl5 (by decide) rfl (fun ls6 hl6 => ?_)
      have hl7 : lv_has ls6 7 (lw_L ad4 b H4.size 0) := by
        unfold lw_L
        rw [e40, e461]
        exact lv_sub hl6 [4, 3, 2, 1, 0] rfl
      have hG : lw_G p s m c meth D cA sa sv ad4 b L H4.size xs := by
        refine ⟨C, had4, hX, hbl, hL, fun k hk h => ?_, hr, hlocks⟩
        have hk2 : k < w2.length := by omega
        have h3 : (pi_rW cA ad4 w2)[k]? = some (ad4 k, pi_rE cA ad4 w2[k]) := by
          rw [pi_rW_get, List.getElem?_eq_getElem hk2]
          rfl
        have h4 := (hP4 k _ h3).lt
        dsimp only at h4
        omega
      have hH : lw_H s D cA ad4 H4.size w2 H5 locs4 := ⟨hI, hP5, hD4, hS5, by rw [hz5]; omega, hS4.1, fun _ => 0, hq5⟩
      have k := lw_loop (l := l) (e := e) (below := below) hst (lw_Z0 C0) hG (L + 1) 0 (by omega) (Nat.zero_le _) hH hE0 hl7
      exact W.widen (by omega) (by omega) k
    · cases hin
  · cases hin
