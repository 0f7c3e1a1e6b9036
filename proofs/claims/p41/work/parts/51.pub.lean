/-! ===== what the calls do to the state between calls; by program ===== -/
theorem lpub_0 {K : af_K} {d d' y root : Nat} {yy : MethodName} {cc : ByteArray} {mz : pi_M} {w : pi_W} (hH : af_Holds aw_Sh d' K) (hz : K.1 = y) (hmz : pi_mt[y]? = some (yy, cc, mz)) (hpre : K.2.2.1 = (0, [.inr (.inl root)], [], ([], [], []))) (hM : lw_mok K.2.2.2.1 = true) (hP : (K.2.2.2.2.all (fun P => match P.2.1 with
    | [.inl _] => true
    | _ => false)) = true) (hd : d' ≤ d) (hI : lw_I w) : hq_F d mz (fun r w' => lw_I w' ∧ ∃ v : Int32, r = some (.int v)) (0, lv_args 0 [.ref root], [], w) := by
  subst hz
  have hi : ∀ u : Int32, (-2147483648 : Int) ≤ u.toInt ∧ u.toInt ≤ 2147483647 := fun u => af_i32 u
  refine (hq_holds (mz := mz) hH hd hmz (fun _ => 0) hI.1 ?_ ?_ ?_).imp ?_
  · rw [hpre]
    exact ⟨rfl, trivial⟩
  · rw [hpre]
    exact fun e he => by cases he
  · rw [hpre]
    refine ⟨?_, (fun e he => by cases he), (fun e he => by cases he)⟩
    intro x hx
    cases hx
  · rintro r w' ⟨q1, q2, P, hPm, ρ2, -, hst, -⟩
    exact ⟨hI.fr q1 q2 hM, hd_r1 hP ⟨P, hPm, _, ρ2, hst⟩⟩
theorem lpub_1 {K : af_K} {d d' y root : Nat} {yy : MethodName} {cc : ByteArray} {mz : pi_M} {w : pi_W} (hH : af_Holds aw_Sh d' K) (hz : K.1 = y) (hmz : pi_mt[y]? = some (yy, cc, mz)) (hpre : K.2.2.1 = (1, [.inr (.inl root), .inl (0, [0])], [], ([(0, (-2147483648), 2147483647)], [], []))) (hM : lw_mok K.2.2.2.1 = true) (hP : (K.2.2.2.2.all (fun P => match P.2.1 with
    | [.inl _] => true
    | _ => false)) = true) (hd : d' ≤ d) (hI : lw_I w) (x1 : Int32) : hq_F d mz (fun r w' => lw_I w' ∧ ∃ v : Int32, r = some (.int v)) (0, lv_args 0 [.ref root, .int x1], [], w) := by
  subst hz
  have hi : ∀ u : Int32, (-2147483648 : Int) ≤ u.toInt ∧ u.toInt ≤ 2147483647 := fun u => af_i32 u
  have i1 := hi x1
  refine (hq_holds (mz := mz) hH hd hmz (fun v => x1.toInt) hI.1 ?_ ?_ ?_).imp ?_
  · rw [hpre]
    exact ⟨rfl, ⟨(fun v hv => by simp at hv; omega), x1, rfl, by simp [af_ev]⟩, trivial⟩
  · rw [hpre]
    exact fun e he => by cases he
  · rw [hpre]
    refine ⟨?_, (fun e he => by cases he), (fun e he => by cases he)⟩
    intro x hx
    simp only [List.mem_cons, List.not_mem_nil, or_false] at hx
    rcases hx with rfl <;> refine ⟨Nat.le_of_ble_eq_true rfl, ?_⟩ <;> simp <;> omega
  · rintro r w' ⟨q1, q2, P, hPm, ρ2, -, hst, -⟩
    exact ⟨hI.fr q1 q2 hM, hd_r1 hP ⟨P, hPm, _, ρ2, hst⟩⟩
theorem lpub_2 {K : af_K} {d d' y root : Nat} {yy : MethodName} {cc : ByteArray} {mz : pi_M} {w : pi_W} (hH : af_Holds aw_Sh d' K) (hz : K.1 = y) (hmz : pi_mt[y]? = some (yy, cc, mz)) (hpre : K.2.2.1 = (2, [.inr (.inl root), .inl (0, [0]), .inl (0, [1])], [], ([(0, (-2147483648), 2147483647), (1, (-2147483648), 2147483647)], [], []))) (hM : lw_mok K.2.2.2.1 = true) (hP : (K.2.2.2.2.all (fun P => match P.2.1 with
    | [.inl _] => true
    | _ => false)) = true) (hd : d' ≤ d) (hI : lw_I w) (x1 x2 : Int32) : hq_F d mz (fun r w' => lw_I w' ∧ ∃ v : Int32, r = some (.int v)) (0, lv_args 0 [.ref root, .int x1, .int x2], [], w) := by
  subst hz
  have hi : ∀ u : Int32, (-2147483648 : Int) ≤ u.toInt ∧ u.toInt ≤ 2147483647 := fun u => af_i32 u
  have i1 := hi x1
  have i2 := hi x2
  refine (hq_holds (mz := mz) hH hd hmz (fun v => if v = 0 then x1.toInt else x2.toInt) hI.1 ?_ ?_ ?_).imp ?_
  · rw [hpre]
    exact ⟨rfl, ⟨(fun v hv => by simp at hv; omega), x1, rfl, by simp [af_ev]⟩, ⟨(fun v hv => by simp at hv; omega), x2, rfl, by simp [af_ev]⟩, trivial⟩
  · rw [hpre]
    exact fun e he => by cases he
  · rw [hpre]
    refine ⟨?_, (fun e he => by cases he), (fun e he => by cases he)⟩
    intro x hx
    simp only [List.mem_cons, List.not_mem_nil, or_false] at hx
    rcases hx with rfl | rfl <;> refine ⟨Nat.le_of_ble_eq_true rfl, ?_⟩ <;> simp <;> omega
  · rintro r w' ⟨q1, q2, P, hPm, ρ2, -, hst, -⟩
    exact ⟨hI.fr q1 q2 hM, hd_r1 hP ⟨P, hPm, _, ρ2, hst⟩⟩
theorem lpub_3 {K : af_K} {d d' y root : Nat} {yy : MethodName} {cc : ByteArray} {mz : pi_M} {w : pi_W} (hH : af_Holds aw_Sh d' K) (hz : K.1 = y) (hmz : pi_mt[y]? = some (yy, cc, mz)) (hpre : K.2.2.1 = (3, [.inr (.inl root), .inl (0, [0]), .inl (0, [1]), .inl (0, [2])], [], ([(0, (-2147483648), 2147483647), (1, (-2147483648), 2147483647), (2, (-2147483648), 2147483647)], [], []))) (hM : lw_mok K.2.2.2.1 = true) (hP : (K.2.2.2.2.all (fun P => match P.2.1 with
    | [.inl _] => true
    | _ => false)) = true) (hd : d' ≤ d) (hI : lw_I w) (x1 x2 x3 : Int32) : hq_F d mz (fun r w' => lw_I w' ∧ ∃ v : Int32, r = some (.int v)) (0, lv_args 0 [.ref root, .int x1, .int x2, .int x3], [], w) := by
  subst hz
  have hi : ∀ u : Int32, (-2147483648 : Int) ≤ u.toInt ∧ u.toInt ≤ 2147483647 := fun u => af_i32 u
  have i1 := hi x1
  have i2 := hi x2
  have i3 := hi x3
  refine (hq_holds (mz := mz) hH hd hmz (fun v => if v = 0 then x1.toInt else if v = 1 then x2.toInt else x3.toInt) hI.1 ?_ ?_ ?_).imp ?_
  · rw [hpre]
    exact ⟨rfl, ⟨(fun v hv => by simp at hv; omega), x1, rfl, by simp [af_ev]⟩, ⟨(fun v hv => by simp at hv; omega), x2, rfl, by simp [af_ev]⟩, ⟨(fun v hv => by simp at hv; omega), x3, rfl, by simp [af_ev]⟩, trivial⟩
  · rw [hpre]
    exact fun e he => by cases he
  · rw [hpre]
    refine ⟨?_, (fun e he => by cases he), (fun e he => by cases he)⟩
    intro x hx
    simp only [List.mem_cons, List.not_mem_nil, or_false] at hx
    rcases hx with rfl | rfl | rfl <;> refine ⟨Nat.le_of_ble_eq_true rfl, ?_⟩ <;> simp <;> omega
  · rintro r w' ⟨q1, q2, P, hPm, ρ2, -, hst, -⟩
    exact ⟨hI.fr q1 q2 hM, hd_r1 hP ⟨P, hPm, _, ρ2, hst⟩⟩
theorem lpub_5 {K : af_K} {d d' y root : Nat} {yy : MethodName} {cc : ByteArray} {mz : pi_M} {w : pi_W} (hH : af_Holds aw_Sh d' K) (hz : K.1 = y) (hmz : pi_mt[y]? = some (yy, cc, mz)) (hpre : K.2.2.1 = (5, [.inr (.inl root), .inl (0, [0]), .inl (0, [1]), .inl (0, [2]), .inl (0, [3]), .inl (0, [4])], [], ([(0, (-2147483648), 2147483647), (1, (-2147483648), 2147483647), (2, (-2147483648), 2147483647), (3, (-2147483648), 2147483647), (4, (-2147483648), 2147483647)], [], []))) (hM : lw_mok K.2.2.2.1 = true) (hP : (K.2.2.2.2.all (fun P => match P.2.1 with
    | [.inl _] => true
    | _ => false)) = true) (hd : d' ≤ d) (hI : lw_I w) (x1 x2 x3 x4 x5 : Int32) : hq_F d mz (fun r w' => lw_I w' ∧ ∃ v : Int32, r = some (.int v)) (0, lv_args 0 [.ref root, .int x1, .int x2, .int x3, .int x4, .int x5], [], w) := by
  subst hz
  have hi : ∀ u : Int32, (-2147483648 : Int) ≤ u.toInt ∧ u.toInt ≤ 2147483647 := fun u => af_i32 u
  have i1 := hi x1
  have i2 := hi x2
  have i3 := hi x3
  have i4 := hi x4
  have i5 := hi x5
  refine (hq_holds (mz := mz) hH hd hmz (fun v => if v = 0 then x1.toInt else if v = 1 then x2.toInt else if v = 2 then x3.toInt else if v = 3 then x4.toInt else x5.toInt) hI.1 ?_ ?_ ?_).imp ?_
  · rw [hpre]
    exact ⟨rfl, ⟨(fun v hv => by simp at hv; omega), x1, rfl, by simp [af_ev]⟩, ⟨(fun v hv => by simp at hv; omega), x2, rfl, by simp [af_ev]⟩, ⟨(fun v hv => by simp at hv; omega), x3, rfl, by simp [af_ev]⟩, ⟨(fun v hv => by simp at hv; omega), x4, rfl, by simp [af_ev]⟩, ⟨(fun v hv => by simp at hv; omega), x5, rfl, by simp [af_ev]⟩, trivial⟩
  · rw [hpre]
    exact fun e he => by cases he
  · rw [hpre]
    refine ⟨?_, (fun e he => by cases he), (fun e he => by cases he)⟩
    intro x hx
    simp only [List.mem_cons, List.not_mem_nil, or_false] at hx
    rcases hx with rfl | rfl | rfl | rfl | rfl <;> refine ⟨Nat.le_of_ble_eq_true rfl, ?_⟩ <;> simp <;> omega
  · rintro r w' ⟨q1, q2, P, hPm, ρ2, -, hst, -⟩
    exact ⟨hI.fr q1 q2 hM, hd_r1 hP ⟨P, hPm, _, ρ2, hst⟩⟩
theorem lk_x0 : pi_mk[111]? = some (5, false) := by decide +kernel
theorem lx_0 {w : pi_W} (hI : lw_I w) (x1 x2 x3 x4 x5 : Int32) : hq_F 24 (10, 6, (some .int), false, mc_111) (fun r w' => lw_I w' ∧ ∃ v : Int32, r = some (.int v)) (0, lv_args 0 [.ref 0, .int x1, .int x2, .int x3, .int x4, .int x5], [], w) := lpub_5 ah_1 rfl pz_111 rfl (by decide) (by decide) (by decide) hI x1 x2 x3 x4 x5
theorem lk_m0 : pi_mk[163]? = some (5, false) := by decide +kernel
theorem lm_0 {w : pi_W} (hI : lw_I w) (x1 x2 x3 x4 x5 : Int32) : hq_F 24 (11, 6, (some .int), false, mc_163) (fun r w' => lw_I w' ∧ ∃ v : Int32, r = some (.int v)) (0, lv_args 0 [.ref 61, .int x1, .int x2, .int x3, .int x4, .int x5], [], w) := lpub_5 ah_372 rfl pz_163 rfl (by decide) (by decide) (by decide) hI x1 x2 x3 x4 x5
theorem lk_x1 : pi_mk[112]? = some (1, false) := by decide +kernel
theorem lx_1 {w : pi_W} (hI : lw_I w) (x1 : Int32) : hq_F 24 (10, 2, (some .boolean), false, mc_112) (fun r w' => lw_I w' ∧ ∃ v : Int32, r = some (.int v)) (0, lv_args 0 [.ref 0, .int x1], [], w) := lpub_1 ah_2 rfl pz_112 rfl (by decide) (by decide) (by decide) hI x1
theorem lk_m1 : pi_mk[165]? = some (1, false) := by decide +kernel
theorem lm_1 {w : pi_W} (hI : lw_I w) (x1 : Int32) : hq_F 24 (11, 2, (some .boolean), false, mc_165) (fun r w' => lw_I w' ∧ ∃ v : Int32, r = some (.int v)) (0, lv_args 0 [.ref 61, .int x1], [], w) := lpub_1 ah_373 rfl pz_165 rfl (by decide) (by decide) (by decide) hI x1
theorem lk_x2 : pi_mk[113]? = some (0, false) := by decide +kernel
theorem lx_2 {w : pi_W} (hI : lw_I w) : hq_F 24 (10, 2, (some .int), false, mc_113) (fun r w' => lw_I w' ∧ ∃ v : Int32, r = some (.int v)) (0, lv_args 0 [.ref 0], [], w) := lpub_0 ah_115 rfl pz_113 rfl (by decide) (by decide) (by decide) hI
theorem lk_m2 : pi_mk[192]? = some (0, false) := by decide +kernel
theorem lk_x3 : pi_mk[114]? = some (0, false) := by decide +kernel
theorem lx_3 {w : pi_W} (hI : lw_I w) : hq_F 24 (10, 1, (some .int), false, mc_114) (fun r w' => lw_I w' ∧ ∃ v : Int32, r = some (.int v)) (0, lv_args 0 [.ref 0], [], w) := lpub_0 ah_116 rfl pz_114 rfl (by decide) (by decide) (by decide) hI
theorem lk_m3 : pi_mk[193]? = some (0, false) := by decide +kernel
theorem lm_3 {w : pi_W} (hI : lw_I w) : hq_F 24 (11, 1, (some .int), false, mc_193) (fun r w' => lw_I w' ∧ ∃ v : Int32, r = some (.int v)) (0, lv_args 0 [.ref 61], [], w) := lpub_0 ah_374 rfl pz_193 rfl (by decide) (by decide) (by decide) hI
theorem lk_x4 : pi_mk[115]? = some (2, false) := by decide +kernel
theorem lx_4 {w : pi_W} (hI : lw_I w) (x1 x2 : Int32) : hq_F 24 (10, 3, (some .int), false, mc_115) (fun r w' => lw_I w' ∧ ∃ v : Int32, r = some (.int v)) (0, lv_args 0 [.ref 0, .int x1, .int x2], [], w) := lpub_2 ah_120 rfl pz_115 rfl (by decide) (by decide) (by decide) hI x1 x2
theorem lk_m4 : pi_mk[209]? = some (2, false) := by decide +kernel
theorem lm_4 {w : pi_W} (hI : lw_I w) (x1 x2 : Int32) : hq_F 24 (11, 5, (some .int), false, mc_209) (fun r w' => lw_I w' ∧ ∃ v : Int32, r = some (.int v)) (0, lv_args 0 [.ref 61, .int x1, .int x2], [], w) := lpub_2 ah_378 rfl pz_209 rfl (by decide) (by decide) (by decide) hI x1 x2
theorem lk_m5 : pi_mk[210]? = some (2, false) := by decide +kernel
theorem lm_5 {w : pi_W} (hI : lw_I w) (x1 x2 : Int32) : hq_F 24 (11, 3, (some .int), false, mc_210) (fun r w' => lw_I w' ∧ ∃ v : Int32, r = some (.int v)) (0, lv_args 0 [.ref 61, .int x1, .int x2], [], w) := lpub_2 ah_382 rfl pz_210 rfl (by decide) (by decide) (by decide) hI x1 x2
theorem lk_x6 : pi_mk[116]? = some (2, false) := by decide +kernel
theorem lx_6 {w : pi_W} (hI : lw_I w) (x1 x2 : Int32) : hq_F 24 (10, 3, (some .int), false, mc_116) (fun r w' => lw_I w' ∧ ∃ v : Int32, r = some (.int v)) (0, lv_args 0 [.ref 0, .int x1, .int x2], [], w) := lpub_2 ah_122 rfl pz_116 rfl (by decide) (by decide) (by decide) hI x1 x2
theorem lk_m6 : pi_mk[211]? = some (2, false) := by decide +kernel
theorem lm_6 {w : pi_W} (hI : lw_I w) (x1 x2 : Int32) : hq_F 24 (11, 5, (some .int), false, mc_211) (fun r w' => lw_I w' ∧ ∃ v : Int32, r = some (.int v)) (0, lv_args 0 [.ref 61, .int x1, .int x2], [], w) := lpub_2 ah_385 rfl pz_211 rfl (by decide) (by decide) (by decide) hI x1 x2
theorem lk_x7 : pi_mk[117]? = some (1, false) := by decide +kernel
theorem lx_7 {w : pi_W} (hI : lw_I w) (x1 : Int32) : hq_F 24 (10, 2, (some .int), false, mc_117) (fun r w' => lw_I w' ∧ ∃ v : Int32, r = some (.int v)) (0, lv_args 0 [.ref 0, .int x1], [], w) := lpub_1 ah_140 rfl pz_117 rfl (by decide) (by decide) (by decide) hI x1
theorem lk_m7 : pi_mk[213]? = some (1, false) := by decide +kernel
theorem lm_7 {w : pi_W} (hI : lw_I w) (x1 : Int32) : hq_F 24 (11, 4, (some .int), false, mc_213) (fun r w' => lw_I w' ∧ ∃ v : Int32, r = some (.int v)) (0, lv_args 0 [.ref 61, .int x1], [], w) := lpub_1 ah_393 rfl pz_213 rfl (by decide) (by decide) (by decide) hI x1
theorem lk_x8 : pi_mk[118]? = some (2, false) := by decide +kernel
theorem lx_8 {w : pi_W} (hI : lw_I w) (x1 x2 : Int32) : hq_F 24 (10, 3, (some .int), false, mc_118) (fun r w' => lw_I w' ∧ ∃ v : Int32, r = some (.int v)) (0, lv_args 0 [.ref 0, .int x1, .int x2], [], w) := lpub_2 ah_156 rfl pz_118 rfl (by decide) (by decide) (by decide) hI x1 x2
theorem lk_m8 : pi_mk[230]? = some (2, false) := by decide +kernel
theorem lm_8 {w : pi_W} (hI : lw_I w) (x1 x2 : Int32) : hq_F 24 (11, 4, (some .int), false, mc_230) (fun r w' => lw_I w' ∧ ∃ v : Int32, r = some (.int v)) (0, lv_args 0 [.ref 61, .int x1, .int x2], [], w) := lpub_2 ah_403 rfl pz_230 rfl (by decide) (by decide) (by decide) hI x1 x2
theorem lk_x9 : pi_mk[119]? = some (2, false) := by decide +kernel
theorem lx_9 {w : pi_W} (hI : lw_I w) (x1 x2 : Int32) : hq_F 24 (10, 3, (some .int), false, mc_119) (fun r w' => lw_I w' ∧ ∃ v : Int32, r = some (.int v)) (0, lv_args 0 [.ref 0, .int x1, .int x2], [], w) := lpub_2 ah_157 rfl pz_119 rfl (by decide) (by decide) (by decide) hI x1 x2
theorem lk_m9 : pi_mk[231]? = some (2, false) := by decide +kernel
theorem lm_9 {w : pi_W} (hI : lw_I w) (x1 x2 : Int32) : hq_F 24 (11, 3, (some .int), false, mc_231) (fun r w' => lw_I w' ∧ ∃ v : Int32, r = some (.int v)) (0, lv_args 0 [.ref 61, .int x1, .int x2], [], w) := lpub_2 ah_410 rfl pz_231 rfl (by decide) (by decide) (by decide) hI x1 x2
theorem lk_x10 : pi_mk[120]? = some (2, false) := by decide +kernel
theorem lx_10 {w : pi_W} (hI : lw_I w) (x1 x2 : Int32) : hq_F 24 (10, 3, (some .int), false, mc_120) (fun r w' => lw_I w' ∧ ∃ v : Int32, r = some (.int v)) (0, lv_args 0 [.ref 0, .int x1, .int x2], [], w) := lpub_2 ah_158 rfl pz_120 rfl (by decide) (by decide) (by decide) hI x1 x2
theorem lk_m10 : pi_mk[232]? = some (2, false) := by decide +kernel
theorem lm_10 {w : pi_W} (hI : lw_I w) (x1 x2 : Int32) : hq_F 24 (11, 3, (some .int), false, mc_232) (fun r w' => lw_I w' ∧ ∃ v : Int32, r = some (.int v)) (0, lv_args 0 [.ref 61, .int x1, .int x2], [], w) := lpub_2 ah_414 rfl pz_232 rfl (by decide) (by decide) (by decide) hI x1 x2
theorem lk_x11 : pi_mk[121]? = some (1, false) := by decide +kernel
theorem lx_11 {w : pi_W} (hI : lw_I w) (x1 : Int32) : hq_F 24 (10, 2, (some .int), false, mc_121) (fun r w' => lw_I w' ∧ ∃ v : Int32, r = some (.int v)) (0, lv_args 0 [.ref 0, .int x1], [], w) := lpub_1 ah_159 rfl pz_121 rfl (by decide) (by decide) (by decide) hI x1
theorem lk_m11 : pi_mk[233]? = some (1, false) := by decide +kernel
theorem lm_11 {w : pi_W} (hI : lw_I w) (x1 : Int32) : hq_F 24 (11, 2, (some .int), false, mc_233) (fun r w' => lw_I w' ∧ ∃ v : Int32, r = some (.int v)) (0, lv_args 0 [.ref 61, .int x1], [], w) := lpub_1 ah_418 rfl pz_233 rfl (by decide) (by decide) (by decide) hI x1
theorem lk_x12 : pi_mk[122]? = some (2, false) := by decide +kernel
theorem lx_12 {w : pi_W} (hI : lw_I w) (x1 x2 : Int32) : hq_F 24 (10, 3, (some .int), false, mc_122) (fun r w' => lw_I w' ∧ ∃ v : Int32, r = some (.int v)) (0, lv_args 0 [.ref 0, .int x1, .int x2], [], w) := lpub_2 ah_160 rfl pz_122 rfl (by decide) (by decide) (by decide) hI x1 x2
theorem lk_m12 : pi_mk[234]? = some (2, false) := by decide +kernel
theorem lm_12 {w : pi_W} (hI : lw_I w) (x1 x2 : Int32) : hq_F 24 (11, 3, (some .int), false, mc_234) (fun r w' => lw_I w' ∧ ∃ v : Int32, r = some (.int v)) (0, lv_args 0 [.ref 61, .int x1, .int x2], [], w) := lpub_2 ah_421 rfl pz_234 rfl (by decide) (by decide) (by decide) hI x1 x2
theorem lk_x13 : pi_mk[123]? = some (1, false) := by decide +kernel
theorem lx_13 {w : pi_W} (hI : lw_I w) (x1 : Int32) : hq_F 24 (10, 2, (some .int), false, mc_123) (fun r w' => lw_I w' ∧ ∃ v : Int32, r = some (.int v)) (0, lv_args 0 [.ref 0, .int x1], [], w) := lpub_1 ah_161 rfl pz_123 rfl (by decide) (by decide) (by decide) hI x1
theorem lk_m13 : pi_mk[235]? = some (1, false) := by decide +kernel
theorem lm_13 {w : pi_W} (hI : lw_I w) (x1 : Int32) : hq_F 24 (11, 2, (some .int), false, mc_235) (fun r w' => lw_I w' ∧ ∃ v : Int32, r = some (.int v)) (0, lv_args 0 [.ref 61, .int x1], [], w) := lpub_1 ah_424 rfl pz_235 rfl (by decide) (by decide) (by decide) hI x1
theorem lk_x14 : pi_mk[124]? = some (1, false) := by decide +kernel
theorem lx_14 {w : pi_W} (hI : lw_I w) (x1 : Int32) : hq_F 24 (10, 3, (some .int), false, mc_124) (fun r w' => lw_I w' ∧ ∃ v : Int32, r = some (.int v)) (0, lv_args 0 [.ref 0, .int x1], [], w) := lpub_1 ah_165 rfl pz_124 rfl (by decide) (by decide) (by decide) hI x1
theorem lk_m14 : pi_mk[236]? = some (1, false) := by decide +kernel
theorem lm_14 {w : pi_W} (hI : lw_I w) (x1 : Int32) : hq_F 24 (11, 2, (some .int), false, mc_236) (fun r w' => lw_I w' ∧ ∃ v : Int32, r = some (.int v)) (0, lv_args 0 [.ref 61, .int x1], [], w) := lpub_1 ah_429 rfl pz_236 rfl (by decide) (by decide) (by decide) hI x1
theorem lk_x15 : pi_mk[125]? = some (0, false) := by decide +kernel
theorem lx_15 {w : pi_W} (hI : lw_I w) : hq_F 24 (10, 1, (some .int), false, mc_125) (fun r w' => lw_I w' ∧ ∃ v : Int32, r = some (.int v)) (0, lv_args 0 [.ref 0], [], w) := lpub_0 ah_167 rfl pz_125 rfl (by decide) (by decide) (by decide) hI
theorem lk_m15 : pi_mk[238]? = some (0, false) := by decide +kernel
theorem lm_15 {w : pi_W} (hI : lw_I w) : hq_F 24 (11, 2, (some .int), false, mc_238) (fun r w' => lw_I w' ∧ ∃ v : Int32, r = some (.int v)) (0, lv_args 0 [.ref 61], [], w) := lpub_0 ah_430 rfl pz_238 rfl (by decide) (by decide) (by decide) hI
theorem lk_x16 : pi_mk[126]? = some (2, false) := by decide +kernel
theorem lx_16 {w : pi_W} (hI : lw_I w) (x1 x2 : Int32) : hq_F 24 (10, 3, (some .int), false, mc_126) (fun r w' => lw_I w' ∧ ∃ v : Int32, r = some (.int v)) (0, lv_args 0 [.ref 0, .int x1, .int x2], [], w) := lpub_2 ah_169 rfl pz_126 rfl (by decide) (by decide) (by decide) hI x1 x2
theorem lk_m16 : pi_mk[241]? = some (2, false) := by decide +kernel
theorem lm_16 {w : pi_W} (hI : lw_I w) (x1 x2 : Int32) : hq_F 24 (11, 3, (some .int), false, mc_241) (fun r w' => lw_I w' ∧ ∃ v : Int32, r = some (.int v)) (0, lv_args 0 [.ref 61, .int x1, .int x2], [], w) := lpub_2 ah_431 rfl pz_241 rfl (by decide) (by decide) (by decide) hI x1 x2
theorem lk_x17 : pi_mk[127]? = some (2, false) := by decide +kernel
theorem lx_17 {w : pi_W} (hI : lw_I w) (x1 x2 : Int32) : hq_F 24 (10, 3, (some .int), false, mc_127) (fun r w' => lw_I w' ∧ ∃ v : Int32, r = some (.int v)) (0, lv_args 0 [.ref 0, .int x1, .int x2], [], w) := lpub_2 ah_170 rfl pz_127 rfl (by decide) (by decide) (by decide) hI x1 x2
theorem lk_m17 : pi_mk[242]? = some (2, false) := by decide +kernel
theorem lm_17 {w : pi_W} (hI : lw_I w) (x1 x2 : Int32) : hq_F 24 (11, 3, (some .int), false, mc_242) (fun r w' => lw_I w' ∧ ∃ v : Int32, r = some (.int v)) (0, lv_args 0 [.ref 61, .int x1, .int x2], [], w) := lpub_2 ah_432 rfl pz_242 rfl (by decide) (by decide) (by decide) hI x1 x2
theorem lk_x18 : pi_mk[128]? = some (1, false) := by decide +kernel
theorem lx_18 {w : pi_W} (hI : lw_I w) (x1 : Int32) : hq_F 24 (10, 2, (some .int), false, mc_128) (fun r w' => lw_I w' ∧ ∃ v : Int32, r = some (.int v)) (0, lv_args 0 [.ref 0, .int x1], [], w) := lpub_1 ah_171 rfl pz_128 rfl (by decide) (by decide) (by decide) hI x1
theorem lk_m18 : pi_mk[243]? = some (1, false) := by decide +kernel
theorem lm_18 {w : pi_W} (hI : lw_I w) (x1 : Int32) : hq_F 24 (11, 2, (some .int), false, mc_243) (fun r w' => lw_I w' ∧ ∃ v : Int32, r = some (.int v)) (0, lv_args 0 [.ref 61, .int x1], [], w) := lpub_1 ah_433 rfl pz_243 rfl (by decide) (by decide) (by decide) hI x1
theorem lk_x19 : pi_mk[129]? = some (1, false) := by decide +kernel
theorem lx_19 {w : pi_W} (hI : lw_I w) (x1 : Int32) : hq_F 24 (10, 2, (some .int), false, mc_129) (fun r w' => lw_I w' ∧ ∃ v : Int32, r = some (.int v)) (0, lv_args 0 [.ref 0, .int x1], [], w) := lpub_1 ah_172 rfl pz_129 rfl (by decide) (by decide) (by decide) hI x1
theorem lk_m19 : pi_mk[244]? = some (1, false) := by decide +kernel
theorem lm_19 {w : pi_W} (hI : lw_I w) (x1 : Int32) : hq_F 24 (11, 2, (some .int), false, mc_244) (fun r w' => lw_I w' ∧ ∃ v : Int32, r = some (.int v)) (0, lv_args 0 [.ref 61, .int x1], [], w) := lpub_1 ah_434 rfl pz_244 rfl (by decide) (by decide) (by decide) hI x1
theorem lk_x20 : pi_mk[130]? = some (1, false) := by decide +kernel
theorem lx_20 {w : pi_W} (hI : lw_I w) (x1 : Int32) : hq_F 24 (10, 2, (some .int), false, mc_130) (fun r w' => lw_I w' ∧ ∃ v : Int32, r = some (.int v)) (0, lv_args 0 [.ref 0, .int x1], [], w) := lpub_1 ah_174 rfl pz_130 rfl (by decide) (by decide) (by decide) hI x1
theorem lk_m20 : pi_mk[245]? = some (1, false) := by decide +kernel
theorem lm_20 {w : pi_W} (hI : lw_I w) (x1 : Int32) : hq_F 24 (11, 4, (some .int), false, mc_245) (fun r w' => lw_I w' ∧ ∃ v : Int32, r = some (.int v)) (0, lv_args 0 [.ref 61, .int x1], [], w) := lpub_1 ah_435 rfl pz_245 rfl (by decide) (by decide) (by decide) hI x1
theorem lk_x21 : pi_mk[131]? = some (1, false) := by decide +kernel
theorem lx_21 {w : pi_W} (hI : lw_I w) (x1 : Int32) : hq_F 24 (10, 2, (some .int), false, mc_131) (fun r w' => lw_I w' ∧ ∃ v : Int32, r = some (.int v)) (0, lv_args 0 [.ref 0, .int x1], [], w) := lpub_1 ah_176 rfl pz_131 rfl (by decide) (by decide) (by decide) hI x1
theorem lk_m21 : pi_mk[246]? = some (1, false) := by decide +kernel
theorem lm_21 {w : pi_W} (hI : lw_I w) (x1 : Int32) : hq_F 24 (11, 4, (some .int), false, mc_246) (fun r w' => lw_I w' ∧ ∃ v : Int32, r = some (.int v)) (0, lv_args 0 [.ref 61, .int x1], [], w) := lpub_1 ah_436 rfl pz_246 rfl (by decide) (by decide) (by decide) hI x1
theorem lk_x22 : pi_mk[132]? = some (2, false) := by decide +kernel
theorem lx_22 {w : pi_W} (hI : lw_I w) (x1 x2 : Int32) : hq_F 24 (10, 3, (some .int), false, mc_132) (fun r w' => lw_I w' ∧ ∃ v : Int32, r = some (.int v)) (0, lv_args 0 [.ref 0, .int x1, .int x2], [], w) := lpub_2 ah_178 rfl pz_132 rfl (by decide) (by decide) (by decide) hI x1 x2
theorem lk_m22 : pi_mk[247]? = some (2, false) := by decide +kernel
theorem lm_22 {w : pi_W} (hI : lw_I w) (x1 x2 : Int32) : hq_F 24 (11, 3, (some .int), false, mc_247) (fun r w' => lw_I w' ∧ ∃ v : Int32, r = some (.int v)) (0, lv_args 0 [.ref 61, .int x1, .int x2], [], w) := lpub_2 ah_437 rfl pz_247 rfl (by decide) (by decide) (by decide) hI x1 x2
theorem lk_x23 : pi_mk[133]? = some (3, false) := by decide +kernel
theorem lx_23 {w : pi_W} (hI : lw_I w) (x1 x2 x3 : Int32) : hq_F 24 (10, 4, (some .int), false, mc_133) (fun r w' => lw_I w' ∧ ∃ v : Int32, r = some (.int v)) (0, lv_args 0 [.ref 0, .int x1, .int x2, .int x3], [], w) := lpub_3 ah_189 rfl pz_133 rfl (by decide) (by decide) (by decide) hI x1 x2 x3
theorem lk_m23 : pi_mk[251]? = some (3, false) := by decide +kernel
theorem lm_23 {w : pi_W} (hI : lw_I w) (x1 x2 x3 : Int32) : hq_F 24 (11, 6, (some .int), false, mc_251) (fun r w' => lw_I w' ∧ ∃ v : Int32, r = some (.int v)) (0, lv_args 0 [.ref 61, .int x1, .int x2, .int x3], [], w) := lpub_3 ah_440 rfl pz_251 rfl (by decide) (by decide) (by decide) hI x1 x2 x3
theorem lk_x24 : pi_mk[134]? = some (1, false) := by decide +kernel
theorem lx_24 {w : pi_W} (hI : lw_I w) (x1 : Int32) : hq_F 24 (10, 2, (some .int), false, mc_134) (fun r w' => lw_I w' ∧ ∃ v : Int32, r = some (.int v)) (0, lv_args 0 [.ref 0, .int x1], [], w) := lpub_1 ah_191 rfl pz_134 rfl (by decide) (by decide) (by decide) hI x1
theorem lk_m24 : pi_mk[252]? = some (1, false) := by decide +kernel
theorem lm_24 {w : pi_W} (hI : lw_I w) (x1 : Int32) : hq_F 24 (11, 2, (some .int), false, mc_252) (fun r w' => lw_I w' ∧ ∃ v : Int32, r = some (.int v)) (0, lv_args 0 [.ref 61, .int x1], [], w) := lpub_1 ah_442 rfl pz_252 rfl (by decide) (by decide) (by decide) hI x1
theorem lk_x25 : pi_mk[135]? = some (2, false) := by decide +kernel
theorem lx_25 {w : pi_W} (hI : lw_I w) (x1 x2 : Int32) : hq_F 24 (10, 6, (some .int), false, mc_135) (fun r w' => lw_I w' ∧ ∃ v : Int32, r = some (.int v)) (0, lv_args 0 [.ref 0, .int x1, .int x2], [], w) := lpub_2 ah_199 rfl pz_135 rfl (by decide) (by decide) (by decide) hI x1 x2
theorem lk_m25 : pi_mk[253]? = some (2, false) := by decide +kernel
theorem lm_25 {w : pi_W} (hI : lw_I w) (x1 x2 : Int32) : hq_F 24 (11, 6, (some .int), false, mc_253) (fun r w' => lw_I w' ∧ ∃ v : Int32, r = some (.int v)) (0, lv_args 0 [.ref 61, .int x1, .int x2], [], w) := lpub_2 ah_443 rfl pz_253 rfl (by decide) (by decide) (by decide) hI x1 x2
theorem lk_x26 : pi_mk[136]? = some (3, false) := by decide +kernel
theorem lx_26 {w : pi_W} (hI : lw_I w) (x1 x2 x3 : Int32) : hq_F 24 (10, 9, (some .int), false, mc_136) (fun r w' => lw_I w' ∧ ∃ v : Int32, r = some (.int v)) (0, lv_args 0 [.ref 0, .int x1, .int x2, .int x3], [], w) := lpub_3 ah_203 rfl pz_136 rfl (by decide) (by decide) (by decide) hI x1 x2 x3
theorem lk_m26 : pi_mk[255]? = some (3, false) := by decide +kernel
theorem lm_26 {w : pi_W} (hI : lw_I w) (x1 x2 x3 : Int32) : hq_F 24 (11, 7, (some .int), false, mc_255) (fun r w' => lw_I w' ∧ ∃ v : Int32, r = some (.int v)) (0, lv_args 0 [.ref 61, .int x1, .int x2, .int x3], [], w) := lpub_3 ah_450 rfl pz_255 rfl (by decide) (by decide) (by decide) hI x1 x2 x3
theorem lk_x27 : pi_mk[137]? = some (2, false) := by decide +kernel
theorem lx_27 {w : pi_W} (hI : lw_I w) (x1 x2 : Int32) : hq_F 24 (10, 8, (some .int), false, mc_137) (fun r w' => lw_I w' ∧ ∃ v : Int32, r = some (.int v)) (0, lv_args 0 [.ref 0, .int x1, .int x2], [], w) := lpub_2 ah_229 rfl pz_137 rfl (by decide) (by decide) (by decide) hI x1 x2
theorem lk_m27 : pi_mk[257]? = some (2, false) := by decide +kernel
theorem lm_27 {w : pi_W} (hI : lw_I w) (x1 x2 : Int32) : hq_F 24 (11, 7, (some .int), false, mc_257) (fun r w' => lw_I w' ∧ ∃ v : Int32, r = some (.int v)) (0, lv_args 0 [.ref 61, .int x1, .int x2], [], w) := lpub_2 ah_453 rfl pz_257 rfl (by decide) (by decide) (by decide) hI x1 x2
theorem lk_x28 : pi_mk[138]? = some (0, false) := by decide +kernel
theorem lx_28 {w : pi_W} (hI : lw_I w) : hq_F 24 (10, 1, (some .int), false, mc_138) (fun r w' => lw_I w' ∧ ∃ v : Int32, r = some (.int v)) (0, lv_args 0 [.ref 0], [], w) := lpub_0 ah_230 rfl pz_138 rfl (by decide) (by decide) (by decide) hI
theorem lk_m28 : pi_mk[258]? = some (0, false) := by decide +kernel
theorem lm_28 {w : pi_W} (hI : lw_I w) : hq_F 24 (11, 1, (some .int), false, mc_258) (fun r w' => lw_I w' ∧ ∃ v : Int32, r = some (.int v)) (0, lv_args 0 [.ref 61], [], w) := lpub_0 ah_454 rfl pz_258 rfl (by decide) (by decide) (by decide) hI
theorem lk_x29 : pi_mk[139]? = some (1, false) := by decide +kernel
theorem lx_29 {w : pi_W} (hI : lw_I w) (x1 : Int32) : hq_F 24 (10, 5, (some .int), false, mc_139) (fun r w' => lw_I w' ∧ ∃ v : Int32, r = some (.int v)) (0, lv_args 0 [.ref 0, .int x1], [], w) := lpub_1 ah_233 rfl pz_139 rfl (by decide) (by decide) (by decide) hI x1
theorem lk_m29 : pi_mk[259]? = some (1, false) := by decide +kernel
theorem lm_29 {w : pi_W} (hI : lw_I w) (x1 : Int32) : hq_F 24 (11, 7, (some .int), false, mc_259) (fun r w' => lw_I w' ∧ ∃ v : Int32, r = some (.int v)) (0, lv_args 0 [.ref 61, .int x1], [], w) := lpub_1 ah_455 rfl pz_259 rfl (by decide) (by decide) (by decide) hI x1
theorem lk_x30 : pi_mk[140]? = some (0, false) := by decide +kernel
theorem lx_30 {w : pi_W} (hI : lw_I w) : hq_F 24 (10, 1, (some .int), false, mc_140) (fun r w' => lw_I w' ∧ ∃ v : Int32, r = some (.int v)) (0, lv_args 0 [.ref 0], [], w) := lpub_0 ah_234 rfl pz_140 rfl (by decide) (by decide) (by decide) hI
theorem lk_m30 : pi_mk[260]? = some (0, false) := by decide +kernel
theorem lm_30 {w : pi_W} (hI : lw_I w) : hq_F 24 (11, 1, (some .int), false, mc_260) (fun r w' => lw_I w' ∧ ∃ v : Int32, r = some (.int v)) (0, lv_args 0 [.ref 61], [], w) := lpub_0 ah_456 rfl pz_260 rfl (by decide) (by decide) (by decide) hI
theorem lk_x31 : pi_mk[141]? = some (3, false) := by decide +kernel
theorem lx_31 {w : pi_W} (hI : lw_I w) (x1 x2 x3 : Int32) : hq_F 24 (10, 5, (some .int), false, mc_141) (fun r w' => lw_I w' ∧ ∃ v : Int32, r = some (.int v)) (0, lv_args 0 [.ref 0, .int x1, .int x2, .int x3], [], w) := lpub_3 ah_235 rfl pz_141 rfl (by decide) (by decide) (by decide) hI x1 x2 x3
theorem lk_m31 : pi_mk[261]? = some (3, false) := by decide +kernel
theorem lm_31 {w : pi_W} (hI : lw_I w) (x1 x2 x3 : Int32) : hq_F 24 (11, 6, (some .int), false, mc_261) (fun r w' => lw_I w' ∧ ∃ v : Int32, r = some (.int v)) (0, lv_args 0 [.ref 61, .int x1, .int x2, .int x3], [], w) := lpub_3 ah_457 rfl pz_261 rfl (by decide) (by decide) (by decide) hI x1 x2 x3
theorem lk_x32 : pi_mk[142]? = some (1, false) := by decide +kernel
theorem lx_32 {w : pi_W} (hI : lw_I w) (x1 : Int32) : hq_F 24 (10, 2, (some .int), false, mc_142) (fun r w' => lw_I w' ∧ ∃ v : Int32, r = some (.int v)) (0, lv_args 0 [.ref 0, .int x1], [], w) := lpub_1 ah_240 rfl pz_142 rfl (by decide) (by decide) (by decide) hI x1
theorem lk_m32 : pi_mk[248]? = some (1, false) := by decide +kernel
theorem lm_32 {w : pi_W} (hI : lw_I w) (x1 : Int32) : hq_F 24 (11, 5, (some .int), false, mc_248) (fun r w' => lw_I w' ∧ ∃ v : Int32, r = some (.int v)) (0, lv_args 0 [.ref 61, .int x1], [], w) := lpub_1 ah_438 rfl pz_248 rfl (by decide) (by decide) (by decide) hI x1
theorem lk_x33 : pi_mk[143]? = some (2, false) := by decide +kernel
theorem lx_33 {w : pi_W} (hI : lw_I w) (x1 x2 : Int32) : hq_F 24 (10, 4, (some .int), false, mc_143) (fun r w' => lw_I w' ∧ ∃ v : Int32, r = some (.int v)) (0, lv_args 0 [.ref 0, .int x1, .int x2], [], w) := lpub_2 ah_244 rfl pz_143 rfl (by decide) (by decide) (by decide) hI x1 x2
theorem lk_m33 : pi_mk[264]? = some (2, false) := by decide +kernel
theorem lm_33 {w : pi_W} (hI : lw_I w) (x1 x2 : Int32) : hq_F 24 (11, 3, (some .int), false, mc_264) (fun r w' => lw_I w' ∧ ∃ v : Int32, r = some (.int v)) (0, lv_args 0 [.ref 61, .int x1, .int x2], [], w) := lpub_2 ah_463 rfl pz_264 rfl (by decide) (by decide) (by decide) hI x1 x2
theorem lk_x34 : pi_mk[144]? = some (3, false) := by decide +kernel
theorem lx_34 {w : pi_W} (hI : lw_I w) (x1 x2 x3 : Int32) : hq_F 24 (10, 6, (some .int), false, mc_144) (fun r w' => lw_I w' ∧ ∃ v : Int32, r = some (.int v)) (0, lv_args 0 [.ref 0, .int x1, .int x2, .int x3], [], w) := lpub_3 ah_248 rfl pz_144 rfl (by decide) (by decide) (by decide) hI x1 x2 x3
theorem lk_m34 : pi_mk[265]? = some (3, false) := by decide +kernel
theorem lk_x35 : pi_mk[145]? = some (1, false) := by decide +kernel
theorem lx_35 {w : pi_W} (hI : lw_I w) (x1 : Int32) : hq_F 24 (10, 3, (some .int), false, mc_145) (fun r w' => lw_I w' ∧ ∃ v : Int32, r = some (.int v)) (0, lv_args 0 [.ref 0, .int x1], [], w) := lpub_1 ah_274 rfl pz_145 rfl (by decide) (by decide) (by decide) hI x1
theorem lk_m35 : pi_mk[270]? = some (1, false) := by decide +kernel
theorem lk_x36 : pi_mk[146]? = some (1, false) := by decide +kernel
theorem lx_36 {w : pi_W} (hI : lw_I w) (x1 : Int32) : hq_F 24 (10, 2, (some .int), false, mc_146) (fun r w' => lw_I w' ∧ ∃ v : Int32, r = some (.int v)) (0, lv_args 0 [.ref 0, .int x1], [], w) := lpub_1 ah_276 rfl pz_146 rfl (by decide) (by decide) (by decide) hI x1
theorem lk_m36 : pi_mk[271]? = some (1, false) := by decide +kernel
theorem lm_36 {w : pi_W} (hI : lw_I w) (x1 : Int32) : hq_F 24 (11, 2, (some .int), false, mc_271) (fun r w' => lw_I w' ∧ ∃ v : Int32, r = some (.int v)) (0, lv_args 0 [.ref 61, .int x1], [], w) := lpub_1 ah_470 rfl pz_271 rfl (by decide) (by decide) (by decide) hI x1
theorem lk_x37 : pi_mk[147]? = some (0, false) := by decide +kernel
theorem lx_37 {w : pi_W} (hI : lw_I w) : hq_F 24 (10, 2, (some .int), false, mc_147) (fun r w' => lw_I w' ∧ ∃ v : Int32, r = some (.int v)) (0, lv_args 0 [.ref 0], [], w) := lpub_0 ah_315 rfl pz_147 rfl (by decide) (by decide) (by decide) hI
theorem lk_m37 : pi_mk[278]? = some (0, false) := by decide +kernel
theorem lk_x38 : pi_mk[148]? = some (1, false) := by decide +kernel
theorem lx_38 {w : pi_W} (hI : lw_I w) (x1 : Int32) : hq_F 24 (10, 5, (some .int), false, mc_148) (fun r w' => lw_I w' ∧ ∃ v : Int32, r = some (.int v)) (0, lv_args 0 [.ref 0, .int x1], [], w) := lpub_1 ah_325 rfl pz_148 rfl (by decide) (by decide) (by decide) hI x1
theorem lk_m38 : pi_mk[281]? = some (1, false) := by decide +kernel
theorem lk_x39 : pi_mk[149]? = some (1, false) := by decide +kernel
theorem lx_39 {w : pi_W} (hI : lw_I w) (x1 : Int32) : hq_F 24 (10, 2, (some .boolean), false, mc_149) (fun r w' => lw_I w' ∧ ∃ v : Int32, r = some (.int v)) (0, lv_args 0 [.ref 0, .int x1], [], w) := lpub_1 ah_345 rfl pz_149 rfl (by decide) (by decide) (by decide) hI x1
theorem lk_m39 : pi_mk[282]? = some (1, false) := by decide +kernel
theorem lk_x40 : pi_mk[150]? = some (1, false) := by decide +kernel
theorem lx_40 {w : pi_W} (hI : lw_I w) (x1 : Int32) : hq_F 24 (10, 2, (some .boolean), false, mc_150) (fun r w' => lw_I w' ∧ ∃ v : Int32, r = some (.int v)) (0, lv_args 0 [.ref 0, .int x1], [], w) := lpub_1 ah_364 rfl pz_150 rfl (by decide) (by decide) (by decide) hI x1
theorem lk_m40 : pi_mk[283]? = some (1, false) := by decide +kernel
theorem lk_x41 : pi_mk[151]? = some (1, false) := by decide +kernel
theorem lx_41 {w : pi_W} (hI : lw_I w) (x1 : Int32) : hq_F 24 (10, 2, (some .int), false, mc_151) (fun r w' => lw_I w' ∧ ∃ v : Int32, r = some (.int v)) (0, lv_args 0 [.ref 0, .int x1], [], w) := lpub_1 ah_366 rfl pz_151 rfl (by decide) (by decide) (by decide) hI x1
theorem lk_m41 : pi_mk[284]? = some (1, false) := by decide +kernel
theorem lm_41 {w : pi_W} (hI : lw_I w) (x1 : Int32) : hq_F 24 (11, 2, (some .int), false, mc_284) (fun r w' => lw_I w' ∧ ∃ v : Int32, r = some (.int v)) (0, lv_args 0 [.ref 61, .int x1], [], w) := lpub_1 ah_480 rfl pz_284 rfl (by decide) (by decide) (by decide) hI x1
theorem lw_int : ∀ (n d : Nat) (mi : pi_M) (s : pi_S) (cu su : Nat) (r : Option Value) (w' : pi_W) (c u : Nat), (mi.2.2.1 = some .int ∨ mi.2.2.1 = some .boolean) → pi_run n d mi s cu su = some (r, w', c, u) → ∃ v : Int32, r = some (.int v)
  | 0, _, _, _, _, _, _, _, _, _, _, h => by cases h
  | n + 1, d, mi, s, cu, su, r, w', c, u, hr, h => by
    obtain ⟨i, len, -, h⟩ := pi_run_inv h
    rcases h with ⟨r', h1, h2⟩ | ⟨cp, kinds, kind, z, na, q, s', -, -, -, -, -, -, -, h1⟩ | ⟨cp, kinds, kind, z, na, q, d', y, cc, mz, As, rest, r1, w1, c1, u1, -, -, -, -, -, rfl, -, -, -, -, h1⟩ | ⟨s', k, -, h1⟩ | ⟨s', -, h1⟩
    · cases h2
      obtain ⟨pc, lv, st, w⟩ := s
      cases i
      case ireturn =>
        simp only [pi_end] at h1
        split at h1
        · split at h1
          · split at h1
            · cases h1
              exact ⟨_, rfl⟩
            · cases h1
          · cases h1
        · cases h1
      case areturn =>
        simp only [pi_end] at h1
        split at h1
        · split at h1
          · rename_i hret
            rw [hret] at hr
            rcases hr with hr | hr <;> cases hr
          · cases h1
        · cases h1
      case return_ =>
        simp only [pi_end] at h1
        split at h1
        · split at h1
          · rename_i hret
            rw [hret] at hr
            rcases hr with hr | hr <;> cases hr
          · cases h1
        · cases h1
      all_goals (exact absurd h1 (by simp [pi_end]))
    · exact lw_int n d mi s' cu su r w' c u hr h1
    · exact lw_int n _ mi _ _ _ r w' c u hr h1
    · exact lw_int n d mi s' _ _ r w' c u hr h1
    · exact lw_int n d mi s' cu su r w' c u hr h1
theorem hq_F.int {d : Nat} {mi : pi_M} {Q : Option Value → pi_W → Prop} {s : pi_S} (h : hq_F d mi Q s) (hr : mi.2.2.1 = some .int ∨ mi.2.2.1 = some .boolean) : hq_F d mi (fun r w => Q r w ∧ ∃ v : Int32, r = some (.int v)) s := by
  obtain ⟨n, r, w, h1, h2⟩ := h
  exact ⟨n, r, w, h1, h2, lw_int n d mi s 0 0 r w 0 0 hr h1⟩
theorem lm_37 {w : pi_W} (hI : lw_I w) : hq_F 24 (11, 3, (some .int), false, mc_278) (fun r w' => lw_I w' ∧ ∃ v : Int32, r = some (.int v)) (0, lv_args 0 [.ref 61], [], w) := by
  refine ((hs_sentence (d := 23) (by decide) hI.1).int (Or.inl rfl)).imp ?_
  rintro r w' ⟨⟨hC, hF, hv⟩, hr⟩
  obtain ⟨-, ⟨v1, v2, v3⟩, j1, j2, j3⟩ := hI
  have h76 : ∀ i, af_wloc w' 76 i = af_wloc w 76 i := fun i => hq_cell hF (by decide)
  exact ⟨⟨hC, ⟨hv v1, v2.fr (fun i _ _ => h76 i), v3.fr (fun i _ _ => h76 i)⟩, j1.fr (hF 63 0 (by decide)) (hF 63 4 (by decide)), j2.fr (h76 _) (h76 _), j3.fr (h76 _) (h76 _)⟩, hr⟩
theorem lm_38 {w : pi_W} (hI : lw_I w) (x1 : Int32) : hq_F 24 (11, 4, (some .int), false, mc_281) (fun r w' => lw_I w' ∧ ∃ v : Int32, r = some (.int v)) (0, lv_args 0 [.ref 61, .int x1], [], w) := by
  refine ((hs_said (d := 23) (k := x1) (by decide) hI.1 hI.2.1.1).int (Or.inl rfl)).imp ?_
  rintro r w' ⟨⟨hC, hF⟩, hr⟩
  exact ⟨hI.fr hC hF (by decide), hr⟩
theorem lm_35 {w : pi_W} (hI : lw_I w) (x1 : Int32) : hq_F 24 (11, 6, (some .int), false, mc_270) (fun r w' => lw_I w' ∧ ∃ v : Int32, r = some (.int v)) (0, lv_args 0 [.ref 61, .int x1], [], w) := by
  refine ((hs_diary (d := 23) (k := x1) (by decide) hI.1).int (Or.inl rfl)).imp ?_
  rintro r w' ⟨⟨hC, hF⟩, hr⟩
  exact ⟨hI.fr hC hF (by decide), hr⟩
theorem lw_J {w : pi_W} (hC : af_Conf aw_Sh w) (hj : sJ w 63 0) : hq_F 24 hm192 (fun _ w' => sJ w' 63 0) (0, lv_args 0 [.ref 61], [], w) := by
  obtain ⟨a, b, h0, h4, hab⟩ := hj
  obtain ⟨p, hp, hp1⟩ := hq_int hC (c := 61) (i := 4) (lo := 0) (hi := 940) (by decide) rfl
  obtain ⟨a', ha, ha1⟩ := hq_int hC (c := 63) (i := 0) (lo := 0) (hi := 10) (by decide) rfl
  obtain ⟨b', hb, hb1⟩ := hq_int hC (c := 63) (i := 4) (lo := 0) (hi := 6) (by decide) rfl
  have ea : a' = a := by
    rw [h0] at ha
    cases ha
    rfl
  have eb : b' = b := by
    have h4' : af_wloc w 63 4 = some (.int b) := h4
    rw [h4'] at hb
    cases hb
    rfl
  subst ea eb
  refine (hq_holds ah_556 (d := 24) (by decide) pz_192 (fun v => if v = 0 then p.toInt else if v = 1 then a'.toInt else b'.toInt) hC (show af_St 3 _ [.inr (.inl 61)] [.ref 61] from ⟨rfl, trivial⟩) ?_ ⟨?_, (fun e he => by cases he), (fun e he => by cases he)⟩).imp ?_
  · intro e he
    simp only [ak_556, List.mem_cons, List.not_mem_nil, or_false] at he
    rcases he with rfl | rfl | rfl
    · exact hl_sl (by intro v hv; simp at hv; subst hv; decide) hp (by decide) (by simp [af_ev])
    · exact hl_sl (by intro v hv; simp at hv; subst hv; decide) ha (by decide) (by simp [af_ev])
    · exact hl_sl (by intro v hv; simp at hv; subst hv; decide) hb (by decide) (by simp [af_ev])
  · intro e he
    simp only [ak_556, List.mem_cons, List.not_mem_nil, or_false] at he
    rcases he with rfl | rfl | rfl <;> refine ⟨by decide, ?_⟩ <;> simp <;> omega
  · rintro r w' ⟨q1, q2, P, hPm, ρ2, hag, hst, hT, hK⟩
    have g1 : ρ2 1 = a'.toInt := hag 1 (by decide)
    have g2 : ρ2 2 = b'.toInt := hag 2 (by decide)
    obtain ⟨u, hu, -⟩ := hq_int q1 (c := 63) (i := 0) (lo := 0) (hi := 10) (by decide) rfl
    simp only [ak_556, List.mem_cons, List.not_mem_nil, or_false] at hPm
    rcases hPm with rfl | rfl | rfl
    · obtain ⟨y, e1, e2⟩ := hl_loc hT (c := 63) (i := 4) (f := (0, [])) (by simp) (by decide)
      rw [af_ev_c] at e2
      exact ⟨u, y, hu, e1, Or.inl e2⟩
    · obtain ⟨y, e1, e2⟩ := hl_loc hT (c := 63) (i := 0) (f := (0, [4])) (by simp) (by decide)
      obtain ⟨z, e3, -⟩ := hl_loc hT (c := 63) (i := 4) (f := (0, [5])) (by simp) (by decide)
      rw [af_ev_1] at e2
      have hb := (hK.1 (4, 1, 10) (by simp)).2
      dsimp only at hb
      exact ⟨y, z, e1, e3, Or.inr (by omega)⟩
    · obtain ⟨y, e1, e2⟩ := hl_loc hT (c := 63) (i := 0) (f := (0, [1])) (by simp) (by decide)
      obtain ⟨z, e3, e4⟩ := hl_loc hT (c := 63) (i := 4) (f := (0, [2])) (by simp) (by decide)
      rw [af_ev_1] at e2 e4
      refine ⟨y, z, e1, e3, ?_⟩
      rcases hab with h | h
      · exact Or.inl (by omega)
      · exact Or.inr (by omega)
theorem lm_2 {w : pi_W} (hI : lw_I w) : hq_F 24 (11, 2, (some .int), false, mc_192) (fun r w' => lw_I w' ∧ ∃ v : Int32, r = some (.int v)) (0, lv_args 0 [.ref 61], [], w) := by
  obtain ⟨hC, ⟨v1, v2, v3⟩, j1, j2, j3⟩ := hI
  refine (((hs_land (d := 23) (by decide) hC).and (lw_J hC j1)).int (Or.inl rfl)).imp ?_
  rintro r w' ⟨⟨⟨hC', hF, hv⟩, hj⟩, hr⟩
  have h76 : ∀ i, af_wloc w' 76 i = af_wloc w 76 i := fun i => hq_cell hF (by decide)
  exact ⟨⟨hC', ⟨hv v1, v2.fr (fun i _ _ => h76 i), v3.fr (fun i _ _ => h76 i)⟩, hj, j2.fr (h76 _) (h76 _), j3.fr (h76 _) (h76 _)⟩, hr⟩
theorem lm_34 {w : pi_W} (hI : lw_I w) (x1 x2 x3 : Int32) : hq_F 24 (11, 6, (some .int), false, mc_265) (fun r w' => lw_I w' ∧ ∃ v : Int32, r = some (.int v)) (0, lv_args 0 [.ref 61, .int x1, .int x2, .int x3], [], w) := by
  have hi : ∀ u : Int32, (-2147483648 : Int) ≤ u.toInt ∧ u.toInt ≤ 2147483647 := fun u => af_i32 u
  have i1 := hi x1
  have i2 := hi x2
  have i3 := hi x3
  obtain ⟨a, b, h0, h4, hab⟩ := hI.2.2.1
  have h4 : af_wloc w 63 4 = some (.int b) := h4
  have hvs : ∀ k : Int, af_St 4 (fun v => if v = 0 then x1.toInt else if v = 1 then x2.toInt else if v = 2 then x3.toInt else k) [.inr (.inl 61), .inl (0, [0]), .inl (0, [1]), .inl (0, [2])] [.ref 61, .int x1, .int x2, .int x3] := fun k =>
    ⟨rfl, ⟨(fun v hv => by simp at hv; omega), x1, rfl, by simp [af_ev]⟩, ⟨(fun v hv => by simp at hv; omega), x2, rfl, by simp [af_ev]⟩, ⟨(fun v hv => by simp at hv; omega), x3, rfl, by simp [af_ev]⟩, trivial⟩
  rcases hab with hb | ha
  · refine (hq_holds ah_466 (d := 24) (by decide) pz_265 _ hI.1 (hvs 0) ?_ ⟨?_, (fun e he => by cases he), (fun e he => by cases he)⟩).imp ?_
    · intro e he
      simp only [ak_466, List.mem_singleton] at he
      subst he
      exact hl_sl (by intro v hv; simp at hv; subst hv; decide) h4 (by decide) (by rw [hb]; simp [af_ev])
    · intro e he
      simp only [ak_466, List.mem_cons, List.not_mem_nil, or_false] at he
      rcases he with rfl | rfl | rfl | rfl <;> refine ⟨by decide, ?_⟩ <;> simp <;> omega
    · rintro r w' ⟨q1, q2, P, hPm, ρ2, -, hst, -⟩
      exact ⟨hI.fr q1 q2 (by decide), hd_r1 (Ps := ak_466.2.2.2.2) (by decide) ⟨P, hPm, _, ρ2, hst⟩⟩
  · obtain ⟨a', ha', ha1⟩ := hq_int hI.1 (c := 63) (i := 0) (lo := 0) (hi := 10) (by decide) rfl
    have ea : a' = a := by
      rw [h0] at ha'
      cases ha'
      rfl
    subst ea
    refine (hq_holds ah_468 (d := 24) (by decide) pz_265 _ hI.1 (hvs a'.toInt) ?_ ⟨?_, (fun e he => by cases he), (fun e he => by cases he)⟩).imp ?_
    · intro e he
      simp only [ak_468, List.mem_singleton] at he
      subst he
      exact hl_sl (by intro v hv; simp at hv; subst hv; decide) h0 (by decide) (by simp [af_ev])
    · intro e he
      simp only [ak_468, List.mem_cons, List.not_mem_nil, or_false] at he
      rcases he with rfl | rfl | rfl | rfl <;> refine ⟨by decide, ?_⟩ <;> simp <;> omega
    · rintro r w' ⟨q1, q2, P, hPm, ρ2, -, hst, -⟩
      exact ⟨hI.fr q1 q2 (by decide), hd_r1 (Ps := ak_468.2.2.2.2) (by decide) ⟨P, hPm, _, ρ2, hst⟩⟩
theorem lm_40 {w : pi_W} (hI : lw_I w) (x1 : Int32) : hq_F 24 (11, 3, (some .boolean), false, mc_283) (fun r w' => lw_I w' ∧ ∃ v : Int32, r = some (.int v)) (0, lv_args 0 [.ref 61, .int x1], [], w) := by
  obtain ⟨hC, ⟨v1, v2, v3⟩, j1, j2, j3⟩ := hI
  refine ((hs_restore (d := 23) (k := x1) (by decide) hC).int (Or.inr rfl)).imp ?_
  rintro r w' ⟨⟨hC', hF, hv⟩, hr⟩
  have h76 : ∀ i, af_wloc w' 76 i = af_wloc w 76 i := fun i => hq_cell hF (by decide)
  refine ⟨⟨hC', ⟨?_, v2.fr (fun i _ _ => h76 i), v3.fr (fun i _ _ => h76 i)⟩, ?_, j2.fr (h76 _) (h76 _), j3.fr (h76 _) (h76 _)⟩, hr⟩
  · rcases hv with hv | ⟨kk, hk, hv⟩
    · exact v1.fr (fun i _ _ => hv i)
    · have hc : kk = 0 ∨ kk = 1 := by omega
      rcases hc with rfl | rfl
      · exact v2.cp (fun i h1 h2 => by rw [Nat.zero_add, hv i h2, Nat.mul_zero, Nat.zero_add])
      · exact v3.cp (fun i h1 h2 => by rw [Nat.zero_add, hv i h2])
  · rcases hv with hv | ⟨kk, hk, hv⟩
    · exact j1.fr (hv _) (hv _)
    · have hc : kk = 0 ∨ kk = 1 := by omega
      rcases hc with rfl | rfl
      · exact j2.fr (hv 0 (by decide)) (hv 4 (by decide))
      · exact j3.fr (hv 0 (by decide)) (hv 4 (by decide))
/-- the image's answer -/
def lw_im (x : Int32) : Int32 := if 0 ≤ x.toInt ∧ x.toInt ≤ 1 then 1 else 0
theorem lm_im {w : pi_W} (hI : lw_I w) (x1 : Int32) : hq_F 24 hm282 (fun r w' => lw_I w' ∧ r = some (.int (lw_im x1))) (0, lv_args 0 [.ref 61, .int x1], [], w) := by
  obtain ⟨hC, ⟨v1, v2, v3⟩, j1, j2, j3⟩ := hI
  refine (hs_image (d := 23) (k := x1) (by decide) hC).imp ?_
  rintro r w' ⟨hC', h⟩
  rcases h with ⟨h1, rfl, hF⟩ | ⟨h1, rfl, kk, hk, -, hF, hv⟩
  · refine ⟨lw_I.fr ⟨hC, ⟨v1, v2, v3⟩, j1, j2, j3⟩ hC' hF (by decide), ?_⟩
    unfold lw_im
    rw [if_neg h1]
  · have hcv : ∀ c i, ¬ ((c = 61 ∧ i = 0) ∨ (c = 76 ∧ 411 * kk ≤ i ∧ i < 411 * kk + 411) ∨ (c = 77 ∧ i < 54) ∨ (c = 78 ∧ i < 2)) → af_wloc w' c i = af_wloc w c i := fun c i h => hF c i (by
      cases hq : af_cov (hi_N kk) c i i with
      | false => rfl
      | true => exact absurd (hi_cN.mp hq) h)
    have h63 : ∀ i, af_wloc w' 63 i = af_wloc w 63 i := fun i => hcv 63 i (by omega)
    have hc : kk = 0 ∨ kk = 1 := by omega
    refine ⟨⟨hC', ⟨v1.fr (fun i _ _ => h63 i), ?_, ?_⟩, j1.fr (h63 _) (h63 _), ?_, ?_⟩, by unfold lw_im; rw [if_pos h1]⟩
    · rcases hc with rfl | rfl
      · exact v1.cp (fun i h1 h2 => by rw [Nat.zero_add]; have := hv i h2; rw [Nat.mul_zero, Nat.zero_add] at this; exact this)
      · exact v2.fr (fun i h1 h2 => hcv 76 i (by omega))
    · rcases hc with rfl | rfl
      · exact v3.fr (fun i h1 h2 => hcv 76 i (by omega))
      · exact v1.cp (fun i h1 h2 => by rw [Nat.zero_add]; exact hv i h2)
    · rcases hc with rfl | rfl
      · exact j1.fr (hv 0 (by decide)) (hv 4 (by decide))
      · exact j2.fr (hcv 76 0 (by omega)) (hcv 76 4 (by omega))
    · rcases hc with rfl | rfl
      · exact j3.fr (hcv 76 411 (by omega)) (hcv 76 415 (by omega))
      · exact j1.fr (hv 0 (by decide)) (hv 4 (by decide))
theorem lx_im {w : pi_W} (hI : lw_I w) (x1 : Int32) : hq_F 24 (10, 2, (some .boolean), false, mc_149) (fun r w' => lw_I w' ∧ r = some (.int (lw_im x1))) (0, lv_args 0 [.ref 0, .int x1], [], w) := by
  have hi : (-2147483648 : Int) ≤ x1.toInt ∧ x1.toInt ≤ 2147483647 := af_i32 x1
  have hvs : af_St 1 (fun _ => x1.toInt) [.inr (.inl 0), .inl (0, [0])] [.ref 0, .int x1] := ⟨rfl, ⟨(fun v hv => by simp at hv; omega), x1, rfl, by simp [af_ev]⟩, trivial⟩
  by_cases h : 0 ≤ x1.toInt ∧ x1.toInt ≤ 1
  · refine (hq_holds ah_792 (d := 24) (by decide) pz_149 (fun _ => x1.toInt) hI.1 hvs (fun e he => by cases he) ⟨?_, (fun e he => by cases he), (fun e he => by cases he)⟩).imp ?_
    · intro e he
      simp only [ak_792, List.mem_singleton] at he
      subst he
      exact ⟨by decide, h⟩
    · rintro r w' ⟨q1, q2, P, hPm, ρ2, -, hst, -⟩
      refine ⟨hI.fr q1 q2 (by decide), ?_⟩
      simp only [ak_792, List.mem_singleton] at hPm
      subst hPm
      obtain ⟨v, rfl, hv⟩ := hl_res hst
      rw [af_ev_c] at hv
      unfold lw_im
      rw [if_pos h, hn_1e hv]
  · refine (hq_holds ah_345 (d := 24) (by decide) pz_149 (fun _ => x1.toInt) hI.1 hvs (fun e he => by cases he) ⟨?_, (fun e he => by cases he), (fun e he => by cases he)⟩).imp ?_
    · intro e he
      simp only [ak_345, List.mem_singleton] at he
      subst he
      exact ⟨by decide, hi⟩
    · rintro r w' ⟨q1, q2, P, hPm, ρ2, hag, hst, -, hK⟩
      refine ⟨hI.fr q1 q2 (by decide), ?_⟩
      have g0 : ρ2 0 = x1.toInt := hag 0 (by decide)
      simp only [ak_345, List.mem_cons, List.not_mem_nil, or_false] at hPm
      rcases hPm with rfl | rfl
      · obtain ⟨v, rfl, hv⟩ := hl_res hst
        rw [af_ev_c] at hv
        unfold lw_im
        rw [if_neg h, hn_0 hv]
      · have hb := (hK.1 (0, 0, 1) (by simp)).2
        dsimp only at hb
        exact absurd (by omega) h
