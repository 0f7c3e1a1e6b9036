/-! ===== more of NAMES; by program ===== -/
theorem si_2_39 : pi_look pi_iT 2 39 = some (1, 160, 3, 545) := rfl
theorem si_9_110 : pi_look pi_iT 9 110 = some (2, 108, 2, 556) := rfl
def sm23 : pi_M := (3, 3, (some .boolean), false, mc_23)
def sm24 : pi_M := (3, 3, (some .int), false, mc_24)
def sf_10 : List (Nat ⊕ (Int × Int) ⊕ Unit) := match (aw_Sh[10]? : Option af_C) with
  | some (.inr (_, f)) => f
  | _ => []
theorem sh_10 : aw_Sh[10]? = some (.inr (3, sf_10)) := rfl
set_option maxRecDepth 100000 in
theorem sz_23 : pi_mt[23]? = some (mn_23, prog_5_method_4_code, (3, 3, (some .boolean), false, mc_23)) := rfl
set_option maxRecDepth 100000 in
theorem sz_24 : pi_mt[24]? = some (mn_24, prog_5_method_5_code, (3, 3, (some .int), false, mc_24)) := rfl
theorem hf23_0 : pi_fetch mc_23 0 = some (.aload_n 0, 1) := rfl
theorem hf23_1 : pi_fetch mc_23 1 = some (.getfield 15, 3) := rfl
theorem hf23_4 : pi_fetch mc_23 4 = some (.getfield 84, 3) := rfl
theorem hf23_7 : pi_fetch mc_23 7 = some (.iload_n 1, 1) := rfl
theorem hf23_8 : pi_fetch mc_23 8 = some (.invokestatic 88, 3) := rfl
theorem hf23_11 : pi_fetch mc_23 11 = some (.iload_n 2, 1) := rfl
theorem hf23_12 : pi_fetch mc_23 12 = some (.if_icmp .lt 12, 3) := rfl
theorem hf23_15 : pi_fetch mc_23 15 = some (.aload_n 0, 1) := rfl
theorem hf23_16 : pi_fetch mc_23 16 = some (.getfield 9, 3) := rfl
theorem hf23_19 : pi_fetch mc_23 19 = some (.iconst 4, 1) := rfl
theorem hf23_20 : pi_fetch mc_23 20 = some (.invokevirtual 80, 3) := rfl
theorem hf23_23 : pi_fetch mc_23 23 = some (.ireturn, 1) := rfl
theorem hf23_24 : pi_fetch mc_23 24 = some (.aload_n 0, 1) := rfl
theorem hf23_25 : pi_fetch mc_23 25 = some (.getfield 9, 3) := rfl
theorem hf23_28 : pi_fetch mc_23 28 = some (.invokevirtual 68, 3) := rfl
theorem hf23_31 : pi_fetch mc_23 31 = some (.iconst 1, 1) := rfl
theorem hf23_32 : pi_fetch mc_23 32 = some (.ireturn, 1) := rfl
theorem hf24_0 : pi_fetch mc_24 0 = some (.aload_n 0, 1) := rfl
theorem hf24_1 : pi_fetch mc_24 1 = some (.getfield 9, 3) := rfl
theorem hf24_4 : pi_fetch mc_24 4 = some (.invokevirtual 92, 3) := rfl
theorem hf24_7 : pi_fetch mc_24 7 = some (.ifCond .ne 14, 3) := rfl
theorem hf24_10 : pi_fetch mc_24 10 = some (.aload_n 0, 1) := rfl
theorem hf24_11 : pi_fetch mc_24 11 = some (.getfield 9, 3) := rfl
theorem hf24_14 : pi_fetch mc_24 14 = some (.iconst 1, 1) := rfl
theorem hf24_15 : pi_fetch mc_24 15 = some (.invokevirtual 80, 3) := rfl
theorem hf24_18 : pi_fetch mc_24 18 = some (.pop, 1) := rfl
theorem hf24_19 : pi_fetch mc_24 19 = some (.iconst (-1), 1) := rfl
theorem hf24_20 : pi_fetch mc_24 20 = some (.ireturn, 1) := rfl
theorem hf24_21 : pi_fetch mc_24 21 = some (.aload_n 0, 1) := rfl
theorem hf24_22 : pi_fetch mc_24 22 = some (.getfield 15, 3) := rfl
theorem hf24_25 : pi_fetch mc_24 25 = some (.aload_n 0, 1) := rfl
theorem hf24_26 : pi_fetch mc_24 26 = some (.getfield 9, 3) := rfl
theorem hf24_29 : pi_fetch mc_24 29 = some (.getfield 95, 3) := rfl
theorem hf24_32 : pi_fetch mc_24 32 = some (.invokevirtual 99, 3) := rfl
theorem hf24_35 : pi_fetch mc_24 35 = some (.ifCond .eq 14, 3) := rfl
theorem hf24_38 : pi_fetch mc_24 38 = some (.aload_n 0, 1) := rfl
theorem hf24_39 : pi_fetch mc_24 39 = some (.getfield 9, 3) := rfl
theorem hf24_42 : pi_fetch mc_24 42 = some (.iconst 3, 1) := rfl
theorem hf24_43 : pi_fetch mc_24 43 = some (.invokevirtual 80, 3) := rfl
theorem hf24_46 : pi_fetch mc_24 46 = some (.pop, 1) := rfl
theorem hf24_47 : pi_fetch mc_24 47 = some (.iconst (-1), 1) := rfl
theorem hf24_48 : pi_fetch mc_24 48 = some (.ireturn, 1) := rfl
theorem hf24_49 : pi_fetch mc_24 49 = some (.aload_n 0, 1) := rfl
theorem hf24_50 : pi_fetch mc_24 50 = some (.getfield 15, 3) := rfl
theorem hf24_53 : pi_fetch mc_24 53 = some (.aload_n 0, 1) := rfl
theorem hf24_54 : pi_fetch mc_24 54 = some (.getfield 9, 3) := rfl
theorem hf24_57 : pi_fetch mc_24 57 = some (.getfield 95, 3) := rfl
theorem hf24_60 : pi_fetch mc_24 60 = some (.iload_n 1, 1) := rfl
theorem hf24_61 : pi_fetch mc_24 61 = some (.invokevirtual 103, 3) := rfl
theorem hf24_64 : pi_fetch mc_24 64 = some (.istore_n 2, 1) := rfl
theorem hf24_65 : pi_fetch mc_24 65 = some (.aload_n 0, 1) := rfl
theorem hf24_66 : pi_fetch mc_24 66 = some (.getfield 9, 3) := rfl
theorem hf24_69 : pi_fetch mc_24 69 = some (.invokevirtual 68, 3) := rfl
theorem hf24_72 : pi_fetch mc_24 72 = some (.iload_n 2, 1) := rfl
theorem hf24_73 : pi_fetch mc_24 73 = some (.ireturn, 1) := rfl
theorem cn_tk_s {d B M s : Nat} {tp : Nat → Nat} {w : pi_W} {t : tq_T} {NT : List nt_E} {y : Int32} (h : CT tp B M w t) (hN : NC w 8 9 NT) (ho : nt_ok NT) (hy : y.toInt = (s : Int)) : hq_F (d + 3) sm109 (fun r w' => (∃ v : Int32, r = some (.int v) ∧ (t.1 = 2 ∧ tq_kx t.2.2.2.1 = -1) ∧ v.toInt = nt_f NT s t.2.2.2.1 ∧ ¬ nt_f NT s t.2.2.2.1 = -1 ∧ CT tp B M w' (tq_nx tp B M t) ∧ af_Fr [(1, 4, 10)] w w') ∨ (r = some (.int (-1)) ∧ CT tp B M w' t ∧ af_Fr [(1, 10, 12)] w w' ∧ ((¬ (t.1 = 2 ∧ tq_kx t.2.2.2.1 = -1) ∧ FC w' 1 t.2.1) ∨ ((t.1 = 2 ∧ tq_kx t.2.2.2.1 = -1) ∧ nt_f NT s t.2.2.2.1 = -1 ∧ FC w' 3 t.2.1)))) (0, lv_args 0 [.ref 1, .ref 7, .int y], [], w) := by
  obtain ⟨hC, hP, hM, hV, ⟨f1, f2, f3, f4, f5, f6⟩, hW1, hW2, hW3⟩ := id h
  have g0 : pi_get (lv_args 0 [.ref 1, .ref 7, .int y]) 0 = some (.ref 1) := rfl
  have g1 : pi_get (lv_args 0 [.ref 1, .ref 7, .int y]) 1 = some (.ref 7) := rfl
  have g2 : pi_get (lv_args 0 [.ref 1, .ref 7, .int y]) 2 = some (.int y) := rfl
  have kc0 : ((-1 : Int32)).toInt = (-1) := by decide
  have kc1 : ((Int32.ofInt (-1))).toInt = (-1) := by decide
  have kz := sy_z0
  refine hq_F.st (s' := (1, _, _, _)) hf109_0 rfl rfl rfl (hs_al g0) ?_
  refine hq_F.st (s' := (2, _, _, _)) hf109_1 rfl rfl rfl (sy_al g1) ?_
  refine hq_F.st (s' := (3, _, _, _)) hf109_2 rfl rfl rfl (hs_iln g2) ?_
  refine hq_F.call hf109_3 rfl rfl si_9_110 (by decide) (by decide) sz_108 (sy_argsV hC sh_1 rfl rfl rfl (Nat.le_of_ble_eq_true rfl) rfl (Nat.le_of_ble_eq_true rfl) rfl (by decide)) (cn_nh_s (d := d) h hN ho hy) (fun r w' q => by rcases q with q | q; rw [q.1]; rw [q.2.1.1.1, hC.1]) ?_
  rintro r3 w7 q
  try dsimp only
  rcases q with ⟨rfl, v, rfl, q1, q2, q3⟩ | ⟨rfl, q1, q2, q3⟩
  · skip
    refine hq_F.st (s' := (7, _, _, _)) hf109_6 rfl rfl rfl rfl ?_
    refine hq_F.st (s' := (8, _, _, _)) hf109_7 rfl rfl rfl (hs_iln (pi_get_set _ _ _)) ?_
    refine hq_F.st (s' := (9, _, _, _)) hf109_8 rfl rfl rfl rfl ?_
    refine hq_F.st (s' := (12, _, _, _)) hf109_9 rfl rfl rfl (hs_icn (t := 16) (ci_eqn (by omega)) rfl) ?_
    refine hq_F.st (s' := (13, _, _, _)) hf109_12 rfl rfl rfl (hs_al (hg_nr g0 (by decide))) ?_
    refine hq_F.call hf109_13 rfl rfl si_9_49 (by decide) (by decide) sz_98 (sy_argsV h.1 sh_1 rfl rfl rfl (Nat.le_of_ble_eq_true rfl) rfl (Nat.le_of_ble_eq_true rfl) rfl (by decide)) (ct_adv (d := d) h (by omega)) (fun _ _ q => by rw [q.2.1.1.1, h.1.1]) ?_
    rintro r13 w8 ⟨rfl, k1, k2⟩
    try dsimp only
    refine hq_F.st (s' := (17, _, _, _)) hf109_16 rfl rfl rfl (hs_iln (pi_get_set _ _ _)) ?_
    refine hq_F.en hf109_17 rfl (pi_ri _) ?_
    exact Or.inl ⟨v, rfl, q1, q2, q3, k1, k2⟩
  · skip
    refine hq_F.st (s' := (7, _, _, _)) hf109_6 rfl rfl rfl rfl ?_
    refine hq_F.st (s' := (8, _, _, _)) hf109_7 rfl rfl rfl (hs_iln (pi_get_set _ _ _)) ?_
    refine hq_F.st (s' := (9, _, _, _)) hf109_8 rfl rfl rfl rfl ?_
    refine hq_F.st (s' := (16, _, _, _)) hf109_9 rfl rfl rfl (hs_ic (ci_eq (by omega)) rfl) ?_
    refine hq_F.st (s' := (17, _, _, _)) hf109_16 rfl rfl rfl (hs_iln (pi_get_set _ _ _)) ?_
    refine hq_F.en hf109_17 rfl rfl ?_
    exact Or.inr ⟨rfl, q1, q2, q3⟩
theorem cn_tk_l {d B M s : Nat} {tp : Nat → Nat} {w : pi_W} {t : tq_T} {NT : List nt_E} {y : Int32} (h : CT tp B M w t) (hN : NC w 5 6 NT) (ho : nt_ok NT) (hy : y.toInt = (s : Int)) : hq_F (d + 3) sm109 (fun r w' => (∃ v : Int32, r = some (.int v) ∧ (t.1 = 2 ∧ tq_kx t.2.2.2.1 = -1) ∧ v.toInt = nt_f NT s t.2.2.2.1 ∧ ¬ nt_f NT s t.2.2.2.1 = -1 ∧ CT tp B M w' (tq_nx tp B M t) ∧ af_Fr [(1, 4, 10)] w w') ∨ (r = some (.int (-1)) ∧ CT tp B M w' t ∧ af_Fr [(1, 10, 12)] w w' ∧ ((¬ (t.1 = 2 ∧ tq_kx t.2.2.2.1 = -1) ∧ FC w' 1 t.2.1) ∨ ((t.1 = 2 ∧ tq_kx t.2.2.2.1 = -1) ∧ nt_f NT s t.2.2.2.1 = -1 ∧ FC w' 3 t.2.1)))) (0, lv_args 0 [.ref 1, .ref 4, .int y], [], w) := by
  obtain ⟨hC, hP, hM, hV, ⟨f1, f2, f3, f4, f5, f6⟩, hW1, hW2, hW3⟩ := id h
  have g0 : pi_get (lv_args 0 [.ref 1, .ref 4, .int y]) 0 = some (.ref 1) := rfl
  have g1 : pi_get (lv_args 0 [.ref 1, .ref 4, .int y]) 1 = some (.ref 4) := rfl
  have g2 : pi_get (lv_args 0 [.ref 1, .ref 4, .int y]) 2 = some (.int y) := rfl
  have kc0 : ((-1 : Int32)).toInt = (-1) := by decide
  have kc1 : ((Int32.ofInt (-1))).toInt = (-1) := by decide
  have kz := sy_z0
  refine hq_F.st (s' := (1, _, _, _)) hf109_0 rfl rfl rfl (hs_al g0) ?_
  refine hq_F.st (s' := (2, _, _, _)) hf109_1 rfl rfl rfl (sy_al g1) ?_
  refine hq_F.st (s' := (3, _, _, _)) hf109_2 rfl rfl rfl (hs_iln g2) ?_
  refine hq_F.call hf109_3 rfl rfl si_9_110 (by decide) (by decide) sz_108 (sy_argsV hC sh_1 rfl rfl rfl (Nat.le_of_ble_eq_true rfl) rfl (Nat.le_of_ble_eq_true rfl) rfl (by decide)) (cn_nh_l (d := d) h hN ho hy) (fun r w' q => by rcases q with q | q; rw [q.1]; rw [q.2.1.1.1, hC.1]) ?_
  rintro r3 w7 q
  try dsimp only
  rcases q with ⟨rfl, v, rfl, q1, q2, q3⟩ | ⟨rfl, q1, q2, q3⟩
  · skip
    refine hq_F.st (s' := (7, _, _, _)) hf109_6 rfl rfl rfl rfl ?_
    refine hq_F.st (s' := (8, _, _, _)) hf109_7 rfl rfl rfl (hs_iln (pi_get_set _ _ _)) ?_
    refine hq_F.st (s' := (9, _, _, _)) hf109_8 rfl rfl rfl rfl ?_
    refine hq_F.st (s' := (12, _, _, _)) hf109_9 rfl rfl rfl (hs_icn (t := 16) (ci_eqn (by omega)) rfl) ?_
    refine hq_F.st (s' := (13, _, _, _)) hf109_12 rfl rfl rfl (hs_al (hg_nr g0 (by decide))) ?_
    refine hq_F.call hf109_13 rfl rfl si_9_49 (by decide) (by decide) sz_98 (sy_argsV h.1 sh_1 rfl rfl rfl (Nat.le_of_ble_eq_true rfl) rfl (Nat.le_of_ble_eq_true rfl) rfl (by decide)) (ct_adv (d := d) h (by omega)) (fun _ _ q => by rw [q.2.1.1.1, h.1.1]) ?_
    rintro r13 w8 ⟨rfl, k1, k2⟩
    try dsimp only
    refine hq_F.st (s' := (17, _, _, _)) hf109_16 rfl rfl rfl (hs_iln (pi_get_set _ _ _)) ?_
    refine hq_F.en hf109_17 rfl (pi_ri _) ?_
    exact Or.inl ⟨v, rfl, q1, q2, q3, k1, k2⟩
  · skip
    refine hq_F.st (s' := (7, _, _, _)) hf109_6 rfl rfl rfl rfl ?_
    refine hq_F.st (s' := (8, _, _, _)) hf109_7 rfl rfl rfl (hs_iln (pi_get_set _ _ _)) ?_
    refine hq_F.st (s' := (9, _, _, _)) hf109_8 rfl rfl rfl rfl ?_
    refine hq_F.st (s' := (16, _, _, _)) hf109_9 rfl rfl rfl (hs_ic (ci_eq (by omega)) rfl) ?_
    refine hq_F.st (s' := (17, _, _, _)) hf109_16 rfl rfl rfl (hs_iln (pi_get_set _ _ _)) ?_
    refine hq_F.en hf109_17 rfl rfl ?_
    exact Or.inr ⟨rfl, q1, q2, q3⟩
theorem sg_116 : ∀ k, k < 27 → af_seg sf_8 (116 + k) = some (-2147483648, 2147483647) := by decide
theorem sg_143 : ∀ k, k < 27 → af_seg sf_8 (143 + k) = some (0, 10) := by decide
theorem cn_add0 {d : Nat} {w : pi_W} {NT : List nt_E} {u : List Nat} (hC : af_Conf aw_Sh w) (hN : NC w 8 9 NT) (hc : (gv w 8 0).toInt = (nt_c 0 NT : Int)) (hm : nt_c 0 NT < 10) (hl : NT.length < 27) : hq_F (d + 1) sm14 (fun r w' => r = some (.int (Int32.ofNat (nt_c 0 NT))) ∧ af_Conf aw_Sh w' ∧ NC w' 8 9 (NT ++ [(0, nt_c 0 NT, u)]) ∧ af_Fr [(8, 0, 1), (8, 5, 6), (8, 116, 170), (9, 0, 27)] w w' ∧ (gv w' 8 0).toInt = ((nt_c 0 NT + 1 : Nat) : Int) ∧ True) (0, lv_args 0 [.ref 7, .long (Int64.ofNat (tq_c32 u)), .int (Int32.ofInt 0)], [], w) := by
  have e5 : gv w 8 5 = Int32.ofNat NT.length := hn_e hN.1 (by omega)
  have es : gv w 8 0 = Int32.ofNat (nt_c 0 NT) := hn_e hc (by omega)
  have tl : (Int32.ofNat NT.length).toInt = (NT.length : Int) := hn_t (by omega)
  have tc : (Int32.ofNat (nt_c 0 NT)).toInt = (nt_c 0 NT : Int) := hn_t (by omega)
  have tl1 : (Int32.ofNat NT.length + Int32.ofInt 1).toInt = ((NT.length + 1 : Nat) : Int) := sy_inc tl (by omega)
  have tc1 : (Int32.ofNat (nt_c 0 NT) + Int32.ofInt 1).toInt = ((nt_c 0 NT + 1 : Nat) : Int) := sy_inc tc (by omega)
  have g0 : pi_get (lv_args 0 [.ref 7, .long (Int64.ofNat (tq_c32 u)), .int (Int32.ofInt 0)]) 0 = some (.ref 7) := rfl
  have g1 : pi_get (lv_args 0 [.ref 7, .long (Int64.ofNat (tq_c32 u)), .int (Int32.ofInt 0)]) 1 = some (.long (Int64.ofNat (tq_c32 u))) := rfl
  have g3 : pi_get (lv_args 0 [.ref 7, .long (Int64.ofNat (tq_c32 u)), .int (Int32.ofInt 0)]) 3 = some (.int (Int32.ofInt 0)) := rfl
  have kc0 : (((Int16.ofInt 143).toInt32)).toInt = 143 := by decide
  have kc1 : (((Int8.ofInt 116).toInt32)).toInt = 116 := by decide
  have kc2 : ((Int32.ofInt 0)).toInt = 0 := by decide
  have kc3 : ((Int32.ofInt 1)).toInt = 1 := by decide
  have kc4 : ((Int32.ofInt 5)).toInt = 5 := by decide
  have kc5 : ((Int32.ofNat 27)).toInt = 27 := by decide
  have kz := sy_z0
  refine hq_F.st (s' := (1, _, _, _)) hf14_0 rfl rfl rfl (hs_al g0) ?_
  refine hq_F.st (s' := (4, _, _, _)) hf14_1 rfl rfl rfl (hq_gf hC sh_7 sk_2_11 (hq_ref hC sh_7 (b := 8) rfl)) ?_
  refine hq_F.st (s' := (5, _, _, _)) hf14_4 rfl rfl rfl rfl ?_
  refine hq_F.call hf14_5 rfl rfl si_2_35 (by decide) (by decide) sz_159 (sy_argsS rfl rfl rfl (Nat.le_of_ble_eq_true rfl) (by decide) rfl (Nat.le_of_ble_eq_true rfl) (by decide)) (ca_at hC sh_8 (j := 5) (by omega) (by decide)) (fun _ _ q => by rw [q.1]) ?_
  rintro r5 w ⟨rfl, rfl⟩
  try dsimp only
  rw [e5]
  refine hq_F.st (s' := (10, _, _, _)) hf14_8 rfl rfl rfl (sy_is (by decide)) ?_
  refine hq_F.st (s' := (11, _, _, _)) hf14_10 rfl rfl rfl (hs_al (hg_nr g0 (by decide))) ?_
  refine hq_F.st (s' := (14, _, _, _)) hf14_11 rfl rfl rfl (hq_gf hC sh_7 sk_2_11 (hq_ref hC sh_7 (b := 8) rfl)) ?_
  refine hq_F.st (s' := (15, _, _, _)) hf14_14 rfl rfl rfl (hs_iln (hg_ne g3 (by decide))) ?_
  refine hq_F.call hf14_15 rfl rfl si_2_35 (by decide) (by decide) sz_159 (sy_argsS rfl rfl rfl (Nat.le_of_ble_eq_true rfl) (by decide) rfl (Nat.le_of_ble_eq_true rfl) (by decide)) (ca_at hC sh_8 (j := 0) (by omega) (by decide)) (fun _ _ q => by rw [q.1]) ?_
  rintro r15 w ⟨rfl, rfl⟩
  try dsimp only
  rw [es]
  refine hq_F.st (s' := (20, _, _, _)) hf14_18 rfl rfl rfl (sy_is (by decide)) ?_
  refine hq_F.st (s' := (22, _, _, _)) hf14_20 rfl rfl rfl (hs_il (hg_ne (pi_get_set _ _ _) (by decide))) ?_
  refine hq_F.st (s' := (25, _, _, _)) hf14_22 rfl rfl rfl (hs_ifn (t := 95) (ci_ltn (by omega)) rfl) ?_
  refine hq_F.st (s' := (27, _, _, _)) hf14_25 rfl rfl rfl (hs_il (hg_ne (pi_get_set _ _ _) (by decide))) ?_
  refine hq_F.st (s' := (28, _, _, _)) hf14_27 rfl rfl rfl (hs_al (hg_nr (hg_nr g0 (by decide)) (by decide))) ?_
  refine hq_F.st (s' := (31, _, _, _)) hf14_28 rfl rfl rfl (hq_gf hC sh_7 sk_2_15 (hq_ref hC sh_7 (b := 9) rfl)) ?_
  refine hq_F.st (s' := (32, _, _, _)) hf14_31 rfl rfl rfl (sy_len hC sh_9) ?_
  refine hq_F.st (s' := (35, _, _, _)) hf14_32 rfl rfl rfl (hs_icn (t := 95) (ci_gen (by omega)) rfl) ?_
  refine hq_F.st (s' := (36, _, _, _)) hf14_35 rfl rfl rfl (hs_al (hg_nr (hg_nr g0 (by decide)) (by decide))) ?_
  refine hq_F.st (s' := (39, _, _, _)) hf14_36 rfl rfl rfl (hq_gf hC sh_7 sk_2_15 (hq_ref hC sh_7 (b := 9) rfl)) ?_
  refine hq_F.st (s' := (41, _, _, _)) hf14_39 rfl rfl rfl (hs_il (hg_ne (pi_get_set _ _ _) (by decide))) ?_
  refine hq_F.st (s' := (42, _, _, _)) hf14_41 rfl rfl rfl (sy_ll (hg_nl (hg_nl g1 (by decide)) (by decide))) ?_
  refine sy_lsv hf14_42 hC sh_9 (n := NT.length) (hn_t (by omega)) (by omega) (fun w1 hC1 hw1 => ?_)
  refine hq_F.st (s' := (44, _, _, _)) hf14_43 rfl rfl rfl (hs_al (hg_nr (hg_nr g0 (by decide)) (by decide))) ?_
  refine hq_F.st (s' := (47, _, _, _)) hf14_44 rfl rfl rfl (hq_gf hC1 sh_7 sk_2_11 (hq_ref hC1 sh_7 (b := 8) rfl)) ?_
  refine hq_F.st (s' := (49, _, _, _)) hf14_47 rfl rfl rfl rfl ?_
  refine hq_F.st (s' := (51, _, _, _)) hf14_49 rfl rfl rfl (hs_il (hg_ne (pi_get_set _ _ _) (by decide))) ?_
  refine hq_F.st (s' := (52, _, _, _)) hf14_51 rfl rfl rfl rfl ?_
  refine hq_F.st (s' := (53, _, _, _)) hf14_52 rfl rfl rfl (hs_iln (hg_ne (hg_ne g3 (by decide)) (by decide))) ?_
  rw [hn_k (n := NT.length) hn_116]
  refine hq_F.call hf14_53 rfl rfl si_2_39 (by decide) (by decide) sz_160 (sy_argsS rfl rfl rfl (Nat.le_of_ble_eq_true rfl) (by decide) rfl (Nat.le_of_ble_eq_true rfl) (by decide)) (ca_put hC1 sh_8 (j := 116 + NT.length) (by omega) (by decide) (fun q hq => by rw [sg_116 _ (by omega)] at hq; cases hq; exact af_i32 _)) (fun _ _ q => by rw [q.2.1.1, hC1.1]) ?_
  rintro r53 w2 ⟨rfl, hC2, hw2⟩
  try dsimp only
  refine hq_F.st (s' := (57, _, _, _)) hf14_56 rfl rfl rfl (hs_al (hg_nr (hg_nr g0 (by decide)) (by decide))) ?_
  refine hq_F.st (s' := (60, _, _, _)) hf14_57 rfl rfl rfl (hq_gf hC2 sh_7 sk_2_11 (hq_ref hC2 sh_7 (b := 8) rfl)) ?_
  refine hq_F.st (s' := (63, _, _, _)) hf14_60 rfl rfl rfl rfl ?_
  refine hq_F.st (s' := (65, _, _, _)) hf14_63 rfl rfl rfl (hs_il (hg_ne (pi_get_set _ _ _) (by decide))) ?_
  refine hq_F.st (s' := (66, _, _, _)) hf14_65 rfl rfl rfl rfl ?_
  refine hq_F.st (s' := (68, _, _, _)) hf14_66 rfl rfl rfl (hs_il (pi_get_set _ _ _)) ?_
  rw [hn_k (n := NT.length) hn_143]
  refine hq_F.call hf14_68 rfl rfl si_2_39 (by decide) (by decide) sz_160 (sy_argsS rfl rfl rfl (Nat.le_of_ble_eq_true rfl) (by decide) rfl (Nat.le_of_ble_eq_true rfl) (by decide)) (ca_put hC2 sh_8 (j := 143 + NT.length) (by omega) (by decide) (fun q hq => by rw [sg_143 _ (by omega)] at hq; cases hq; dsimp only; omega)) (fun _ _ q => by rw [q.2.1.1, hC2.1]) ?_
  rintro r68 w3 ⟨rfl, hC3, hw3⟩
  try dsimp only
  refine hq_F.st (s' := (72, _, _, _)) hf14_71 rfl rfl rfl (hs_al (hg_nr (hg_nr g0 (by decide)) (by decide))) ?_
  refine hq_F.st (s' := (75, _, _, _)) hf14_72 rfl rfl rfl (hq_gf hC3 sh_7 sk_2_11 (hq_ref hC3 sh_7 (b := 8) rfl)) ?_
  refine hq_F.st (s' := (76, _, _, _)) hf14_75 rfl rfl rfl rfl ?_
  refine hq_F.st (s' := (78, _, _, _)) hf14_76 rfl rfl rfl (hs_il (hg_ne (pi_get_set _ _ _) (by decide))) ?_
  refine hq_F.st (s' := (79, _, _, _)) hf14_78 rfl rfl rfl rfl ?_
  refine hq_F.st (s' := (80, _, _, _)) hf14_79 rfl rfl rfl rfl ?_
  refine hq_F.call hf14_80 rfl rfl si_2_39 (by decide) (by decide) sz_160 (sy_argsS rfl rfl rfl (Nat.le_of_ble_eq_true rfl) (by decide) rfl (Nat.le_of_ble_eq_true rfl) (by decide)) (ca_put hC3 sh_8 (j := 5) (by omega) (by decide) (fun q hq => by cases hq; dsimp only; omega)) (fun _ _ q => by rw [q.2.1.1, hC3.1]) ?_
  rintro r80 w4 ⟨rfl, hC4, hw4⟩
  try dsimp only
  refine hq_F.st (s' := (84, _, _, _)) hf14_83 rfl rfl rfl (hs_al (hg_nr (hg_nr g0 (by decide)) (by decide))) ?_
  refine hq_F.st (s' := (87, _, _, _)) hf14_84 rfl rfl rfl (hq_gf hC4 sh_7 sk_2_11 (hq_ref hC4 sh_7 (b := 8) rfl)) ?_
  refine hq_F.st (s' := (88, _, _, _)) hf14_87 rfl rfl rfl (hs_iln (hg_ne (hg_ne g3 (by decide)) (by decide))) ?_
  refine hq_F.st (s' := (90, _, _, _)) hf14_88 rfl rfl rfl (hs_il (pi_get_set _ _ _)) ?_
  refine hq_F.st (s' := (91, _, _, _)) hf14_90 rfl rfl rfl rfl ?_
  refine hq_F.st (s' := (92, _, _, _)) hf14_91 rfl rfl rfl rfl ?_
  refine hq_F.call hf14_92 rfl rfl si_2_39 (by decide) (by decide) sz_160 (sy_argsS rfl rfl rfl (Nat.le_of_ble_eq_true rfl) (by decide) rfl (Nat.le_of_ble_eq_true rfl) (by decide)) (ca_put hC4 sh_8 (j := 0) (by omega) (by decide) (fun q hq => by cases hq; dsimp only; omega)) (fun _ _ q => by rw [q.2.1.1, hC4.1]) ?_
  rintro r92 w5 ⟨rfl, hC5, hw5⟩
  try dsimp only
  refine hq_F.st (s' := (97, _, _, _)) hf14_95 rfl rfl rfl (hs_il (pi_get_set _ _ _)) ?_
  refine hq_F.en hf14_97 rfl (pi_ri _) ?_
  refine ⟨rfl, hC5, ?_, ?_, ?_, ?_⟩
  · refine ⟨?_, by rw [List.length_append]; simp only [List.length_cons, List.length_nil]; omega, fun i e hge => ?_⟩
    · rw [wpv hw5, if_neg (by decide), wpv hw4, if_pos ⟨rfl, rfl⟩, show (Int32.ofInt 1) = Int32.ofNat 1 from rfl, hn_a, List.length_append]
      exact hn_t (by omega)
    · have hv : ∀ j, 116 ≤ j → gv w5 8 j = gv w3 8 j := fun j hj => by rw [wpv hw5, if_neg (by omega), wpv hw4, if_neg (by omega)]
      have hl : ∀ j, gl w5 9 j = gl w1 9 j := fun j => by rw [wpvl hw5, if_neg (by omega), wpvl hw4, if_neg (by omega), wpvl hw3, if_neg (by omega), wpvl hw2, if_neg (by omega)]
      rw [hl, hv _ (by omega), hv _ (by omega)]
      by_cases hi : i < NT.length
      · rw [List.getElem?_append_left hi] at hge
        have he := hN.2.2 i e hge
        rw [wpl hw1, if_neg (by omega), wpv hw3, if_neg (by omega), wpv hw2, if_neg (by omega), wplv hw1, if_neg (by omega), wpv hw3, if_neg (by omega), wpv hw2, if_neg (by omega), wplv hw1, if_neg (by omega)]
        exact he
      · rw [List.getElem?_append_right (by omega)] at hge
        have hi2 : i = NT.length := by
          have := (List.getElem?_eq_some_iff.mp hge).1
          simp only [List.length_cons, List.length_nil] at this
          omega
        subst hi2
        rw [Nat.sub_self] at hge
        have he2 : e = (0, nt_c 0 NT, u) := (Option.some.inj hge).symm
        subst he2
        refine ⟨by rw [wpl hw1, if_pos ⟨rfl, rfl⟩], ?_, ?_⟩
        · rw [wpv hw3, if_neg (by omega), wpv hw2, if_pos ⟨rfl, rfl⟩]
          show (Int32.ofInt 0).toInt = ((0 : Nat) : Int)
          decide
        · rw [wpv hw3, if_pos ⟨rfl, rfl⟩]
          exact hn_t (by omega)
  · refine ((hq_fr (wpF hw1) (fun c i hc => ?_)).tr ((hq_fr (wpF hw2) (fun c i hc => ?_)).tr ((hq_fr (wpF hw3) (fun c i hc => ?_)).tr ((hq_fr (wpF hw4) (fun c i hc => ?_)).tr (hq_fr (wpF hw5) (fun c i hc => ?_))))))
    all_goals (have hq := hq_cov1.mp hc; unfold af_cov; simp only [List.any_cons, List.any_nil, Bool.or_false, Bool.or_eq_true, Bool.and_eq_true, beq_iff_eq, Nat.ble_eq, Nat.blt_eq]; omega)
  · rw [wpv hw5, if_pos ⟨rfl, rfl⟩, show (Int32.ofInt 1) = Int32.ofNat 1 from rfl, hn_a]
    exact hn_t (by omega)
  · trivial
theorem cn_add2 {d : Nat} {w : pi_W} {NT : List nt_E} {u : List Nat} (hC : af_Conf aw_Sh w) (hN : NC w 8 9 NT) (hc : (gv w 8 2).toInt = (nt_c 2 NT : Int)) (hm : nt_c 2 NT < 5) (hl : NT.length < 27) : hq_F (d + 1) sm14 (fun r w' => r = some (.int (Int32.ofNat (nt_c 2 NT))) ∧ af_Conf aw_Sh w' ∧ NC w' 8 9 (NT ++ [(2, nt_c 2 NT, u)]) ∧ af_Fr [(8, 2, 3), (8, 5, 6), (8, 116, 170), (9, 0, 27)] w w' ∧ (gv w' 8 2).toInt = ((nt_c 2 NT + 1 : Nat) : Int) ∧ True) (0, lv_args 0 [.ref 7, .long (Int64.ofNat (tq_c32 u)), .int (Int32.ofInt 2)], [], w) := by
  have e5 : gv w 8 5 = Int32.ofNat NT.length := hn_e hN.1 (by omega)
  have es : gv w 8 2 = Int32.ofNat (nt_c 2 NT) := hn_e hc (by omega)
  have tl : (Int32.ofNat NT.length).toInt = (NT.length : Int) := hn_t (by omega)
  have tc : (Int32.ofNat (nt_c 2 NT)).toInt = (nt_c 2 NT : Int) := hn_t (by omega)
  have tl1 : (Int32.ofNat NT.length + Int32.ofInt 1).toInt = ((NT.length + 1 : Nat) : Int) := sy_inc tl (by omega)
  have tc1 : (Int32.ofNat (nt_c 2 NT) + Int32.ofInt 1).toInt = ((nt_c 2 NT + 1 : Nat) : Int) := sy_inc tc (by omega)
  have g0 : pi_get (lv_args 0 [.ref 7, .long (Int64.ofNat (tq_c32 u)), .int (Int32.ofInt 2)]) 0 = some (.ref 7) := rfl
  have g1 : pi_get (lv_args 0 [.ref 7, .long (Int64.ofNat (tq_c32 u)), .int (Int32.ofInt 2)]) 1 = some (.long (Int64.ofNat (tq_c32 u))) := rfl
  have g3 : pi_get (lv_args 0 [.ref 7, .long (Int64.ofNat (tq_c32 u)), .int (Int32.ofInt 2)]) 3 = some (.int (Int32.ofInt 2)) := rfl
  have kc0 : (((Int16.ofInt 143).toInt32)).toInt = 143 := by decide
  have kc1 : (((Int8.ofInt 116).toInt32)).toInt = 116 := by decide
  have kc2 : ((Int32.ofInt 1)).toInt = 1 := by decide
  have kc3 : ((Int32.ofInt 2)).toInt = 2 := by decide
  have kc4 : ((Int32.ofInt 5)).toInt = 5 := by decide
  have kc5 : ((Int32.ofNat 27)).toInt = 27 := by decide
  have kz := sy_z0
  refine hq_F.st (s' := (1, _, _, _)) hf14_0 rfl rfl rfl (hs_al g0) ?_
  refine hq_F.st (s' := (4, _, _, _)) hf14_1 rfl rfl rfl (hq_gf hC sh_7 sk_2_11 (hq_ref hC sh_7 (b := 8) rfl)) ?_
  refine hq_F.st (s' := (5, _, _, _)) hf14_4 rfl rfl rfl rfl ?_
  refine hq_F.call hf14_5 rfl rfl si_2_35 (by decide) (by decide) sz_159 (sy_argsS rfl rfl rfl (Nat.le_of_ble_eq_true rfl) (by decide) rfl (Nat.le_of_ble_eq_true rfl) (by decide)) (ca_at hC sh_8 (j := 5) (by omega) (by decide)) (fun _ _ q => by rw [q.1]) ?_
  rintro r5 w ⟨rfl, rfl⟩
  try dsimp only
  rw [e5]
  refine hq_F.st (s' := (10, _, _, _)) hf14_8 rfl rfl rfl (sy_is (by decide)) ?_
  refine hq_F.st (s' := (11, _, _, _)) hf14_10 rfl rfl rfl (hs_al (hg_nr g0 (by decide))) ?_
  refine hq_F.st (s' := (14, _, _, _)) hf14_11 rfl rfl rfl (hq_gf hC sh_7 sk_2_11 (hq_ref hC sh_7 (b := 8) rfl)) ?_
  refine hq_F.st (s' := (15, _, _, _)) hf14_14 rfl rfl rfl (hs_iln (hg_ne g3 (by decide))) ?_
  refine hq_F.call hf14_15 rfl rfl si_2_35 (by decide) (by decide) sz_159 (sy_argsS rfl rfl rfl (Nat.le_of_ble_eq_true rfl) (by decide) rfl (Nat.le_of_ble_eq_true rfl) (by decide)) (ca_at hC sh_8 (j := 2) (by omega) (by decide)) (fun _ _ q => by rw [q.1]) ?_
  rintro r15 w ⟨rfl, rfl⟩
  try dsimp only
  rw [es]
  refine hq_F.st (s' := (20, _, _, _)) hf14_18 rfl rfl rfl (sy_is (by decide)) ?_
  refine hq_F.st (s' := (22, _, _, _)) hf14_20 rfl rfl rfl (hs_il (hg_ne (pi_get_set _ _ _) (by decide))) ?_
  refine hq_F.st (s' := (25, _, _, _)) hf14_22 rfl rfl rfl (hs_ifn (t := 95) (ci_ltn (by omega)) rfl) ?_
  refine hq_F.st (s' := (27, _, _, _)) hf14_25 rfl rfl rfl (hs_il (hg_ne (pi_get_set _ _ _) (by decide))) ?_
  refine hq_F.st (s' := (28, _, _, _)) hf14_27 rfl rfl rfl (hs_al (hg_nr (hg_nr g0 (by decide)) (by decide))) ?_
  refine hq_F.st (s' := (31, _, _, _)) hf14_28 rfl rfl rfl (hq_gf hC sh_7 sk_2_15 (hq_ref hC sh_7 (b := 9) rfl)) ?_
  refine hq_F.st (s' := (32, _, _, _)) hf14_31 rfl rfl rfl (sy_len hC sh_9) ?_
  refine hq_F.st (s' := (35, _, _, _)) hf14_32 rfl rfl rfl (hs_icn (t := 95) (ci_gen (by omega)) rfl) ?_
  refine hq_F.st (s' := (36, _, _, _)) hf14_35 rfl rfl rfl (hs_al (hg_nr (hg_nr g0 (by decide)) (by decide))) ?_
  refine hq_F.st (s' := (39, _, _, _)) hf14_36 rfl rfl rfl (hq_gf hC sh_7 sk_2_15 (hq_ref hC sh_7 (b := 9) rfl)) ?_
  refine hq_F.st (s' := (41, _, _, _)) hf14_39 rfl rfl rfl (hs_il (hg_ne (pi_get_set _ _ _) (by decide))) ?_
  refine hq_F.st (s' := (42, _, _, _)) hf14_41 rfl rfl rfl (sy_ll (hg_nl (hg_nl g1 (by decide)) (by decide))) ?_
  refine sy_lsv hf14_42 hC sh_9 (n := NT.length) (hn_t (by omega)) (by omega) (fun w1 hC1 hw1 => ?_)
  refine hq_F.st (s' := (44, _, _, _)) hf14_43 rfl rfl rfl (hs_al (hg_nr (hg_nr g0 (by decide)) (by decide))) ?_
  refine hq_F.st (s' := (47, _, _, _)) hf14_44 rfl rfl rfl (hq_gf hC1 sh_7 sk_2_11 (hq_ref hC1 sh_7 (b := 8) rfl)) ?_
  refine hq_F.st (s' := (49, _, _, _)) hf14_47 rfl rfl rfl rfl ?_
  refine hq_F.st (s' := (51, _, _, _)) hf14_49 rfl rfl rfl (hs_il (hg_ne (pi_get_set _ _ _) (by decide))) ?_
  refine hq_F.st (s' := (52, _, _, _)) hf14_51 rfl rfl rfl rfl ?_
  refine hq_F.st (s' := (53, _, _, _)) hf14_52 rfl rfl rfl (hs_iln (hg_ne (hg_ne g3 (by decide)) (by decide))) ?_
  rw [hn_k (n := NT.length) hn_116]
  refine hq_F.call hf14_53 rfl rfl si_2_39 (by decide) (by decide) sz_160 (sy_argsS rfl rfl rfl (Nat.le_of_ble_eq_true rfl) (by decide) rfl (Nat.le_of_ble_eq_true rfl) (by decide)) (ca_put hC1 sh_8 (j := 116 + NT.length) (by omega) (by decide) (fun q hq => by rw [sg_116 _ (by omega)] at hq; cases hq; exact af_i32 _)) (fun _ _ q => by rw [q.2.1.1, hC1.1]) ?_
  rintro r53 w2 ⟨rfl, hC2, hw2⟩
  try dsimp only
  refine hq_F.st (s' := (57, _, _, _)) hf14_56 rfl rfl rfl (hs_al (hg_nr (hg_nr g0 (by decide)) (by decide))) ?_
  refine hq_F.st (s' := (60, _, _, _)) hf14_57 rfl rfl rfl (hq_gf hC2 sh_7 sk_2_11 (hq_ref hC2 sh_7 (b := 8) rfl)) ?_
  refine hq_F.st (s' := (63, _, _, _)) hf14_60 rfl rfl rfl rfl ?_
  refine hq_F.st (s' := (65, _, _, _)) hf14_63 rfl rfl rfl (hs_il (hg_ne (pi_get_set _ _ _) (by decide))) ?_
  refine hq_F.st (s' := (66, _, _, _)) hf14_65 rfl rfl rfl rfl ?_
  refine hq_F.st (s' := (68, _, _, _)) hf14_66 rfl rfl rfl (hs_il (pi_get_set _ _ _)) ?_
  rw [hn_k (n := NT.length) hn_143]
  refine hq_F.call hf14_68 rfl rfl si_2_39 (by decide) (by decide) sz_160 (sy_argsS rfl rfl rfl (Nat.le_of_ble_eq_true rfl) (by decide) rfl (Nat.le_of_ble_eq_true rfl) (by decide)) (ca_put hC2 sh_8 (j := 143 + NT.length) (by omega) (by decide) (fun q hq => by rw [sg_143 _ (by omega)] at hq; cases hq; dsimp only; omega)) (fun _ _ q => by rw [q.2.1.1, hC2.1]) ?_
  rintro r68 w3 ⟨rfl, hC3, hw3⟩
  try dsimp only
  refine hq_F.st (s' := (72, _, _, _)) hf14_71 rfl rfl rfl (hs_al (hg_nr (hg_nr g0 (by decide)) (by decide))) ?_
  refine hq_F.st (s' := (75, _, _, _)) hf14_72 rfl rfl rfl (hq_gf hC3 sh_7 sk_2_11 (hq_ref hC3 sh_7 (b := 8) rfl)) ?_
  refine hq_F.st (s' := (76, _, _, _)) hf14_75 rfl rfl rfl rfl ?_
  refine hq_F.st (s' := (78, _, _, _)) hf14_76 rfl rfl rfl (hs_il (hg_ne (pi_get_set _ _ _) (by decide))) ?_
  refine hq_F.st (s' := (79, _, _, _)) hf14_78 rfl rfl rfl rfl ?_
  refine hq_F.st (s' := (80, _, _, _)) hf14_79 rfl rfl rfl rfl ?_
  refine hq_F.call hf14_80 rfl rfl si_2_39 (by decide) (by decide) sz_160 (sy_argsS rfl rfl rfl (Nat.le_of_ble_eq_true rfl) (by decide) rfl (Nat.le_of_ble_eq_true rfl) (by decide)) (ca_put hC3 sh_8 (j := 5) (by omega) (by decide) (fun q hq => by cases hq; dsimp only; omega)) (fun _ _ q => by rw [q.2.1.1, hC3.1]) ?_
  rintro r80 w4 ⟨rfl, hC4, hw4⟩
  try dsimp only
  refine hq_F.st (s' := (84, _, _, _)) hf14_83 rfl rfl rfl (hs_al (hg_nr (hg_nr g0 (by decide)) (by decide))) ?_
  refine hq_F.st (s' := (87, _, _, _)) hf14_84 rfl rfl rfl (hq_gf hC4 sh_7 sk_2_11 (hq_ref hC4 sh_7 (b := 8) rfl)) ?_
  refine hq_F.st (s' := (88, _, _, _)) hf14_87 rfl rfl rfl (hs_iln (hg_ne (hg_ne g3 (by decide)) (by decide))) ?_
  refine hq_F.st (s' := (90, _, _, _)) hf14_88 rfl rfl rfl (hs_il (pi_get_set _ _ _)) ?_
  refine hq_F.st (s' := (91, _, _, _)) hf14_90 rfl rfl rfl rfl ?_
  refine hq_F.st (s' := (92, _, _, _)) hf14_91 rfl rfl rfl rfl ?_
  refine hq_F.call hf14_92 rfl rfl si_2_39 (by decide) (by decide) sz_160 (sy_argsS rfl rfl rfl (Nat.le_of_ble_eq_true rfl) (by decide) rfl (Nat.le_of_ble_eq_true rfl) (by decide)) (ca_put hC4 sh_8 (j := 2) (by omega) (by decide) (fun q hq => by cases hq; dsimp only; omega)) (fun _ _ q => by rw [q.2.1.1, hC4.1]) ?_
  rintro r92 w5 ⟨rfl, hC5, hw5⟩
  try dsimp only
  refine hq_F.st (s' := (97, _, _, _)) hf14_95 rfl rfl rfl (hs_il (pi_get_set _ _ _)) ?_
  refine hq_F.en hf14_97 rfl (pi_ri _) ?_
  refine ⟨rfl, hC5, ?_, ?_, ?_, ?_⟩
  · refine ⟨?_, by rw [List.length_append]; simp only [List.length_cons, List.length_nil]; omega, fun i e hge => ?_⟩
    · rw [wpv hw5, if_neg (by decide), wpv hw4, if_pos ⟨rfl, rfl⟩, show (Int32.ofInt 1) = Int32.ofNat 1 from rfl, hn_a, List.length_append]
      exact hn_t (by omega)
    · have hv : ∀ j, 116 ≤ j → gv w5 8 j = gv w3 8 j := fun j hj => by rw [wpv hw5, if_neg (by omega), wpv hw4, if_neg (by omega)]
      have hl : ∀ j, gl w5 9 j = gl w1 9 j := fun j => by rw [wpvl hw5, if_neg (by omega), wpvl hw4, if_neg (by omega), wpvl hw3, if_neg (by omega), wpvl hw2, if_neg (by omega)]
      rw [hl, hv _ (by omega), hv _ (by omega)]
      by_cases hi : i < NT.length
      · rw [List.getElem?_append_left hi] at hge
        have he := hN.2.2 i e hge
        rw [wpl hw1, if_neg (by omega), wpv hw3, if_neg (by omega), wpv hw2, if_neg (by omega), wplv hw1, if_neg (by omega), wpv hw3, if_neg (by omega), wpv hw2, if_neg (by omega), wplv hw1, if_neg (by omega)]
        exact he
      · rw [List.getElem?_append_right (by omega)] at hge
        have hi2 : i = NT.length := by
          have := (List.getElem?_eq_some_iff.mp hge).1
          simp only [List.length_cons, List.length_nil] at this
          omega
        subst hi2
        rw [Nat.sub_self] at hge
        have he2 : e = (2, nt_c 2 NT, u) := (Option.some.inj hge).symm
        subst he2
        refine ⟨by rw [wpl hw1, if_pos ⟨rfl, rfl⟩], ?_, ?_⟩
        · rw [wpv hw3, if_neg (by omega), wpv hw2, if_pos ⟨rfl, rfl⟩]
          show (Int32.ofInt 2).toInt = ((2 : Nat) : Int)
          decide
        · rw [wpv hw3, if_pos ⟨rfl, rfl⟩]
          exact hn_t (by omega)
  · refine ((hq_fr (wpF hw1) (fun c i hc => ?_)).tr ((hq_fr (wpF hw2) (fun c i hc => ?_)).tr ((hq_fr (wpF hw3) (fun c i hc => ?_)).tr ((hq_fr (wpF hw4) (fun c i hc => ?_)).tr (hq_fr (wpF hw5) (fun c i hc => ?_))))))
    all_goals (have hq := hq_cov1.mp hc; unfold af_cov; simp only [List.any_cons, List.any_nil, Bool.or_false, Bool.or_eq_true, Bool.and_eq_true, beq_iff_eq, Nat.ble_eq, Nat.blt_eq]; omega)
  · rw [wpv hw5, if_pos ⟨rfl, rfl⟩, show (Int32.ofInt 1) = Int32.ofNat 1 from rfl, hn_a]
    exact hn_t (by omega)
  · trivial
theorem cn_add3 {d : Nat} {w : pi_W} {NT : List nt_E} {u : List Nat} (hC : af_Conf aw_Sh w) (hN : NC w 8 9 NT) (hc : (gv w 8 3).toInt = (nt_c 3 NT : Int)) (hm : nt_c 3 NT < 6) (hl : NT.length < 27) : hq_F (d + 1) sm14 (fun r w' => r = some (.int (Int32.ofNat (nt_c 3 NT))) ∧ af_Conf aw_Sh w' ∧ NC w' 8 9 (NT ++ [(3, nt_c 3 NT, u)]) ∧ af_Fr [(8, 3, 4), (8, 5, 6), (8, 116, 170), (9, 0, 27)] w w' ∧ (gv w' 8 3).toInt = ((nt_c 3 NT + 1 : Nat) : Int) ∧ True) (0, lv_args 0 [.ref 7, .long (Int64.ofNat (tq_c32 u)), .int (Int32.ofInt 3)], [], w) := by
  have e5 : gv w 8 5 = Int32.ofNat NT.length := hn_e hN.1 (by omega)
  have es : gv w 8 3 = Int32.ofNat (nt_c 3 NT) := hn_e hc (by omega)
  have tl : (Int32.ofNat NT.length).toInt = (NT.length : Int) := hn_t (by omega)
  have tc : (Int32.ofNat (nt_c 3 NT)).toInt = (nt_c 3 NT : Int) := hn_t (by omega)
  have tl1 : (Int32.ofNat NT.length + Int32.ofInt 1).toInt = ((NT.length + 1 : Nat) : Int) := sy_inc tl (by omega)
  have tc1 : (Int32.ofNat (nt_c 3 NT) + Int32.ofInt 1).toInt = ((nt_c 3 NT + 1 : Nat) : Int) := sy_inc tc (by omega)
  have g0 : pi_get (lv_args 0 [.ref 7, .long (Int64.ofNat (tq_c32 u)), .int (Int32.ofInt 3)]) 0 = some (.ref 7) := rfl
  have g1 : pi_get (lv_args 0 [.ref 7, .long (Int64.ofNat (tq_c32 u)), .int (Int32.ofInt 3)]) 1 = some (.long (Int64.ofNat (tq_c32 u))) := rfl
  have g3 : pi_get (lv_args 0 [.ref 7, .long (Int64.ofNat (tq_c32 u)), .int (Int32.ofInt 3)]) 3 = some (.int (Int32.ofInt 3)) := rfl
  have kc0 : (((Int16.ofInt 143).toInt32)).toInt = 143 := by decide
  have kc1 : (((Int8.ofInt 116).toInt32)).toInt = 116 := by decide
  have kc2 : ((Int32.ofInt 1)).toInt = 1 := by decide
  have kc3 : ((Int32.ofInt 3)).toInt = 3 := by decide
  have kc4 : ((Int32.ofInt 5)).toInt = 5 := by decide
  have kc5 : ((Int32.ofNat 27)).toInt = 27 := by decide
  have kz := sy_z0
  refine hq_F.st (s' := (1, _, _, _)) hf14_0 rfl rfl rfl (hs_al g0) ?_
  refine hq_F.st (s' := (4, _, _, _)) hf14_1 rfl rfl rfl (hq_gf hC sh_7 sk_2_11 (hq_ref hC sh_7 (b := 8) rfl)) ?_
  refine hq_F.st (s' := (5, _, _, _)) hf14_4 rfl rfl rfl rfl ?_
  refine hq_F.call hf14_5 rfl rfl si_2_35 (by decide) (by decide) sz_159 (sy_argsS rfl rfl rfl (Nat.le_of_ble_eq_true rfl) (by decide) rfl (Nat.le_of_ble_eq_true rfl) (by decide)) (ca_at hC sh_8 (j := 5) (by omega) (by decide)) (fun _ _ q => by rw [q.1]) ?_
  rintro r5 w ⟨rfl, rfl⟩
  try dsimp only
  rw [e5]
  refine hq_F.st (s' := (10, _, _, _)) hf14_8 rfl rfl rfl (sy_is (by decide)) ?_
  refine hq_F.st (s' := (11, _, _, _)) hf14_10 rfl rfl rfl (hs_al (hg_nr g0 (by decide))) ?_
  refine hq_F.st (s' := (14, _, _, _)) hf14_11 rfl rfl rfl (hq_gf hC sh_7 sk_2_11 (hq_ref hC sh_7 (b := 8) rfl)) ?_
  refine hq_F.st (s' := (15, _, _, _)) hf14_14 rfl rfl rfl (hs_iln (hg_ne g3 (by decide))) ?_
  refine hq_F.call hf14_15 rfl rfl si_2_35 (by decide) (by decide) sz_159 (sy_argsS rfl rfl rfl (Nat.le_of_ble_eq_true rfl) (by decide) rfl (Nat.le_of_ble_eq_true rfl) (by decide)) (ca_at hC sh_8 (j := 3) (by omega) (by decide)) (fun _ _ q => by rw [q.1]) ?_
  rintro r15 w ⟨rfl, rfl⟩
  try dsimp only
  rw [es]
  refine hq_F.st (s' := (20, _, _, _)) hf14_18 rfl rfl rfl (sy_is (by decide)) ?_
  refine hq_F.st (s' := (22, _, _, _)) hf14_20 rfl rfl rfl (hs_il (hg_ne (pi_get_set _ _ _) (by decide))) ?_
  refine hq_F.st (s' := (25, _, _, _)) hf14_22 rfl rfl rfl (hs_ifn (t := 95) (ci_ltn (by omega)) rfl) ?_
  refine hq_F.st (s' := (27, _, _, _)) hf14_25 rfl rfl rfl (hs_il (hg_ne (pi_get_set _ _ _) (by decide))) ?_
  refine hq_F.st (s' := (28, _, _, _)) hf14_27 rfl rfl rfl (hs_al (hg_nr (hg_nr g0 (by decide)) (by decide))) ?_
  refine hq_F.st (s' := (31, _, _, _)) hf14_28 rfl rfl rfl (hq_gf hC sh_7 sk_2_15 (hq_ref hC sh_7 (b := 9) rfl)) ?_
  refine hq_F.st (s' := (32, _, _, _)) hf14_31 rfl rfl rfl (sy_len hC sh_9) ?_
  refine hq_F.st (s' := (35, _, _, _)) hf14_32 rfl rfl rfl (hs_icn (t := 95) (ci_gen (by omega)) rfl) ?_
  refine hq_F.st (s' := (36, _, _, _)) hf14_35 rfl rfl rfl (hs_al (hg_nr (hg_nr g0 (by decide)) (by decide))) ?_
  refine hq_F.st (s' := (39, _, _, _)) hf14_36 rfl rfl rfl (hq_gf hC sh_7 sk_2_15 (hq_ref hC sh_7 (b := 9) rfl)) ?_
  refine hq_F.st (s' := (41, _, _, _)) hf14_39 rfl rfl rfl (hs_il (hg_ne (pi_get_set _ _ _) (by decide))) ?_
  refine hq_F.st (s' := (42, _, _, _)) hf14_41 rfl rfl rfl (sy_ll (hg_nl (hg_nl g1 (by decide)) (by decide))) ?_
  refine sy_lsv hf14_42 hC sh_9 (n := NT.length) (hn_t (by omega)) (by omega) (fun w1 hC1 hw1 => ?_)
  refine hq_F.st (s' := (44, _, _, _)) hf14_43 rfl rfl rfl (hs_al (hg_nr (hg_nr g0 (by decide)) (by decide))) ?_
  refine hq_F.st (s' := (47, _, _, _)) hf14_44 rfl rfl rfl (hq_gf hC1 sh_7 sk_2_11 (hq_ref hC1 sh_7 (b := 8) rfl)) ?_
  refine hq_F.st (s' := (49, _, _, _)) hf14_47 rfl rfl rfl rfl ?_
  refine hq_F.st (s' := (51, _, _, _)) hf14_49 rfl rfl rfl (hs_il (hg_ne (pi_get_set _ _ _) (by decide))) ?_
  refine hq_F.st (s' := (52, _, _, _)) hf14_51 rfl rfl rfl rfl ?_
  refine hq_F.st (s' := (53, _, _, _)) hf14_52 rfl rfl rfl (hs_iln (hg_ne (hg_ne g3 (by decide)) (by decide))) ?_
  rw [hn_k (n := NT.length) hn_116]
  refine hq_F.call hf14_53 rfl rfl si_2_39 (by decide) (by decide) sz_160 (sy_argsS rfl rfl rfl (Nat.le_of_ble_eq_true rfl) (by decide) rfl (Nat.le_of_ble_eq_true rfl) (by decide)) (ca_put hC1 sh_8 (j := 116 + NT.length) (by omega) (by decide) (fun q hq => by rw [sg_116 _ (by omega)] at hq; cases hq; exact af_i32 _)) (fun _ _ q => by rw [q.2.1.1, hC1.1]) ?_
  rintro r53 w2 ⟨rfl, hC2, hw2⟩
  try dsimp only
  refine hq_F.st (s' := (57, _, _, _)) hf14_56 rfl rfl rfl (hs_al (hg_nr (hg_nr g0 (by decide)) (by decide))) ?_
  refine hq_F.st (s' := (60, _, _, _)) hf14_57 rfl rfl rfl (hq_gf hC2 sh_7 sk_2_11 (hq_ref hC2 sh_7 (b := 8) rfl)) ?_
  refine hq_F.st (s' := (63, _, _, _)) hf14_60 rfl rfl rfl rfl ?_
  refine hq_F.st (s' := (65, _, _, _)) hf14_63 rfl rfl rfl (hs_il (hg_ne (pi_get_set _ _ _) (by decide))) ?_
  refine hq_F.st (s' := (66, _, _, _)) hf14_65 rfl rfl rfl rfl ?_
  refine hq_F.st (s' := (68, _, _, _)) hf14_66 rfl rfl rfl (hs_il (pi_get_set _ _ _)) ?_
  rw [hn_k (n := NT.length) hn_143]
  refine hq_F.call hf14_68 rfl rfl si_2_39 (by decide) (by decide) sz_160 (sy_argsS rfl rfl rfl (Nat.le_of_ble_eq_true rfl) (by decide) rfl (Nat.le_of_ble_eq_true rfl) (by decide)) (ca_put hC2 sh_8 (j := 143 + NT.length) (by omega) (by decide) (fun q hq => by rw [sg_143 _ (by omega)] at hq; cases hq; dsimp only; omega)) (fun _ _ q => by rw [q.2.1.1, hC2.1]) ?_
  rintro r68 w3 ⟨rfl, hC3, hw3⟩
  try dsimp only
  refine hq_F.st (s' := (72, _, _, _)) hf14_71 rfl rfl rfl (hs_al (hg_nr (hg_nr g0 (by decide)) (by decide))) ?_
  refine hq_F.st (s' := (75, _, _, _)) hf14_72 rfl rfl rfl (hq_gf hC3 sh_7 sk_2_11 (hq_ref hC3 sh_7 (b := 8) rfl)) ?_
  refine hq_F.st (s' := (76, _, _, _)) hf14_75 rfl rfl rfl rfl ?_
  refine hq_F.st (s' := (78, _, _, _)) hf14_76 rfl rfl rfl (hs_il (hg_ne (pi_get_set _ _ _) (by decide))) ?_
  refine hq_F.st (s' := (79, _, _, _)) hf14_78 rfl rfl rfl rfl ?_
  refine hq_F.st (s' := (80, _, _, _)) hf14_79 rfl rfl rfl rfl ?_
  refine hq_F.call hf14_80 rfl rfl si_2_39 (by decide) (by decide) sz_160 (sy_argsS rfl rfl rfl (Nat.le_of_ble_eq_true rfl) (by decide) rfl (Nat.le_of_ble_eq_true rfl) (by decide)) (ca_put hC3 sh_8 (j := 5) (by omega) (by decide) (fun q hq => by cases hq; dsimp only; omega)) (fun _ _ q => by rw [q.2.1.1, hC3.1]) ?_
  rintro r80 w4 ⟨rfl, hC4, hw4⟩
  try dsimp only
  refine hq_F.st (s' := (84, _, _, _)) hf14_83 rfl rfl rfl (hs_al (hg_nr (hg_nr g0 (by decide)) (by decide))) ?_
  refine hq_F.st (s' := (87, _, _, _)) hf14_84 rfl rfl rfl (hq_gf hC4 sh_7 sk_2_11 (hq_ref hC4 sh_7 (b := 8) rfl)) ?_
  refine hq_F.st (s' := (88, _, _, _)) hf14_87 rfl rfl rfl (hs_iln (hg_ne (hg_ne g3 (by decide)) (by decide))) ?_
  refine hq_F.st (s' := (90, _, _, _)) hf14_88 rfl rfl rfl (hs_il (pi_get_set _ _ _)) ?_
  refine hq_F.st (s' := (91, _, _, _)) hf14_90 rfl rfl rfl rfl ?_
  refine hq_F.st (s' := (92, _, _, _)) hf14_91 rfl rfl rfl rfl ?_
  refine hq_F.call hf14_92 rfl rfl si_2_39 (by decide) (by decide) sz_160 (sy_argsS rfl rfl rfl (Nat.le_of_ble_eq_true rfl) (by decide) rfl (Nat.le_of_ble_eq_true rfl) (by decide)) (ca_put hC4 sh_8 (j := 3) (by omega) (by decide) (fun q hq => by cases hq; dsimp only; omega)) (fun _ _ q => by rw [q.2.1.1, hC4.1]) ?_
  rintro r92 w5 ⟨rfl, hC5, hw5⟩
  try dsimp only
  refine hq_F.st (s' := (97, _, _, _)) hf14_95 rfl rfl rfl (hs_il (pi_get_set _ _ _)) ?_
  refine hq_F.en hf14_97 rfl (pi_ri _) ?_
  refine ⟨rfl, hC5, ?_, ?_, ?_, ?_⟩
  · refine ⟨?_, by rw [List.length_append]; simp only [List.length_cons, List.length_nil]; omega, fun i e hge => ?_⟩
    · rw [wpv hw5, if_neg (by decide), wpv hw4, if_pos ⟨rfl, rfl⟩, show (Int32.ofInt 1) = Int32.ofNat 1 from rfl, hn_a, List.length_append]
      exact hn_t (by omega)
    · have hv : ∀ j, 116 ≤ j → gv w5 8 j = gv w3 8 j := fun j hj => by rw [wpv hw5, if_neg (by omega), wpv hw4, if_neg (by omega)]
      have hl : ∀ j, gl w5 9 j = gl w1 9 j := fun j => by rw [wpvl hw5, if_neg (by omega), wpvl hw4, if_neg (by omega), wpvl hw3, if_neg (by omega), wpvl hw2, if_neg (by omega)]
      rw [hl, hv _ (by omega), hv _ (by omega)]
      by_cases hi : i < NT.length
      · rw [List.getElem?_append_left hi] at hge
        have he := hN.2.2 i e hge
        rw [wpl hw1, if_neg (by omega), wpv hw3, if_neg (by omega), wpv hw2, if_neg (by omega), wplv hw1, if_neg (by omega), wpv hw3, if_neg (by omega), wpv hw2, if_neg (by omega), wplv hw1, if_neg (by omega)]
        exact he
      · rw [List.getElem?_append_right (by omega)] at hge
        have hi2 : i = NT.length := by
          have := (List.getElem?_eq_some_iff.mp hge).1
          simp only [List.length_cons, List.length_nil] at this
          omega
        subst hi2
        rw [Nat.sub_self] at hge
        have he2 : e = (3, nt_c 3 NT, u) := (Option.some.inj hge).symm
        subst he2
        refine ⟨by rw [wpl hw1, if_pos ⟨rfl, rfl⟩], ?_, ?_⟩
        · rw [wpv hw3, if_neg (by omega), wpv hw2, if_pos ⟨rfl, rfl⟩]
          show (Int32.ofInt 3).toInt = ((3 : Nat) : Int)
          decide
        · rw [wpv hw3, if_pos ⟨rfl, rfl⟩]
          exact hn_t (by omega)
  · refine ((hq_fr (wpF hw1) (fun c i hc => ?_)).tr ((hq_fr (wpF hw2) (fun c i hc => ?_)).tr ((hq_fr (wpF hw3) (fun c i hc => ?_)).tr ((hq_fr (wpF hw4) (fun c i hc => ?_)).tr (hq_fr (wpF hw5) (fun c i hc => ?_))))))
    all_goals (have hq := hq_cov1.mp hc; unfold af_cov; simp only [List.any_cons, List.any_nil, Bool.or_false, Bool.or_eq_true, Bool.and_eq_true, beq_iff_eq, Nat.ble_eq, Nat.blt_eq]; omega)
  · rw [wpv hw5, if_pos ⟨rfl, rfl⟩, show (Int32.ofInt 1) = Int32.ofNat 1 from rfl, hn_a]
    exact hn_t (by omega)
  · trivial
theorem cn_add4 {d : Nat} {w : pi_W} {NT : List nt_E} {u : List Nat} (hC : af_Conf aw_Sh w) (hN : NC w 8 9 NT) (hc : (gv w 8 4).toInt = (nt_c 4 NT : Int)) (hm : nt_c 4 NT < 6) (hl : NT.length < 27) : hq_F (d + 1) sm14 (fun r w' => r = some (.int (Int32.ofNat (nt_c 4 NT))) ∧ af_Conf aw_Sh w' ∧ NC w' 8 9 (NT ++ [(4, nt_c 4 NT, u)]) ∧ af_Fr [(8, 4, 5), (8, 5, 6), (8, 116, 170), (9, 0, 27)] w w' ∧ (gv w' 8 4).toInt = ((nt_c 4 NT + 1 : Nat) : Int) ∧ True) (0, lv_args 0 [.ref 7, .long (Int64.ofNat (tq_c32 u)), .int (Int32.ofInt 4)], [], w) := by
  have e5 : gv w 8 5 = Int32.ofNat NT.length := hn_e hN.1 (by omega)
  have es : gv w 8 4 = Int32.ofNat (nt_c 4 NT) := hn_e hc (by omega)
  have tl : (Int32.ofNat NT.length).toInt = (NT.length : Int) := hn_t (by omega)
  have tc : (Int32.ofNat (nt_c 4 NT)).toInt = (nt_c 4 NT : Int) := hn_t (by omega)
  have tl1 : (Int32.ofNat NT.length + Int32.ofInt 1).toInt = ((NT.length + 1 : Nat) : Int) := sy_inc tl (by omega)
  have tc1 : (Int32.ofNat (nt_c 4 NT) + Int32.ofInt 1).toInt = ((nt_c 4 NT + 1 : Nat) : Int) := sy_inc tc (by omega)
  have g0 : pi_get (lv_args 0 [.ref 7, .long (Int64.ofNat (tq_c32 u)), .int (Int32.ofInt 4)]) 0 = some (.ref 7) := rfl
  have g1 : pi_get (lv_args 0 [.ref 7, .long (Int64.ofNat (tq_c32 u)), .int (Int32.ofInt 4)]) 1 = some (.long (Int64.ofNat (tq_c32 u))) := rfl
  have g3 : pi_get (lv_args 0 [.ref 7, .long (Int64.ofNat (tq_c32 u)), .int (Int32.ofInt 4)]) 3 = some (.int (Int32.ofInt 4)) := rfl
  have kc0 : (((Int16.ofInt 143).toInt32)).toInt = 143 := by decide
  have kc1 : (((Int8.ofInt 116).toInt32)).toInt = 116 := by decide
  have kc2 : ((Int32.ofInt 1)).toInt = 1 := by decide
  have kc3 : ((Int32.ofInt 4)).toInt = 4 := by decide
  have kc4 : ((Int32.ofInt 5)).toInt = 5 := by decide
  have kc5 : ((Int32.ofNat 27)).toInt = 27 := by decide
  have kz := sy_z0
  refine hq_F.st (s' := (1, _, _, _)) hf14_0 rfl rfl rfl (hs_al g0) ?_
  refine hq_F.st (s' := (4, _, _, _)) hf14_1 rfl rfl rfl (hq_gf hC sh_7 sk_2_11 (hq_ref hC sh_7 (b := 8) rfl)) ?_
  refine hq_F.st (s' := (5, _, _, _)) hf14_4 rfl rfl rfl rfl ?_
  refine hq_F.call hf14_5 rfl rfl si_2_35 (by decide) (by decide) sz_159 (sy_argsS rfl rfl rfl (Nat.le_of_ble_eq_true rfl) (by decide) rfl (Nat.le_of_ble_eq_true rfl) (by decide)) (ca_at hC sh_8 (j := 5) (by omega) (by decide)) (fun _ _ q => by rw [q.1]) ?_
  rintro r5 w ⟨rfl, rfl⟩
  try dsimp only
  rw [e5]
  refine hq_F.st (s' := (10, _, _, _)) hf14_8 rfl rfl rfl (sy_is (by decide)) ?_
  refine hq_F.st (s' := (11, _, _, _)) hf14_10 rfl rfl rfl (hs_al (hg_nr g0 (by decide))) ?_
  refine hq_F.st (s' := (14, _, _, _)) hf14_11 rfl rfl rfl (hq_gf hC sh_7 sk_2_11 (hq_ref hC sh_7 (b := 8) rfl)) ?_
  refine hq_F.st (s' := (15, _, _, _)) hf14_14 rfl rfl rfl (hs_iln (hg_ne g3 (by decide))) ?_
  refine hq_F.call hf14_15 rfl rfl si_2_35 (by decide) (by decide) sz_159 (sy_argsS rfl rfl rfl (Nat.le_of_ble_eq_true rfl) (by decide) rfl (Nat.le_of_ble_eq_true rfl) (by decide)) (ca_at hC sh_8 (j := 4) (by omega) (by decide)) (fun _ _ q => by rw [q.1]) ?_
  rintro r15 w ⟨rfl, rfl⟩
  try dsimp only
  rw [es]
  refine hq_F.st (s' := (20, _, _, _)) hf14_18 rfl rfl rfl (sy_is (by decide)) ?_
  refine hq_F.st (s' := (22, _, _, _)) hf14_20 rfl rfl rfl (hs_il (hg_ne (pi_get_set _ _ _) (by decide))) ?_
  refine hq_F.st (s' := (25, _, _, _)) hf14_22 rfl rfl rfl (hs_ifn (t := 95) (ci_ltn (by omega)) rfl) ?_
  refine hq_F.st (s' := (27, _, _, _)) hf14_25 rfl rfl rfl (hs_il (hg_ne (pi_get_set _ _ _) (by decide))) ?_
  refine hq_F.st (s' := (28, _, _, _)) hf14_27 rfl rfl rfl (hs_al (hg_nr (hg_nr g0 (by decide)) (by decide))) ?_
  refine hq_F.st (s' := (31, _, _, _)) hf14_28 rfl rfl rfl (hq_gf hC sh_7 sk_2_15 (hq_ref hC sh_7 (b := 9) rfl)) ?_
  refine hq_F.st (s' := (32, _, _, _)) hf14_31 rfl rfl rfl (sy_len hC sh_9) ?_
  refine hq_F.st (s' := (35, _, _, _)) hf14_32 rfl rfl rfl (hs_icn (t := 95) (ci_gen (by omega)) rfl) ?_
  refine hq_F.st (s' := (36, _, _, _)) hf14_35 rfl rfl rfl (hs_al (hg_nr (hg_nr g0 (by decide)) (by decide))) ?_
  refine hq_F.st (s' := (39, _, _, _)) hf14_36 rfl rfl rfl (hq_gf hC sh_7 sk_2_15 (hq_ref hC sh_7 (b := 9) rfl)) ?_
  refine hq_F.st (s' := (41, _, _, _)) hf14_39 rfl rfl rfl (hs_il (hg_ne (pi_get_set _ _ _) (by decide))) ?_
  refine hq_F.st (s' := (42, _, _, _)) hf14_41 rfl rfl rfl (sy_ll (hg_nl (hg_nl g1 (by decide)) (by decide))) ?_
  refine sy_lsv hf14_42 hC sh_9 (n := NT.length) (hn_t (by omega)) (by omega) (fun w1 hC1 hw1 => ?_)
  refine hq_F.st (s' := (44, _, _, _)) hf14_43 rfl rfl rfl (hs_al (hg_nr (hg_nr g0 (by decide)) (by decide))) ?_
  refine hq_F.st (s' := (47, _, _, _)) hf14_44 rfl rfl rfl (hq_gf hC1 sh_7 sk_2_11 (hq_ref hC1 sh_7 (b := 8) rfl)) ?_
  refine hq_F.st (s' := (49, _, _, _)) hf14_47 rfl rfl rfl rfl ?_
  refine hq_F.st (s' := (51, _, _, _)) hf14_49 rfl rfl rfl (hs_il (hg_ne (pi_get_set _ _ _) (by decide))) ?_
  refine hq_F.st (s' := (52, _, _, _)) hf14_51 rfl rfl rfl rfl ?_
  refine hq_F.st (s' := (53, _, _, _)) hf14_52 rfl rfl rfl (hs_iln (hg_ne (hg_ne g3 (by decide)) (by decide))) ?_
  rw [hn_k (n := NT.length) hn_116]
  refine hq_F.call hf14_53 rfl rfl si_2_39 (by decide) (by decide) sz_160 (sy_argsS rfl rfl rfl (Nat.le_of_ble_eq_true rfl) (by decide) rfl (Nat.le_of_ble_eq_true rfl) (by decide)) (ca_put hC1 sh_8 (j := 116 + NT.length) (by omega) (by decide) (fun q hq => by rw [sg_116 _ (by omega)] at hq; cases hq; exact af_i32 _)) (fun _ _ q => by rw [q.2.1.1, hC1.1]) ?_
  rintro r53 w2 ⟨rfl, hC2, hw2⟩
  try dsimp only
  refine hq_F.st (s' := (57, _, _, _)) hf14_56 rfl rfl rfl (hs_al (hg_nr (hg_nr g0 (by decide)) (by decide))) ?_
  refine hq_F.st (s' := (60, _, _, _)) hf14_57 rfl rfl rfl (hq_gf hC2 sh_7 sk_2_11 (hq_ref hC2 sh_7 (b := 8) rfl)) ?_
  refine hq_F.st (s' := (63, _, _, _)) hf14_60 rfl rfl rfl rfl ?_
  refine hq_F.st (s' := (65, _, _, _)) hf14_63 rfl rfl rfl (hs_il (hg_ne (pi_get_set _ _ _) (by decide))) ?_
  refine hq_F.st (s' := (66, _, _, _)) hf14_65 rfl rfl rfl rfl ?_
  refine hq_F.st (s' := (68, _, _, _)) hf14_66 rfl rfl rfl (hs_il (pi_get_set _ _ _)) ?_
  rw [hn_k (n := NT.length) hn_143]
  refine hq_F.call hf14_68 rfl rfl si_2_39 (by decide) (by decide) sz_160 (sy_argsS rfl rfl rfl (Nat.le_of_ble_eq_true rfl) (by decide) rfl (Nat.le_of_ble_eq_true rfl) (by decide)) (ca_put hC2 sh_8 (j := 143 + NT.length) (by omega) (by decide) (fun q hq => by rw [sg_143 _ (by omega)] at hq; cases hq; dsimp only; omega)) (fun _ _ q => by rw [q.2.1.1, hC2.1]) ?_
  rintro r68 w3 ⟨rfl, hC3, hw3⟩
  try dsimp only
  refine hq_F.st (s' := (72, _, _, _)) hf14_71 rfl rfl rfl (hs_al (hg_nr (hg_nr g0 (by decide)) (by decide))) ?_
  refine hq_F.st (s' := (75, _, _, _)) hf14_72 rfl rfl rfl (hq_gf hC3 sh_7 sk_2_11 (hq_ref hC3 sh_7 (b := 8) rfl)) ?_
  refine hq_F.st (s' := (76, _, _, _)) hf14_75 rfl rfl rfl rfl ?_
  refine hq_F.st (s' := (78, _, _, _)) hf14_76 rfl rfl rfl (hs_il (hg_ne (pi_get_set _ _ _) (by decide))) ?_
  refine hq_F.st (s' := (79, _, _, _)) hf14_78 rfl rfl rfl rfl ?_
  refine hq_F.st (s' := (80, _, _, _)) hf14_79 rfl rfl rfl rfl ?_
  refine hq_F.call hf14_80 rfl rfl si_2_39 (by decide) (by decide) sz_160 (sy_argsS rfl rfl rfl (Nat.le_of_ble_eq_true rfl) (by decide) rfl (Nat.le_of_ble_eq_true rfl) (by decide)) (ca_put hC3 sh_8 (j := 5) (by omega) (by decide) (fun q hq => by cases hq; dsimp only; omega)) (fun _ _ q => by rw [q.2.1.1, hC3.1]) ?_
  rintro r80 w4 ⟨rfl, hC4, hw4⟩
  try dsimp only
  refine hq_F.st (s' := (84, _, _, _)) hf14_83 rfl rfl rfl (hs_al (hg_nr (hg_nr g0 (by decide)) (by decide))) ?_
  refine hq_F.st (s' := (87, _, _, _)) hf14_84 rfl rfl rfl (hq_gf hC4 sh_7 sk_2_11 (hq_ref hC4 sh_7 (b := 8) rfl)) ?_
  refine hq_F.st (s' := (88, _, _, _)) hf14_87 rfl rfl rfl (hs_iln (hg_ne (hg_ne g3 (by decide)) (by decide))) ?_
  refine hq_F.st (s' := (90, _, _, _)) hf14_88 rfl rfl rfl (hs_il (pi_get_set _ _ _)) ?_
  refine hq_F.st (s' := (91, _, _, _)) hf14_90 rfl rfl rfl rfl ?_
  refine hq_F.st (s' := (92, _, _, _)) hf14_91 rfl rfl rfl rfl ?_
  refine hq_F.call hf14_92 rfl rfl si_2_39 (by decide) (by decide) sz_160 (sy_argsS rfl rfl rfl (Nat.le_of_ble_eq_true rfl) (by decide) rfl (Nat.le_of_ble_eq_true rfl) (by decide)) (ca_put hC4 sh_8 (j := 4) (by omega) (by decide) (fun q hq => by cases hq; dsimp only; omega)) (fun _ _ q => by rw [q.2.1.1, hC4.1]) ?_
  rintro r92 w5 ⟨rfl, hC5, hw5⟩
  try dsimp only
  refine hq_F.st (s' := (97, _, _, _)) hf14_95 rfl rfl rfl (hs_il (pi_get_set _ _ _)) ?_
  refine hq_F.en hf14_97 rfl (pi_ri _) ?_
  refine ⟨rfl, hC5, ?_, ?_, ?_, ?_⟩
  · refine ⟨?_, by rw [List.length_append]; simp only [List.length_cons, List.length_nil]; omega, fun i e hge => ?_⟩
    · rw [wpv hw5, if_neg (by decide), wpv hw4, if_pos ⟨rfl, rfl⟩, show (Int32.ofInt 1) = Int32.ofNat 1 from rfl, hn_a, List.length_append]
      exact hn_t (by omega)
    · have hv : ∀ j, 116 ≤ j → gv w5 8 j = gv w3 8 j := fun j hj => by rw [wpv hw5, if_neg (by omega), wpv hw4, if_neg (by omega)]
      have hl : ∀ j, gl w5 9 j = gl w1 9 j := fun j => by rw [wpvl hw5, if_neg (by omega), wpvl hw4, if_neg (by omega), wpvl hw3, if_neg (by omega), wpvl hw2, if_neg (by omega)]
      rw [hl, hv _ (by omega), hv _ (by omega)]
      by_cases hi : i < NT.length
      · rw [List.getElem?_append_left hi] at hge
        have he := hN.2.2 i e hge
        rw [wpl hw1, if_neg (by omega), wpv hw3, if_neg (by omega), wpv hw2, if_neg (by omega), wplv hw1, if_neg (by omega), wpv hw3, if_neg (by omega), wpv hw2, if_neg (by omega), wplv hw1, if_neg (by omega)]
        exact he
      · rw [List.getElem?_append_right (by omega)] at hge
        have hi2 : i = NT.length := by
          have := (List.getElem?_eq_some_iff.mp hge).1
          simp only [List.length_cons, List.length_nil] at this
          omega
        subst hi2
        rw [Nat.sub_self] at hge
        have he2 : e = (4, nt_c 4 NT, u) := (Option.some.inj hge).symm
        subst he2
        refine ⟨by rw [wpl hw1, if_pos ⟨rfl, rfl⟩], ?_, ?_⟩
        · rw [wpv hw3, if_neg (by omega), wpv hw2, if_pos ⟨rfl, rfl⟩]
          show (Int32.ofInt 4).toInt = ((4 : Nat) : Int)
          decide
        · rw [wpv hw3, if_pos ⟨rfl, rfl⟩]
          exact hn_t (by omega)
  · refine ((hq_fr (wpF hw1) (fun c i hc => ?_)).tr ((hq_fr (wpF hw2) (fun c i hc => ?_)).tr ((hq_fr (wpF hw3) (fun c i hc => ?_)).tr ((hq_fr (wpF hw4) (fun c i hc => ?_)).tr (hq_fr (wpF hw5) (fun c i hc => ?_))))))
    all_goals (have hq := hq_cov1.mp hc; unfold af_cov; simp only [List.any_cons, List.any_nil, Bool.or_false, Bool.or_eq_true, Bool.and_eq_true, beq_iff_eq, Nat.ble_eq, Nat.blt_eq]; omega)
  · rw [wpv hw5, if_pos ⟨rfl, rfl⟩, show (Int32.ofInt 1) = Int32.ofNat 1 from rfl, hn_a]
    exact hn_t (by omega)
  · trivial
