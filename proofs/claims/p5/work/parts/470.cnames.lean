/-! ===== the class and NAMES; by program ===== -/
theorem sk_2_11 : pi_look pi_fT 2 11 = some (2, 0, 224) := rfl
theorem sk_2_15 : pi_look pi_fT 2 15 = some (2, 1, 228) := rfl
theorem si_2_35 : pi_look pi_iT 2 35 = some (1, 159, 2, 540) := rfl
theorem si_9_100 : pi_look pi_iT 9 100 = some (2, 107, 0, 560) := rfl
theorem si_9_104 : pi_look pi_iT 9 104 = some (2, 13, 2, 562) := rfl
def sm108 : pi_M := (9, 4, (some .int), false, mc_108)
def sm109 : pi_M := (9, 4, (some .int), false, mc_109)
def sm12 : pi_M := (2, 4, (some .boolean), false, mc_12)
def sm13 : pi_M := (2, 5, (some .int), false, mc_13)
def sm14 : pi_M := (2, 6, (some .int), false, mc_14)
def sf_4 : List (Nat ⊕ (Int × Int) ⊕ Unit) := match (aw_Sh[4]? : Option af_C) with
  | some (.inr (_, f)) => f
  | _ => []
theorem sh_4 : aw_Sh[4]? = some (.inr (2, sf_4)) := rfl
def sf_5 : List (Nat × Int × Int) := match (aw_Sh[5]? : Option af_C) with
  | some (.inl (_, _, S)) => S
  | _ => []
theorem sh_5 : aw_Sh[5]? = some (.inl (0, 170, sf_5)) := rfl
def sf_6 : List (Nat × Int × Int) := match (aw_Sh[6]? : Option af_C) with
  | some (.inl (_, _, S)) => S
  | _ => []
theorem sh_6 : aw_Sh[6]? = some (.inl (2, 27, sf_6)) := rfl
def sf_7 : List (Nat ⊕ (Int × Int) ⊕ Unit) := match (aw_Sh[7]? : Option af_C) with
  | some (.inr (_, f)) => f
  | _ => []
theorem sh_7 : aw_Sh[7]? = some (.inr (2, sf_7)) := rfl
def sf_8 : List (Nat × Int × Int) := match (aw_Sh[8]? : Option af_C) with
  | some (.inl (_, _, S)) => S
  | _ => []
theorem sh_8 : aw_Sh[8]? = some (.inl (0, 170, sf_8)) := rfl
def sf_9 : List (Nat × Int × Int) := match (aw_Sh[9]? : Option af_C) with
  | some (.inl (_, _, S)) => S
  | _ => []
theorem sh_9 : aw_Sh[9]? = some (.inl (2, 27, sf_9)) := rfl
set_option maxRecDepth 100000 in
theorem sz_108 : pi_mt[108]? = some (mn_108, prog_11_method_15_code, (9, 4, (some .int), false, mc_108)) := rfl
set_option maxRecDepth 100000 in
theorem sz_109 : pi_mt[109]? = some (mn_109, prog_11_method_16_code, (9, 4, (some .int), false, mc_109)) := rfl
set_option maxRecDepth 100000 in
theorem sz_12 : pi_mt[12]? = some (mn_12, prog_4_method_4_code, (2, 4, (some .boolean), false, mc_12)) := rfl
set_option maxRecDepth 100000 in
theorem sz_13 : pi_mt[13]? = some (mn_13, prog_4_method_5_code, (2, 5, (some .int), false, mc_13)) := rfl
set_option maxRecDepth 100000 in
theorem sz_14 : pi_mt[14]? = some (mn_14, prog_4_method_6_code, (2, 6, (some .int), false, mc_14)) := rfl
set_option maxRecDepth 100000 in
theorem sz_159 : pi_mt[159]? = some (mn_159, prog_1_method_51_code, (10, 2, (some .int), false, mc_159)) := rfl
set_option maxRecDepth 100000 in
theorem sz_160 : pi_mt[160]? = some (mn_160, prog_1_method_52_code, (10, 3, none, false, mc_160)) := rfl
theorem hf12_0 : pi_fetch mc_12 0 = some (.iconst 0, 1) := rfl
theorem hf12_1 : pi_fetch mc_12 1 = some (.istore_n 3, 1) := rfl
theorem hf12_2 : pi_fetch mc_12 2 = some (.iload_n 3, 1) := rfl
theorem hf12_3 : pi_fetch mc_12 3 = some (.aload_n 0, 1) := rfl
theorem hf12_4 : pi_fetch mc_12 4 = some (.getfield 11, 3) := rfl
theorem hf12_7 : pi_fetch mc_12 7 = some (.iconst 5, 1) := rfl
theorem hf12_8 : pi_fetch mc_12 8 = some (.invokestatic 35, 3) := rfl
theorem hf12_11 : pi_fetch mc_12 11 = some (.if_icmp .ge 31, 3) := rfl
theorem hf12_14 : pi_fetch mc_12 14 = some (.iload_n 3, 1) := rfl
theorem hf12_15 : pi_fetch mc_12 15 = some (.aload_n 0, 1) := rfl
theorem hf12_16 : pi_fetch mc_12 16 = some (.getfield 15, 3) := rfl
theorem hf12_19 : pi_fetch mc_12 19 = some (.arraylength, 1) := rfl
theorem hf12_20 : pi_fetch mc_12 20 = some (.if_icmp .ge 22, 3) := rfl
theorem hf12_23 : pi_fetch mc_12 23 = some (.aload_n 0, 1) := rfl
theorem hf12_24 : pi_fetch mc_12 24 = some (.getfield 15, 3) := rfl
theorem hf12_27 : pi_fetch mc_12 27 = some (.iload_n 3, 1) := rfl
theorem hf12_28 : pi_fetch mc_12 28 = some (.laload, 1) := rfl
theorem hf12_29 : pi_fetch mc_12 29 = some (.lload_n 1, 1) := rfl
theorem hf12_30 : pi_fetch mc_12 30 = some (.lcmp, 1) := rfl
theorem hf12_31 : pi_fetch mc_12 31 = some (.ifCond .ne 5, 3) := rfl
theorem hf12_34 : pi_fetch mc_12 34 = some (.iconst 1, 1) := rfl
theorem hf12_35 : pi_fetch mc_12 35 = some (.ireturn, 1) := rfl
theorem hf12_36 : pi_fetch mc_12 36 = some (.iinc 3 1, 3) := rfl
theorem hf12_39 : pi_fetch mc_12 39 = some (.goto (-37), 3) := rfl
theorem hf12_42 : pi_fetch mc_12 42 = some (.iconst 0, 1) := rfl
theorem hf12_43 : pi_fetch mc_12 43 = some (.ireturn, 1) := rfl
theorem hf13_0 : pi_fetch mc_13 0 = some (.iconst 0, 1) := rfl
theorem hf13_1 : pi_fetch mc_13 1 = some (.istore 4, 2) := rfl
theorem hf13_3 : pi_fetch mc_13 3 = some (.iload 4, 2) := rfl
theorem hf13_5 : pi_fetch mc_13 5 = some (.aload_n 0, 1) := rfl
theorem hf13_6 : pi_fetch mc_13 6 = some (.getfield 11, 3) := rfl
theorem hf13_9 : pi_fetch mc_13 9 = some (.iconst 5, 1) := rfl
theorem hf13_10 : pi_fetch mc_13 10 = some (.invokestatic 35, 3) := rfl
theorem hf13_13 : pi_fetch mc_13 13 = some (.if_icmp .ge 61, 3) := rfl
theorem hf13_16 : pi_fetch mc_13 16 = some (.iload 4, 2) := rfl
theorem hf13_18 : pi_fetch mc_13 18 = some (.aload_n 0, 1) := rfl
theorem hf13_19 : pi_fetch mc_13 19 = some (.getfield 15, 3) := rfl
theorem hf13_22 : pi_fetch mc_13 22 = some (.arraylength, 1) := rfl
theorem hf13_23 : pi_fetch mc_13 23 = some (.if_icmp .ge 51, 3) := rfl
theorem hf13_26 : pi_fetch mc_13 26 = some (.aload_n 0, 1) := rfl
theorem hf13_27 : pi_fetch mc_13 27 = some (.getfield 15, 3) := rfl
theorem hf13_30 : pi_fetch mc_13 30 = some (.iload 4, 2) := rfl
theorem hf13_32 : pi_fetch mc_13 32 = some (.laload, 1) := rfl
theorem hf13_33 : pi_fetch mc_13 33 = some (.lload_n 1, 1) := rfl
theorem hf13_34 : pi_fetch mc_13 34 = some (.lcmp, 1) := rfl
theorem hf13_35 : pi_fetch mc_13 35 = some (.ifCond .ne 33, 3) := rfl
theorem hf13_38 : pi_fetch mc_13 38 = some (.aload_n 0, 1) := rfl
theorem hf13_39 : pi_fetch mc_13 39 = some (.getfield 11, 3) := rfl
theorem hf13_42 : pi_fetch mc_13 42 = some (.bipush 116, 2) := rfl
theorem hf13_44 : pi_fetch mc_13 44 = some (.iload 4, 2) := rfl
theorem hf13_46 : pi_fetch mc_13 46 = some (.iadd, 1) := rfl
theorem hf13_47 : pi_fetch mc_13 47 = some (.invokestatic 35, 3) := rfl
theorem hf13_50 : pi_fetch mc_13 50 = some (.iload_n 3, 1) := rfl
theorem hf13_51 : pi_fetch mc_13 51 = some (.if_icmp .ne 17, 3) := rfl
theorem hf13_54 : pi_fetch mc_13 54 = some (.aload_n 0, 1) := rfl
theorem hf13_55 : pi_fetch mc_13 55 = some (.getfield 11, 3) := rfl
theorem hf13_58 : pi_fetch mc_13 58 = some (.sipush 143, 3) := rfl
theorem hf13_61 : pi_fetch mc_13 61 = some (.iload 4, 2) := rfl
theorem hf13_63 : pi_fetch mc_13 63 = some (.iadd, 1) := rfl
theorem hf13_64 : pi_fetch mc_13 64 = some (.invokestatic 35, 3) := rfl
theorem hf13_67 : pi_fetch mc_13 67 = some (.ireturn, 1) := rfl
theorem hf13_68 : pi_fetch mc_13 68 = some (.iinc 4 1, 3) := rfl
theorem hf13_71 : pi_fetch mc_13 71 = some (.goto (-68), 3) := rfl
theorem hf13_74 : pi_fetch mc_13 74 = some (.iconst (-1), 1) := rfl
theorem hf13_75 : pi_fetch mc_13 75 = some (.ireturn, 1) := rfl
theorem hf14_0 : pi_fetch mc_14 0 = some (.aload_n 0, 1) := rfl
theorem hf14_1 : pi_fetch mc_14 1 = some (.getfield 11, 3) := rfl
theorem hf14_4 : pi_fetch mc_14 4 = some (.iconst 5, 1) := rfl
theorem hf14_5 : pi_fetch mc_14 5 = some (.invokestatic 35, 3) := rfl
theorem hf14_8 : pi_fetch mc_14 8 = some (.istore 4, 2) := rfl
theorem hf14_10 : pi_fetch mc_14 10 = some (.aload_n 0, 1) := rfl
theorem hf14_11 : pi_fetch mc_14 11 = some (.getfield 11, 3) := rfl
theorem hf14_14 : pi_fetch mc_14 14 = some (.iload_n 3, 1) := rfl
theorem hf14_15 : pi_fetch mc_14 15 = some (.invokestatic 35, 3) := rfl
theorem hf14_18 : pi_fetch mc_14 18 = some (.istore 5, 2) := rfl
theorem hf14_20 : pi_fetch mc_14 20 = some (.iload 4, 2) := rfl
theorem hf14_22 : pi_fetch mc_14 22 = some (.ifCond .lt 73, 3) := rfl
theorem hf14_25 : pi_fetch mc_14 25 = some (.iload 4, 2) := rfl
theorem hf14_27 : pi_fetch mc_14 27 = some (.aload_n 0, 1) := rfl
theorem hf14_28 : pi_fetch mc_14 28 = some (.getfield 15, 3) := rfl
theorem hf14_31 : pi_fetch mc_14 31 = some (.arraylength, 1) := rfl
theorem hf14_32 : pi_fetch mc_14 32 = some (.if_icmp .ge 63, 3) := rfl
theorem hf14_35 : pi_fetch mc_14 35 = some (.aload_n 0, 1) := rfl
theorem hf14_36 : pi_fetch mc_14 36 = some (.getfield 15, 3) := rfl
theorem hf14_39 : pi_fetch mc_14 39 = some (.iload 4, 2) := rfl
theorem hf14_41 : pi_fetch mc_14 41 = some (.lload_n 1, 1) := rfl
theorem hf14_42 : pi_fetch mc_14 42 = some (.lastore, 1) := rfl
theorem hf14_43 : pi_fetch mc_14 43 = some (.aload_n 0, 1) := rfl
theorem hf14_44 : pi_fetch mc_14 44 = some (.getfield 11, 3) := rfl
theorem hf14_47 : pi_fetch mc_14 47 = some (.bipush 116, 2) := rfl
theorem hf14_49 : pi_fetch mc_14 49 = some (.iload 4, 2) := rfl
theorem hf14_51 : pi_fetch mc_14 51 = some (.iadd, 1) := rfl
theorem hf14_52 : pi_fetch mc_14 52 = some (.iload_n 3, 1) := rfl
theorem hf14_53 : pi_fetch mc_14 53 = some (.invokestatic 39, 3) := rfl
theorem hf14_56 : pi_fetch mc_14 56 = some (.aload_n 0, 1) := rfl
theorem hf14_57 : pi_fetch mc_14 57 = some (.getfield 11, 3) := rfl
theorem hf14_60 : pi_fetch mc_14 60 = some (.sipush 143, 3) := rfl
theorem hf14_63 : pi_fetch mc_14 63 = some (.iload 4, 2) := rfl
theorem hf14_65 : pi_fetch mc_14 65 = some (.iadd, 1) := rfl
theorem hf14_66 : pi_fetch mc_14 66 = some (.iload 5, 2) := rfl
theorem hf14_68 : pi_fetch mc_14 68 = some (.invokestatic 39, 3) := rfl
theorem hf14_71 : pi_fetch mc_14 71 = some (.aload_n 0, 1) := rfl
theorem hf14_72 : pi_fetch mc_14 72 = some (.getfield 11, 3) := rfl
theorem hf14_75 : pi_fetch mc_14 75 = some (.iconst 5, 1) := rfl
theorem hf14_76 : pi_fetch mc_14 76 = some (.iload 4, 2) := rfl
theorem hf14_78 : pi_fetch mc_14 78 = some (.iconst 1, 1) := rfl
theorem hf14_79 : pi_fetch mc_14 79 = some (.iadd, 1) := rfl
theorem hf14_80 : pi_fetch mc_14 80 = some (.invokestatic 39, 3) := rfl
theorem hf14_83 : pi_fetch mc_14 83 = some (.aload_n 0, 1) := rfl
theorem hf14_84 : pi_fetch mc_14 84 = some (.getfield 11, 3) := rfl
theorem hf14_87 : pi_fetch mc_14 87 = some (.iload_n 3, 1) := rfl
theorem hf14_88 : pi_fetch mc_14 88 = some (.iload 5, 2) := rfl
theorem hf14_90 : pi_fetch mc_14 90 = some (.iconst 1, 1) := rfl
theorem hf14_91 : pi_fetch mc_14 91 = some (.iadd, 1) := rfl
theorem hf14_92 : pi_fetch mc_14 92 = some (.invokestatic 39, 3) := rfl
theorem hf14_95 : pi_fetch mc_14 95 = some (.iload 5, 2) := rfl
theorem hf14_97 : pi_fetch mc_14 97 = some (.ireturn, 1) := rfl
theorem hf108_0 : pi_fetch mc_108 0 = some (.aload_n 0, 1) := rfl
theorem hf108_1 : pi_fetch mc_108 1 = some (.invokevirtual 100, 3) := rfl
theorem hf108_4 : pi_fetch mc_108 4 = some (.ifCond .ne 11, 3) := rfl
theorem hf108_7 : pi_fetch mc_108 7 = some (.aload_n 0, 1) := rfl
theorem hf108_8 : pi_fetch mc_108 8 = some (.iconst 1, 1) := rfl
theorem hf108_9 : pi_fetch mc_108 9 = some (.invokevirtual 97, 3) := rfl
theorem hf108_12 : pi_fetch mc_108 12 = some (.pop, 1) := rfl
theorem hf108_13 : pi_fetch mc_108 13 = some (.iconst (-1), 1) := rfl
theorem hf108_14 : pi_fetch mc_108 14 = some (.ireturn, 1) := rfl
theorem hf108_15 : pi_fetch mc_108 15 = some (.aload_n 1, 1) := rfl
theorem hf108_16 : pi_fetch mc_108 16 = some (.aload_n 0, 1) := rfl
theorem hf108_17 : pi_fetch mc_108 17 = some (.getfield 59, 3) := rfl
theorem hf108_20 : pi_fetch mc_108 20 = some (.iload_n 2, 1) := rfl
theorem hf108_21 : pi_fetch mc_108 21 = some (.invokevirtual 104, 3) := rfl
theorem hf108_24 : pi_fetch mc_108 24 = some (.istore_n 3, 1) := rfl
theorem hf108_25 : pi_fetch mc_108 25 = some (.iload_n 3, 1) := rfl
theorem hf108_26 : pi_fetch mc_108 26 = some (.iconst (-1), 1) := rfl
theorem hf108_27 : pi_fetch mc_108 27 = some (.if_icmp .ne 9, 3) := rfl
theorem hf108_30 : pi_fetch mc_108 30 = some (.aload_n 0, 1) := rfl
theorem hf108_31 : pi_fetch mc_108 31 = some (.iconst 3, 1) := rfl
theorem hf108_32 : pi_fetch mc_108 32 = some (.invokevirtual 97, 3) := rfl
theorem hf108_35 : pi_fetch mc_108 35 = some (.pop, 1) := rfl
theorem hf108_36 : pi_fetch mc_108 36 = some (.iload_n 3, 1) := rfl
theorem hf108_37 : pi_fetch mc_108 37 = some (.ireturn, 1) := rfl
theorem hf109_0 : pi_fetch mc_109 0 = some (.aload_n 0, 1) := rfl
theorem hf109_1 : pi_fetch mc_109 1 = some (.aload_n 1, 1) := rfl
theorem hf109_2 : pi_fetch mc_109 2 = some (.iload_n 2, 1) := rfl
theorem hf109_3 : pi_fetch mc_109 3 = some (.invokevirtual 110, 3) := rfl
theorem hf109_6 : pi_fetch mc_109 6 = some (.istore_n 3, 1) := rfl
theorem hf109_7 : pi_fetch mc_109 7 = some (.iload_n 3, 1) := rfl
theorem hf109_8 : pi_fetch mc_109 8 = some (.iconst (-1), 1) := rfl
theorem hf109_9 : pi_fetch mc_109 9 = some (.if_icmp .eq 7, 3) := rfl
theorem hf109_12 : pi_fetch mc_109 12 = some (.aload_n 0, 1) := rfl
theorem hf109_13 : pi_fetch mc_109 13 = some (.invokevirtual 49, 3) := rfl
theorem hf109_16 : pi_fetch mc_109 16 = some (.iload_n 3, 1) := rfl
theorem hf109_17 : pi_fetch mc_109 17 = some (.ireturn, 1) := rfl
theorem nt_f_cons {e : nt_E} {l : List nt_E} {s : Nat} {u : List Nat} : nt_f (e :: l) s u = if nt_p s u e = true then (e.2.1 : Int) else nt_f l s u := by
  unfold nt_f
  rw [List.find?_cons]
  cases nt_p s u e <;> simp
theorem nt_t_cons {e : nt_E} {l : List nt_E} {u : List Nat} : nt_t (e :: l) u = (decide (e.2.2 = u) || nt_t l u) := by
  unfold nt_t
  rw [List.any_cons]
theorem hn_k {x : Int32} {a n : Nat} (h : x = Int32.ofNat a) : x + Int32.ofNat n = Int32.ofNat (a + n) := by
  rw [h, hn_a]
theorem hn_116 : (Int8.ofInt 116).toInt32 = Int32.ofNat 116 := by decide
theorem hn_143 : (Int16.ofInt 143).toInt32 = Int32.ofNat 143 := by decide
theorem cn_nol_s {d s : Nat} {w : pi_W} {NT : List nt_E} {u : List Nat} {y : Int32} (hC : af_Conf aw_Sh w) (hN : NC w 8 9 NT) (ho : nt_ok NT) (hu : nt_w u) (hy : y.toInt = (s : Int)) : ∀ (m i : Nat) {lv : pi_L}, i + m = NT.length → pi_get lv 0 = some (.ref 7) → pi_get lv 1 = some (.long (Int64.ofNat (tq_c32 u))) → pi_get lv 3 = some (.int y) → pi_get lv 4 = some (.int (Int32.ofNat i)) → hq_F (d + 1) sm13 (fun r w' => w' = w ∧ ∃ v : Int32, r = some (.int v) ∧ v.toInt = nt_f (NT.drop i) s u) (3, lv, [], w) := by
  have hl := hN.1
  have h27 := hN.2.1
  intro m
  induction m with
  | zero =>
    intro i lv hm g0 g1 g3 g4
    have ti : (Int32.ofNat i).toInt = (i : Int) := hn_t (by omega)
    have kc0 : ((Int32.ofInt (-1))).toInt = (-1) := by decide
    have kc1 : ((Int32.ofInt 5)).toInt = 5 := by decide
    have kz := sy_z0
    refine hq_F.st (s' := (5, _, _, _)) hf13_3 rfl rfl rfl (hs_il g4) ?_
    refine hq_F.st (s' := (6, _, _, _)) hf13_5 rfl rfl rfl (hs_al g0) ?_
    refine hq_F.st (s' := (9, _, _, _)) hf13_6 rfl rfl rfl (hq_gf hC sh_7 sk_2_11 (hq_ref hC sh_7 (b := 8) rfl)) ?_
    refine hq_F.st (s' := (10, _, _, _)) hf13_9 rfl rfl rfl rfl ?_
    refine hq_F.call hf13_10 rfl rfl si_2_35 (by decide) (by decide) sz_159 (sy_argsS rfl rfl rfl (Nat.le_of_ble_eq_true rfl) (by decide) rfl (Nat.le_of_ble_eq_true rfl) (by decide)) (ca_at hC sh_8 (j := 5) (by omega) (by decide)) (fun _ _ q => by rw [q.1]) ?_
    rintro r10 w ⟨rfl, rfl⟩
    try dsimp only
    refine hq_F.st (s' := (74, _, _, _)) hf13_13 rfl rfl rfl (hs_ic (ci_ge (by omega)) rfl) ?_
    refine hq_F.st (s' := (75, _, _, _)) hf13_74 rfl rfl rfl rfl ?_
    refine hq_F.en hf13_75 rfl rfl ?_
    exact ⟨rfl, _, rfl, by rw [List.drop_eq_nil_of_le (by omega)]; show (Int32.ofInt (-1)).toInt = -1; decide⟩
  | succ m ih =>
    intro i lv hm g0 g1 g3 g4
    have ti : (Int32.ofNat i).toInt = (i : Int) := hn_t (by omega)
    have hi : i < NT.length := by omega
    obtain ⟨e, hge⟩ : ∃ e, NT[i]? = some e := ⟨_, List.getElem?_eq_getElem hi⟩
    have hd : NT.drop i = e :: NT.drop (i + 1) := by
      rw [List.drop_eq_getElem_cons hi]
      congr 1
      rw [List.getElem?_eq_getElem hi] at hge
      exact Option.some.inj hge
    have he := hN.2.2 i e hge
    have hkey := hN.key ho hu hge
    have kc0 : (((Int16.ofInt 143).toInt32)).toInt = 143 := by decide
    have kc1 : (((Int8.ofInt 116).toInt32)).toInt = 116 := by decide
    have kc2 : ((Int32.ofInt 5)).toInt = 5 := by decide
    have kc3 : ((Int32.ofNat 27)).toInt = 27 := by decide
    have kz := sy_z0
    refine hq_F.st (s' := (5, _, _, _)) hf13_3 rfl rfl rfl (hs_il g4) ?_
    refine hq_F.st (s' := (6, _, _, _)) hf13_5 rfl rfl rfl (hs_al g0) ?_
    refine hq_F.st (s' := (9, _, _, _)) hf13_6 rfl rfl rfl (hq_gf hC sh_7 sk_2_11 (hq_ref hC sh_7 (b := 8) rfl)) ?_
    refine hq_F.st (s' := (10, _, _, _)) hf13_9 rfl rfl rfl rfl ?_
    refine hq_F.call hf13_10 rfl rfl si_2_35 (by decide) (by decide) sz_159 (sy_argsS rfl rfl rfl (Nat.le_of_ble_eq_true rfl) (by decide) rfl (Nat.le_of_ble_eq_true rfl) (by decide)) (ca_at hC sh_8 (j := 5) (by omega) (by decide)) (fun _ _ q => by rw [q.1]) ?_
    rintro r10 w ⟨rfl, rfl⟩
    try dsimp only
    refine hq_F.st (s' := (16, _, _, _)) hf13_13 rfl rfl rfl (hs_icn (t := 74) (ci_gen (by omega)) rfl) ?_
    refine hq_F.st (s' := (18, _, _, _)) hf13_16 rfl rfl rfl (hs_il g4) ?_
    refine hq_F.st (s' := (19, _, _, _)) hf13_18 rfl rfl rfl (hs_al g0) ?_
    refine hq_F.st (s' := (22, _, _, _)) hf13_19 rfl rfl rfl (hq_gf hC sh_7 sk_2_15 (hq_ref hC sh_7 (b := 9) rfl)) ?_
    refine hq_F.st (s' := (23, _, _, _)) hf13_22 rfl rfl rfl (sy_len hC sh_9) ?_
    refine hq_F.st (s' := (26, _, _, _)) hf13_23 rfl rfl rfl (hs_icn (t := 74) (ci_gen (by omega)) rfl) ?_
    refine hq_F.st (s' := (27, _, _, _)) hf13_26 rfl rfl rfl (hs_al g0) ?_
    refine hq_F.st (s' := (30, _, _, _)) hf13_27 rfl rfl rfl (hq_gf hC sh_7 sk_2_15 (hq_ref hC sh_7 (b := 9) rfl)) ?_
    refine hq_F.st (s' := (32, _, _, _)) hf13_30 rfl rfl rfl (hs_il g4) ?_
    refine hq_F.st (s' := (33, _, _, _)) hf13_32 rfl rfl rfl (sy_la hC sh_9 (n := i) (hn_t (by omega)) (by omega)) ?_
    refine hq_F.st (s' := (34, _, _, _)) hf13_33 rfl rfl rfl (sy_ll g1) ?_
    refine hq_F.st (s' := (35, _, _, _)) hf13_34 rfl rfl rfl rfl ?_
    by_cases b35 : ¬ ((lg_cmp (gl w 9 i) (Int64.ofNat (tq_c32 u)))).toInt = 0
    · skip
      refine hq_F.st (s' := (68, _, _, _)) hf13_35 rfl rfl rfl (hs_if (ci_ne (by omega)) rfl) ?_
      refine hq_F.st (s' := (71, _, _, _)) hf13_68 rfl rfl rfl (hs_inc g4 (by decide)) ?_
      refine hq_F.st (s' := (3, _, _, _)) hf13_71 rfl rfl rfl rfl ?_
      have hp : nt_p s u e = false := by
        rw [lg_cmp0, hkey] at b35
        simp [nt_p, b35]
      rw [hd, nt_f_cons, if_neg (by rw [hp]; decide)]
      exact ih (i + 1) (by omega) (hg_nr g0 (by decide)) (hg_nl g1 (by decide)) (hg_ne g3 (by decide)) (by rw [← hn_s]; exact (pi_get_set _ _ _))
    · skip
      refine hq_F.st (s' := (38, _, _, _)) hf13_35 rfl rfl rfl (hs_ifn (t := 68) (ci_nen (by omega)) rfl) ?_
      refine hq_F.st (s' := (39, _, _, _)) hf13_38 rfl rfl rfl (hs_al g0) ?_
      refine hq_F.st (s' := (42, _, _, _)) hf13_39 rfl rfl rfl (hq_gf hC sh_7 sk_2_11 (hq_ref hC sh_7 (b := 8) rfl)) ?_
      refine hq_F.st (s' := (44, _, _, _)) hf13_42 rfl rfl rfl rfl ?_
      refine hq_F.st (s' := (46, _, _, _)) hf13_44 rfl rfl rfl (hs_il g4) ?_
      refine hq_F.st (s' := (47, _, _, _)) hf13_46 rfl rfl rfl rfl ?_
      rw [hn_k (n := i) hn_116]
      refine hq_F.call hf13_47 rfl rfl si_2_35 (by decide) (by decide) sz_159 (sy_argsS rfl rfl rfl (Nat.le_of_ble_eq_true rfl) (by decide) rfl (Nat.le_of_ble_eq_true rfl) (by decide)) (ca_at hC sh_8 (j := (116 + i)) (by omega) (by decide)) (fun _ _ q => by rw [q.1]) ?_
      rintro r47 w ⟨rfl, rfl⟩
      try dsimp only
      refine hq_F.st (s' := (51, _, _, _)) hf13_50 rfl rfl rfl (hs_iln g3) ?_
      by_cases b51 : ¬ ((gv w 8 (116 + i))).toInt = (y).toInt
      · skip
        refine hq_F.st (s' := (68, _, _, _)) hf13_51 rfl rfl rfl (hs_ic (ci_ne (by omega)) rfl) ?_
        refine hq_F.st (s' := (71, _, _, _)) hf13_68 rfl rfl rfl (hs_inc g4 (by decide)) ?_
        refine hq_F.st (s' := (3, _, _, _)) hf13_71 rfl rfl rfl rfl ?_
        have hp : nt_p s u e = false := by
          have h1 : ¬ e.1 = s := by omega
          simp [nt_p, h1]
        rw [hd, nt_f_cons, if_neg (by rw [hp]; decide)]
        exact ih (i + 1) (by omega) (hg_nr g0 (by decide)) (hg_nl g1 (by decide)) (hg_ne g3 (by decide)) (by rw [← hn_s]; exact (pi_get_set _ _ _))
      · skip
        refine hq_F.st (s' := (54, _, _, _)) hf13_51 rfl rfl rfl (hs_icn (t := 68) (ci_nen (by omega)) rfl) ?_
        refine hq_F.st (s' := (55, _, _, _)) hf13_54 rfl rfl rfl (hs_al g0) ?_
        refine hq_F.st (s' := (58, _, _, _)) hf13_55 rfl rfl rfl (hq_gf hC sh_7 sk_2_11 (hq_ref hC sh_7 (b := 8) rfl)) ?_
        refine hq_F.st (s' := (61, _, _, _)) hf13_58 rfl rfl rfl rfl ?_
        refine hq_F.st (s' := (63, _, _, _)) hf13_61 rfl rfl rfl (hs_il g4) ?_
        refine hq_F.st (s' := (64, _, _, _)) hf13_63 rfl rfl rfl rfl ?_
        rw [hn_k (n := i) hn_143]
        refine hq_F.call hf13_64 rfl rfl si_2_35 (by decide) (by decide) sz_159 (sy_argsS rfl rfl rfl (Nat.le_of_ble_eq_true rfl) (by decide) rfl (Nat.le_of_ble_eq_true rfl) (by decide)) (ca_at hC sh_8 (j := (143 + i)) (by omega) (by decide)) (fun _ _ q => by rw [q.1]) ?_
        rintro r64 w ⟨rfl, rfl⟩
        try dsimp only
        refine hq_F.en hf13_67 rfl (pi_ri _) ?_
        have hp : nt_p s u e = true := by
          rw [lg_cmp0, hkey] at b35
          have h1 : e.1 = s := by omega
          have h2 : e.2.2 = u := Classical.not_not.mp b35
          simp [nt_p, h1, h2]
        refine ⟨rfl, _, rfl, ?_⟩
        rw [hd, nt_f_cons, if_pos hp]
        exact he.2.2
theorem cn_no_s {d s : Nat} {w : pi_W} {NT : List nt_E} {u : List Nat} {y : Int32} (hC : af_Conf aw_Sh w) (hN : NC w 8 9 NT) (ho : nt_ok NT) (hu : nt_w u) (hy : y.toInt = (s : Int)) : hq_F (d + 1) sm13 (fun r w' => w' = w ∧ ∃ v : Int32, r = some (.int v) ∧ v.toInt = nt_f NT s u) (0, lv_args 0 [.ref 7, .long (Int64.ofNat (tq_c32 u)), .int y], [], w) := by
  have g0 : pi_get (lv_args 0 [.ref 7, .long (Int64.ofNat (tq_c32 u)), .int y]) 0 = some (.ref 7) := rfl
  have g1 : pi_get (lv_args 0 [.ref 7, .long (Int64.ofNat (tq_c32 u)), .int y]) 1 = some (.long (Int64.ofNat (tq_c32 u))) := rfl
  have g3 : pi_get (lv_args 0 [.ref 7, .long (Int64.ofNat (tq_c32 u)), .int y]) 3 = some (.int y) := rfl
  refine hq_F.st (s' := (1, _, _, _)) hf13_0 rfl rfl rfl rfl ?_
  refine hq_F.st (s' := (3, _, _, _)) hf13_1 rfl rfl rfl (sy_is (by decide)) ?_
  exact cn_nol_s hC hN ho hu hy NT.length 0 (by omega) (hg_nr g0 (by decide)) (hg_nl g1 (by decide)) (hg_ne g3 (by decide)) (pi_get_set _ _ _)
theorem cn_tdl_s {d : Nat} {w : pi_W} {NT : List nt_E} {u : List Nat} (hC : af_Conf aw_Sh w) (hN : NC w 8 9 NT) (ho : nt_ok NT) (hu : nt_w u) : ∀ (m i : Nat) {lv : pi_L}, i + m = NT.length → pi_get lv 0 = some (.ref 7) → pi_get lv 1 = some (.long (Int64.ofNat (tq_c32 u))) → pi_get lv 3 = some (.int (Int32.ofNat i)) → hq_F (d + 1) sm12 (fun r w' => w' = w ∧ r = some (.int (tq_b (nt_t (NT.drop i) u)))) (2, lv, [], w) := by
  have hl := hN.1
  have h27 := hN.2.1
  intro m
  induction m with
  | zero =>
    intro i lv hm g0 g1 g3
    have ti : (Int32.ofNat i).toInt = (i : Int) := hn_t (by omega)
    have kc0 : ((Int32.ofInt 0)).toInt = 0 := by decide
    have kc1 : ((Int32.ofInt 5)).toInt = 5 := by decide
    have kz := sy_z0
    refine hq_F.st (s' := (3, _, _, _)) hf12_2 rfl rfl rfl (hs_iln g3) ?_
    refine hq_F.st (s' := (4, _, _, _)) hf12_3 rfl rfl rfl (hs_al g0) ?_
    refine hq_F.st (s' := (7, _, _, _)) hf12_4 rfl rfl rfl (hq_gf hC sh_7 sk_2_11 (hq_ref hC sh_7 (b := 8) rfl)) ?_
    refine hq_F.st (s' := (8, _, _, _)) hf12_7 rfl rfl rfl rfl ?_
    refine hq_F.call hf12_8 rfl rfl si_2_35 (by decide) (by decide) sz_159 (sy_argsS rfl rfl rfl (Nat.le_of_ble_eq_true rfl) (by decide) rfl (Nat.le_of_ble_eq_true rfl) (by decide)) (ca_at hC sh_8 (j := 5) (by omega) (by decide)) (fun _ _ q => by rw [q.1]) ?_
    rintro r8 w ⟨rfl, rfl⟩
    try dsimp only
    refine hq_F.st (s' := (42, _, _, _)) hf12_11 rfl rfl rfl (hs_ic (ci_ge (by omega)) rfl) ?_
    refine hq_F.st (s' := (43, _, _, _)) hf12_42 rfl rfl rfl rfl ?_
    refine hq_F.en hf12_43 rfl rfl ?_
    exact ⟨rfl, by rw [List.drop_eq_nil_of_le (by omega)]; rfl⟩
  | succ m ih =>
    intro i lv hm g0 g1 g3
    have ti : (Int32.ofNat i).toInt = (i : Int) := hn_t (by omega)
    have hi : i < NT.length := by omega
    obtain ⟨e, hge⟩ : ∃ e, NT[i]? = some e := ⟨_, List.getElem?_eq_getElem hi⟩
    have hd : NT.drop i = e :: NT.drop (i + 1) := by
      rw [List.drop_eq_getElem_cons hi]
      congr 1
      rw [List.getElem?_eq_getElem hi] at hge
      exact Option.some.inj hge
    have he := hN.2.2 i e hge
    have hkey := hN.key ho hu hge
    have kc0 : ((Int32.ofInt 1)).toInt = 1 := by decide
    have kc1 : ((Int32.ofInt 5)).toInt = 5 := by decide
    have kc2 : ((Int32.ofNat 27)).toInt = 27 := by decide
    have kz := sy_z0
    refine hq_F.st (s' := (3, _, _, _)) hf12_2 rfl rfl rfl (hs_iln g3) ?_
    refine hq_F.st (s' := (4, _, _, _)) hf12_3 rfl rfl rfl (hs_al g0) ?_
    refine hq_F.st (s' := (7, _, _, _)) hf12_4 rfl rfl rfl (hq_gf hC sh_7 sk_2_11 (hq_ref hC sh_7 (b := 8) rfl)) ?_
    refine hq_F.st (s' := (8, _, _, _)) hf12_7 rfl rfl rfl rfl ?_
    refine hq_F.call hf12_8 rfl rfl si_2_35 (by decide) (by decide) sz_159 (sy_argsS rfl rfl rfl (Nat.le_of_ble_eq_true rfl) (by decide) rfl (Nat.le_of_ble_eq_true rfl) (by decide)) (ca_at hC sh_8 (j := 5) (by omega) (by decide)) (fun _ _ q => by rw [q.1]) ?_
    rintro r8 w ⟨rfl, rfl⟩
    try dsimp only
    refine hq_F.st (s' := (14, _, _, _)) hf12_11 rfl rfl rfl (hs_icn (t := 42) (ci_gen (by omega)) rfl) ?_
    refine hq_F.st (s' := (15, _, _, _)) hf12_14 rfl rfl rfl (hs_iln g3) ?_
    refine hq_F.st (s' := (16, _, _, _)) hf12_15 rfl rfl rfl (hs_al g0) ?_
    refine hq_F.st (s' := (19, _, _, _)) hf12_16 rfl rfl rfl (hq_gf hC sh_7 sk_2_15 (hq_ref hC sh_7 (b := 9) rfl)) ?_
    refine hq_F.st (s' := (20, _, _, _)) hf12_19 rfl rfl rfl (sy_len hC sh_9) ?_
    refine hq_F.st (s' := (23, _, _, _)) hf12_20 rfl rfl rfl (hs_icn (t := 42) (ci_gen (by omega)) rfl) ?_
    refine hq_F.st (s' := (24, _, _, _)) hf12_23 rfl rfl rfl (hs_al g0) ?_
    refine hq_F.st (s' := (27, _, _, _)) hf12_24 rfl rfl rfl (hq_gf hC sh_7 sk_2_15 (hq_ref hC sh_7 (b := 9) rfl)) ?_
    refine hq_F.st (s' := (28, _, _, _)) hf12_27 rfl rfl rfl (hs_iln g3) ?_
    refine hq_F.st (s' := (29, _, _, _)) hf12_28 rfl rfl rfl (sy_la hC sh_9 (n := i) (hn_t (by omega)) (by omega)) ?_
    refine hq_F.st (s' := (30, _, _, _)) hf12_29 rfl rfl rfl (sy_ll g1) ?_
    refine hq_F.st (s' := (31, _, _, _)) hf12_30 rfl rfl rfl rfl ?_
    by_cases b31 : ¬ ((lg_cmp (gl w 9 i) (Int64.ofNat (tq_c32 u)))).toInt = 0
    · skip
      refine hq_F.st (s' := (36, _, _, _)) hf12_31 rfl rfl rfl (hs_if (ci_ne (by omega)) rfl) ?_
      refine hq_F.st (s' := (39, _, _, _)) hf12_36 rfl rfl rfl (hs_inc g3 (by decide)) ?_
      refine hq_F.st (s' := (2, _, _, _)) hf12_39 rfl rfl rfl rfl ?_
      rw [lg_cmp0, hkey] at b31
      rw [hd, nt_t_cons, decide_eq_false b31, Bool.false_or]
      exact ih (i + 1) (by omega) (hg_nr g0 (by decide)) (hg_nl g1 (by decide)) (by rw [← hn_s]; exact (pi_get_set _ _ _))
    · skip
      refine hq_F.st (s' := (34, _, _, _)) hf12_31 rfl rfl rfl (hs_ifn (t := 36) (ci_nen (by omega)) rfl) ?_
      refine hq_F.st (s' := (35, _, _, _)) hf12_34 rfl rfl rfl rfl ?_
      refine hq_F.en hf12_35 rfl rfl ?_
      rw [lg_cmp0, hkey] at b31
      exact ⟨rfl, by rw [hd, nt_t_cons, decide_eq_true (Classical.not_not.mp b31), Bool.true_or]; rfl⟩
theorem cn_td_s {d : Nat} {w : pi_W} {NT : List nt_E} {u : List Nat} (hC : af_Conf aw_Sh w) (hN : NC w 8 9 NT) (ho : nt_ok NT) (hu : nt_w u) : hq_F (d + 1) sm12 (fun r w' => w' = w ∧ r = some (.int (tq_b (nt_t NT u)))) (0, lv_args 0 [.ref 7, .long (Int64.ofNat (tq_c32 u))], [], w) := by
  have g0 : pi_get (lv_args 0 [.ref 7, .long (Int64.ofNat (tq_c32 u))]) 0 = some (.ref 7) := rfl
  have g1 : pi_get (lv_args 0 [.ref 7, .long (Int64.ofNat (tq_c32 u))]) 1 = some (.long (Int64.ofNat (tq_c32 u))) := rfl
  refine hq_F.st (s' := (1, _, _, _)) hf12_0 rfl rfl rfl rfl ?_
  refine hq_F.st (s' := (2, _, _, _)) hf12_1 rfl rfl rfl rfl ?_
  exact cn_tdl_s hC hN ho hu NT.length 0 (by omega) (hg_nr g0 (by decide)) (hg_nl g1 (by decide)) (pi_get_set _ _ _)
theorem cn_nh_s {d B M s : Nat} {tp : Nat → Nat} {w : pi_W} {t : tq_T} {NT : List nt_E} {y : Int32} (h : CT tp B M w t) (hN : NC w 8 9 NT) (ho : nt_ok NT) (hy : y.toInt = (s : Int)) : hq_F (d + 2) sm108 (fun r w' => (w' = w ∧ ∃ v : Int32, r = some (.int v) ∧ (t.1 = 2 ∧ tq_kx t.2.2.2.1 = -1) ∧ v.toInt = nt_f NT s t.2.2.2.1 ∧ ¬ nt_f NT s t.2.2.2.1 = -1) ∨ (r = some (.int (-1)) ∧ CT tp B M w' t ∧ af_Fr [(1, 10, 12)] w w' ∧ ((¬ (t.1 = 2 ∧ tq_kx t.2.2.2.1 = -1) ∧ FC w' 1 t.2.1) ∨ ((t.1 = 2 ∧ tq_kx t.2.2.2.1 = -1) ∧ nt_f NT s t.2.2.2.1 = -1 ∧ FC w' 3 t.2.1)))) (0, lv_args 0 [.ref 1, .ref 7, .int y], [], w) := by
  obtain ⟨hC, hP, hM, hV, ⟨f1, f2, f3, f4, f5, f6⟩, hW1, hW2, hW3⟩ := id h
  have g0 : pi_get (lv_args 0 [.ref 1, .ref 7, .int y]) 0 = some (.ref 1) := rfl
  have g1 : pi_get (lv_args 0 [.ref 1, .ref 7, .int y]) 1 = some (.ref 7) := rfl
  have g2 : pi_get (lv_args 0 [.ref 1, .ref 7, .int y]) 2 = some (.int y) := rfl
  have kc0 : ((0 : Int32)).toInt = 0 := by decide
  have kc1 : ((1 : Int32)).toInt = 1 := by decide
  have kc2 : ((Int32.ofInt (-1))).toInt = (-1) := by decide
  have kc3 : ((Int32.ofInt 1)).toInt = 1 := by decide
  have kc4 : ((Int32.ofInt 3)).toInt = 3 := by decide
  have kz := sy_z0
  refine hq_F.st (s' := (1, _, _, _)) hf108_0 rfl rfl rfl (hs_al g0) ?_
  refine hq_F.call hf108_1 rfl rfl si_9_100 (by decide) (by decide) sz_107 (sy_argsV hC sh_1 rfl rfl rfl (Nat.le_of_ble_eq_true rfl) rfl (Nat.le_of_ble_eq_true rfl) rfl (by decide)) (ct_isN h) (fun _ _ q => by rw [q.1]) ?_
  rintro r1 w ⟨rfl, rfl⟩
  try dsimp only
  by_cases hs : t.1 = 2 ∧ tq_kx t.2.2.2.1 = -1
  · rw [decide_eq_true hs, show tq_b true = (1 : Int32) from rfl]
    refine hq_F.st (s' := (15, _, _, _)) hf108_4 rfl rfl rfl (hs_if (ci_ne (by omega)) rfl) ?_
    have h2 := hs.1
    have hu := hW3 h2
    have f4 := f4 h2
    refine hq_F.st (s' := (16, _, _, _)) hf108_15 rfl rfl rfl (sy_al g1) ?_
    refine hq_F.st (s' := (17, _, _, _)) hf108_16 rfl rfl rfl (hs_al g0) ?_
    refine hq_F.st (s' := (20, _, _, _)) hf108_17 rfl rfl rfl (hq_gf hC sh_1 sk_9_59 (sy_vl hC sh_1 rfl)) ?_
    refine hq_F.st (s' := (21, _, _, _)) hf108_20 rfl rfl rfl (hs_iln g2) ?_
    rw [f4]
    refine hq_F.call hf108_21 rfl rfl si_9_104 (by decide) (by decide) sz_13 (sy_argsV hC sh_7 rfl rfl rfl (Nat.le_of_ble_eq_true rfl) rfl (Nat.le_of_ble_eq_true rfl) rfl (by decide)) (cn_no_s hC hN ho hu hy) (fun _ _ q => by rw [q.1]) ?_
    rintro r21 w ⟨rfl, v, rfl, hv⟩
    try dsimp only
    refine hq_F.st (s' := (25, _, _, _)) hf108_24 rfl rfl rfl rfl ?_
    refine hq_F.st (s' := (26, _, _, _)) hf108_25 rfl rfl rfl (hs_iln (pi_get_set _ _ _)) ?_
    refine hq_F.st (s' := (27, _, _, _)) hf108_26 rfl rfl rfl rfl ?_
    by_cases b27 : ¬ (v).toInt = (-1)
    · skip
      refine hq_F.st (s' := (36, _, _, _)) hf108_27 rfl rfl rfl (hs_ic (ci_ne (by omega)) rfl) ?_
      refine hq_F.st (s' := (37, _, _, _)) hf108_36 rfl rfl rfl (hs_iln (pi_get_set _ _ _)) ?_
      refine hq_F.en hf108_37 rfl (pi_ri _) ?_
      exact Or.inl ⟨rfl, v, rfl, hs, hv, by omega⟩
    · skip
      refine hq_F.st (s' := (30, _, _, _)) hf108_27 rfl rfl rfl (hs_icn (t := 36) (ci_nen (by omega)) rfl) ?_
      refine hq_F.st (s' := (31, _, _, _)) hf108_30 rfl rfl rfl (hs_al (hg_nr g0 (by decide))) ?_
      refine hq_F.st (s' := (32, _, _, _)) hf108_31 rfl rfl rfl rfl ?_
      refine hq_F.call hf108_32 rfl rfl si_9_97 (by decide) (by decide) sz_103 (sy_argsV hC sh_1 rfl rfl rfl (Nat.le_of_ble_eq_true rfl) rfl (Nat.le_of_ble_eq_true rfl) rfl (by decide)) (ct_ref h ((Int32.ofInt 3))) (fun _ _ q => by rw [q.2.1.1.1, hC.1]) ?_
      rintro r32 w9 ⟨rfl, k1, k2, k3, k4⟩
      try dsimp only
      refine hq_F.st (s' := (36, _, _, _)) hf108_35 rfl rfl rfl rfl ?_
      refine hq_F.st (s' := (37, _, _, _)) hf108_36 rfl rfl rfl (hs_iln (pi_get_set _ _ _)) ?_
      refine hq_F.en hf108_37 rfl (pi_ri _) ?_
      have ev : v = -1 := Int32.toInt_inj.mp (by rw [show (-1 : Int32).toInt = -1 by decide]; omega)
      subst ev
      exact Or.inr ⟨rfl, k1, k2, Or.inr ⟨hs, by omega, by rw [k3]; decide, k4⟩⟩
  · rw [decide_eq_false hs, show tq_b false = (0 : Int32) from rfl]
    refine hq_F.st (s' := (7, _, _, _)) hf108_4 rfl rfl rfl (hs_ifn (t := 15) (ci_nen (by omega)) rfl) ?_
    refine hq_F.st (s' := (8, _, _, _)) hf108_7 rfl rfl rfl (hs_al g0) ?_
    refine hq_F.st (s' := (9, _, _, _)) hf108_8 rfl rfl rfl rfl ?_
    refine hq_F.call hf108_9 rfl rfl si_9_97 (by decide) (by decide) sz_103 (sy_argsV hC sh_1 rfl rfl rfl (Nat.le_of_ble_eq_true rfl) rfl (Nat.le_of_ble_eq_true rfl) rfl (by decide)) (ct_ref h ((Int32.ofInt 1))) (fun _ _ q => by rw [q.2.1.1.1, hC.1]) ?_
    rintro r9 w9 ⟨rfl, k1, k2, k3, k4⟩
    try dsimp only
    refine hq_F.st (s' := (13, _, _, _)) hf108_12 rfl rfl rfl rfl ?_
    refine hq_F.st (s' := (14, _, _, _)) hf108_13 rfl rfl rfl rfl ?_
    refine hq_F.en hf108_14 rfl rfl ?_
    exact Or.inr ⟨rfl, k1, k2, Or.inl ⟨hs, by rw [k3]; decide, k4⟩⟩
theorem cn_nol_l {d s : Nat} {w : pi_W} {NT : List nt_E} {u : List Nat} {y : Int32} (hC : af_Conf aw_Sh w) (hN : NC w 5 6 NT) (ho : nt_ok NT) (hu : nt_w u) (hy : y.toInt = (s : Int)) : ∀ (m i : Nat) {lv : pi_L}, i + m = NT.length → pi_get lv 0 = some (.ref 4) → pi_get lv 1 = some (.long (Int64.ofNat (tq_c32 u))) → pi_get lv 3 = some (.int y) → pi_get lv 4 = some (.int (Int32.ofNat i)) → hq_F (d + 1) sm13 (fun r w' => w' = w ∧ ∃ v : Int32, r = some (.int v) ∧ v.toInt = nt_f (NT.drop i) s u) (3, lv, [], w) := by
  have hl := hN.1
  have h27 := hN.2.1
  intro m
  induction m with
  | zero =>
    intro i lv hm g0 g1 g3 g4
    have ti : (Int32.ofNat i).toInt = (i : Int) := hn_t (by omega)
    have kc0 : ((Int32.ofInt (-1))).toInt = (-1) := by decide
    have kc1 : ((Int32.ofInt 5)).toInt = 5 := by decide
    have kz := sy_z0
    refine hq_F.st (s' := (5, _, _, _)) hf13_3 rfl rfl rfl (hs_il g4) ?_
    refine hq_F.st (s' := (6, _, _, _)) hf13_5 rfl rfl rfl (hs_al g0) ?_
    refine hq_F.st (s' := (9, _, _, _)) hf13_6 rfl rfl rfl (hq_gf hC sh_4 sk_2_11 (hq_ref hC sh_4 (b := 5) rfl)) ?_
    refine hq_F.st (s' := (10, _, _, _)) hf13_9 rfl rfl rfl rfl ?_
    refine hq_F.call hf13_10 rfl rfl si_2_35 (by decide) (by decide) sz_159 (sy_argsS rfl rfl rfl (Nat.le_of_ble_eq_true rfl) (by decide) rfl (Nat.le_of_ble_eq_true rfl) (by decide)) (ca_at hC sh_5 (j := 5) (by omega) (by decide)) (fun _ _ q => by rw [q.1]) ?_
    rintro r10 w ⟨rfl, rfl⟩
    try dsimp only
    refine hq_F.st (s' := (74, _, _, _)) hf13_13 rfl rfl rfl (hs_ic (ci_ge (by omega)) rfl) ?_
    refine hq_F.st (s' := (75, _, _, _)) hf13_74 rfl rfl rfl rfl ?_
    refine hq_F.en hf13_75 rfl rfl ?_
    exact ⟨rfl, _, rfl, by rw [List.drop_eq_nil_of_le (by omega)]; show (Int32.ofInt (-1)).toInt = -1; decide⟩
  | succ m ih =>
    intro i lv hm g0 g1 g3 g4
    have ti : (Int32.ofNat i).toInt = (i : Int) := hn_t (by omega)
    have hi : i < NT.length := by omega
    obtain ⟨e, hge⟩ : ∃ e, NT[i]? = some e := ⟨_, List.getElem?_eq_getElem hi⟩
    have hd : NT.drop i = e :: NT.drop (i + 1) := by
      rw [List.drop_eq_getElem_cons hi]
      congr 1
      rw [List.getElem?_eq_getElem hi] at hge
      exact Option.some.inj hge
    have he := hN.2.2 i e hge
    have hkey := hN.key ho hu hge
    have kc0 : (((Int16.ofInt 143).toInt32)).toInt = 143 := by decide
    have kc1 : (((Int8.ofInt 116).toInt32)).toInt = 116 := by decide
    have kc2 : ((Int32.ofInt 5)).toInt = 5 := by decide
    have kc3 : ((Int32.ofNat 27)).toInt = 27 := by decide
    have kz := sy_z0
    refine hq_F.st (s' := (5, _, _, _)) hf13_3 rfl rfl rfl (hs_il g4) ?_
    refine hq_F.st (s' := (6, _, _, _)) hf13_5 rfl rfl rfl (hs_al g0) ?_
    refine hq_F.st (s' := (9, _, _, _)) hf13_6 rfl rfl rfl (hq_gf hC sh_4 sk_2_11 (hq_ref hC sh_4 (b := 5) rfl)) ?_
    refine hq_F.st (s' := (10, _, _, _)) hf13_9 rfl rfl rfl rfl ?_
    refine hq_F.call hf13_10 rfl rfl si_2_35 (by decide) (by decide) sz_159 (sy_argsS rfl rfl rfl (Nat.le_of_ble_eq_true rfl) (by decide) rfl (Nat.le_of_ble_eq_true rfl) (by decide)) (ca_at hC sh_5 (j := 5) (by omega) (by decide)) (fun _ _ q => by rw [q.1]) ?_
    rintro r10 w ⟨rfl, rfl⟩
    try dsimp only
    refine hq_F.st (s' := (16, _, _, _)) hf13_13 rfl rfl rfl (hs_icn (t := 74) (ci_gen (by omega)) rfl) ?_
    refine hq_F.st (s' := (18, _, _, _)) hf13_16 rfl rfl rfl (hs_il g4) ?_
    refine hq_F.st (s' := (19, _, _, _)) hf13_18 rfl rfl rfl (hs_al g0) ?_
    refine hq_F.st (s' := (22, _, _, _)) hf13_19 rfl rfl rfl (hq_gf hC sh_4 sk_2_15 (hq_ref hC sh_4 (b := 6) rfl)) ?_
    refine hq_F.st (s' := (23, _, _, _)) hf13_22 rfl rfl rfl (sy_len hC sh_6) ?_
    refine hq_F.st (s' := (26, _, _, _)) hf13_23 rfl rfl rfl (hs_icn (t := 74) (ci_gen (by omega)) rfl) ?_
    refine hq_F.st (s' := (27, _, _, _)) hf13_26 rfl rfl rfl (hs_al g0) ?_
    refine hq_F.st (s' := (30, _, _, _)) hf13_27 rfl rfl rfl (hq_gf hC sh_4 sk_2_15 (hq_ref hC sh_4 (b := 6) rfl)) ?_
    refine hq_F.st (s' := (32, _, _, _)) hf13_30 rfl rfl rfl (hs_il g4) ?_
    refine hq_F.st (s' := (33, _, _, _)) hf13_32 rfl rfl rfl (sy_la hC sh_6 (n := i) (hn_t (by omega)) (by omega)) ?_
    refine hq_F.st (s' := (34, _, _, _)) hf13_33 rfl rfl rfl (sy_ll g1) ?_
    refine hq_F.st (s' := (35, _, _, _)) hf13_34 rfl rfl rfl rfl ?_
    by_cases b35 : ¬ ((lg_cmp (gl w 6 i) (Int64.ofNat (tq_c32 u)))).toInt = 0
    · skip
      refine hq_F.st (s' := (68, _, _, _)) hf13_35 rfl rfl rfl (hs_if (ci_ne (by omega)) rfl) ?_
      refine hq_F.st (s' := (71, _, _, _)) hf13_68 rfl rfl rfl (hs_inc g4 (by decide)) ?_
      refine hq_F.st (s' := (3, _, _, _)) hf13_71 rfl rfl rfl rfl ?_
      have hp : nt_p s u e = false := by
        rw [lg_cmp0, hkey] at b35
        simp [nt_p, b35]
      rw [hd, nt_f_cons, if_neg (by rw [hp]; decide)]
      exact ih (i + 1) (by omega) (hg_nr g0 (by decide)) (hg_nl g1 (by decide)) (hg_ne g3 (by decide)) (by rw [← hn_s]; exact (pi_get_set _ _ _))
    · skip
      refine hq_F.st (s' := (38, _, _, _)) hf13_35 rfl rfl rfl (hs_ifn (t := 68) (ci_nen (by omega)) rfl) ?_
      refine hq_F.st (s' := (39, _, _, _)) hf13_38 rfl rfl rfl (hs_al g0) ?_
      refine hq_F.st (s' := (42, _, _, _)) hf13_39 rfl rfl rfl (hq_gf hC sh_4 sk_2_11 (hq_ref hC sh_4 (b := 5) rfl)) ?_
      refine hq_F.st (s' := (44, _, _, _)) hf13_42 rfl rfl rfl rfl ?_
      refine hq_F.st (s' := (46, _, _, _)) hf13_44 rfl rfl rfl (hs_il g4) ?_
      refine hq_F.st (s' := (47, _, _, _)) hf13_46 rfl rfl rfl rfl ?_
      rw [hn_k (n := i) hn_116]
      refine hq_F.call hf13_47 rfl rfl si_2_35 (by decide) (by decide) sz_159 (sy_argsS rfl rfl rfl (Nat.le_of_ble_eq_true rfl) (by decide) rfl (Nat.le_of_ble_eq_true rfl) (by decide)) (ca_at hC sh_5 (j := (116 + i)) (by omega) (by decide)) (fun _ _ q => by rw [q.1]) ?_
      rintro r47 w ⟨rfl, rfl⟩
      try dsimp only
      refine hq_F.st (s' := (51, _, _, _)) hf13_50 rfl rfl rfl (hs_iln g3) ?_
      by_cases b51 : ¬ ((gv w 5 (116 + i))).toInt = (y).toInt
      · skip
        refine hq_F.st (s' := (68, _, _, _)) hf13_51 rfl rfl rfl (hs_ic (ci_ne (by omega)) rfl) ?_
        refine hq_F.st (s' := (71, _, _, _)) hf13_68 rfl rfl rfl (hs_inc g4 (by decide)) ?_
        refine hq_F.st (s' := (3, _, _, _)) hf13_71 rfl rfl rfl rfl ?_
        have hp : nt_p s u e = false := by
          have h1 : ¬ e.1 = s := by omega
          simp [nt_p, h1]
        rw [hd, nt_f_cons, if_neg (by rw [hp]; decide)]
        exact ih (i + 1) (by omega) (hg_nr g0 (by decide)) (hg_nl g1 (by decide)) (hg_ne g3 (by decide)) (by rw [← hn_s]; exact (pi_get_set _ _ _))
      · skip
        refine hq_F.st (s' := (54, _, _, _)) hf13_51 rfl rfl rfl (hs_icn (t := 68) (ci_nen (by omega)) rfl) ?_
        refine hq_F.st (s' := (55, _, _, _)) hf13_54 rfl rfl rfl (hs_al g0) ?_
        refine hq_F.st (s' := (58, _, _, _)) hf13_55 rfl rfl rfl (hq_gf hC sh_4 sk_2_11 (hq_ref hC sh_4 (b := 5) rfl)) ?_
        refine hq_F.st (s' := (61, _, _, _)) hf13_58 rfl rfl rfl rfl ?_
        refine hq_F.st (s' := (63, _, _, _)) hf13_61 rfl rfl rfl (hs_il g4) ?_
        refine hq_F.st (s' := (64, _, _, _)) hf13_63 rfl rfl rfl rfl ?_
        rw [hn_k (n := i) hn_143]
        refine hq_F.call hf13_64 rfl rfl si_2_35 (by decide) (by decide) sz_159 (sy_argsS rfl rfl rfl (Nat.le_of_ble_eq_true rfl) (by decide) rfl (Nat.le_of_ble_eq_true rfl) (by decide)) (ca_at hC sh_5 (j := (143 + i)) (by omega) (by decide)) (fun _ _ q => by rw [q.1]) ?_
        rintro r64 w ⟨rfl, rfl⟩
        try dsimp only
        refine hq_F.en hf13_67 rfl (pi_ri _) ?_
        have hp : nt_p s u e = true := by
          rw [lg_cmp0, hkey] at b35
          have h1 : e.1 = s := by omega
          have h2 : e.2.2 = u := Classical.not_not.mp b35
          simp [nt_p, h1, h2]
        refine ⟨rfl, _, rfl, ?_⟩
        rw [hd, nt_f_cons, if_pos hp]
        exact he.2.2
theorem cn_no_l {d s : Nat} {w : pi_W} {NT : List nt_E} {u : List Nat} {y : Int32} (hC : af_Conf aw_Sh w) (hN : NC w 5 6 NT) (ho : nt_ok NT) (hu : nt_w u) (hy : y.toInt = (s : Int)) : hq_F (d + 1) sm13 (fun r w' => w' = w ∧ ∃ v : Int32, r = some (.int v) ∧ v.toInt = nt_f NT s u) (0, lv_args 0 [.ref 4, .long (Int64.ofNat (tq_c32 u)), .int y], [], w) := by
  have g0 : pi_get (lv_args 0 [.ref 4, .long (Int64.ofNat (tq_c32 u)), .int y]) 0 = some (.ref 4) := rfl
  have g1 : pi_get (lv_args 0 [.ref 4, .long (Int64.ofNat (tq_c32 u)), .int y]) 1 = some (.long (Int64.ofNat (tq_c32 u))) := rfl
  have g3 : pi_get (lv_args 0 [.ref 4, .long (Int64.ofNat (tq_c32 u)), .int y]) 3 = some (.int y) := rfl
  refine hq_F.st (s' := (1, _, _, _)) hf13_0 rfl rfl rfl rfl ?_
  refine hq_F.st (s' := (3, _, _, _)) hf13_1 rfl rfl rfl (sy_is (by decide)) ?_
  exact cn_nol_l hC hN ho hu hy NT.length 0 (by omega) (hg_nr g0 (by decide)) (hg_nl g1 (by decide)) (hg_ne g3 (by decide)) (pi_get_set _ _ _)
theorem cn_tdl_l {d : Nat} {w : pi_W} {NT : List nt_E} {u : List Nat} (hC : af_Conf aw_Sh w) (hN : NC w 5 6 NT) (ho : nt_ok NT) (hu : nt_w u) : ∀ (m i : Nat) {lv : pi_L}, i + m = NT.length → pi_get lv 0 = some (.ref 4) → pi_get lv 1 = some (.long (Int64.ofNat (tq_c32 u))) → pi_get lv 3 = some (.int (Int32.ofNat i)) → hq_F (d + 1) sm12 (fun r w' => w' = w ∧ r = some (.int (tq_b (nt_t (NT.drop i) u)))) (2, lv, [], w) := by
  have hl := hN.1
  have h27 := hN.2.1
  intro m
  induction m with
  | zero =>
    intro i lv hm g0 g1 g3
    have ti : (Int32.ofNat i).toInt = (i : Int) := hn_t (by omega)
    have kc0 : ((Int32.ofInt 0)).toInt = 0 := by decide
    have kc1 : ((Int32.ofInt 5)).toInt = 5 := by decide
    have kz := sy_z0
    refine hq_F.st (s' := (3, _, _, _)) hf12_2 rfl rfl rfl (hs_iln g3) ?_
    refine hq_F.st (s' := (4, _, _, _)) hf12_3 rfl rfl rfl (hs_al g0) ?_
    refine hq_F.st (s' := (7, _, _, _)) hf12_4 rfl rfl rfl (hq_gf hC sh_4 sk_2_11 (hq_ref hC sh_4 (b := 5) rfl)) ?_
    refine hq_F.st (s' := (8, _, _, _)) hf12_7 rfl rfl rfl rfl ?_
    refine hq_F.call hf12_8 rfl rfl si_2_35 (by decide) (by decide) sz_159 (sy_argsS rfl rfl rfl (Nat.le_of_ble_eq_true rfl) (by decide) rfl (Nat.le_of_ble_eq_true rfl) (by decide)) (ca_at hC sh_5 (j := 5) (by omega) (by decide)) (fun _ _ q => by rw [q.1]) ?_
    rintro r8 w ⟨rfl, rfl⟩
    try dsimp only
    refine hq_F.st (s' := (42, _, _, _)) hf12_11 rfl rfl rfl (hs_ic (ci_ge (by omega)) rfl) ?_
    refine hq_F.st (s' := (43, _, _, _)) hf12_42 rfl rfl rfl rfl ?_
    refine hq_F.en hf12_43 rfl rfl ?_
    exact ⟨rfl, by rw [List.drop_eq_nil_of_le (by omega)]; rfl⟩
  | succ m ih =>
    intro i lv hm g0 g1 g3
    have ti : (Int32.ofNat i).toInt = (i : Int) := hn_t (by omega)
    have hi : i < NT.length := by omega
    obtain ⟨e, hge⟩ : ∃ e, NT[i]? = some e := ⟨_, List.getElem?_eq_getElem hi⟩
    have hd : NT.drop i = e :: NT.drop (i + 1) := by
      rw [List.drop_eq_getElem_cons hi]
      congr 1
      rw [List.getElem?_eq_getElem hi] at hge
      exact Option.some.inj hge
    have he := hN.2.2 i e hge
    have hkey := hN.key ho hu hge
    have kc0 : ((Int32.ofInt 1)).toInt = 1 := by decide
    have kc1 : ((Int32.ofInt 5)).toInt = 5 := by decide
    have kc2 : ((Int32.ofNat 27)).toInt = 27 := by decide
    have kz := sy_z0
    refine hq_F.st (s' := (3, _, _, _)) hf12_2 rfl rfl rfl (hs_iln g3) ?_
    refine hq_F.st (s' := (4, _, _, _)) hf12_3 rfl rfl rfl (hs_al g0) ?_
    refine hq_F.st (s' := (7, _, _, _)) hf12_4 rfl rfl rfl (hq_gf hC sh_4 sk_2_11 (hq_ref hC sh_4 (b := 5) rfl)) ?_
    refine hq_F.st (s' := (8, _, _, _)) hf12_7 rfl rfl rfl rfl ?_
    refine hq_F.call hf12_8 rfl rfl si_2_35 (by decide) (by decide) sz_159 (sy_argsS rfl rfl rfl (Nat.le_of_ble_eq_true rfl) (by decide) rfl (Nat.le_of_ble_eq_true rfl) (by decide)) (ca_at hC sh_5 (j := 5) (by omega) (by decide)) (fun _ _ q => by rw [q.1]) ?_
    rintro r8 w ⟨rfl, rfl⟩
    try dsimp only
    refine hq_F.st (s' := (14, _, _, _)) hf12_11 rfl rfl rfl (hs_icn (t := 42) (ci_gen (by omega)) rfl) ?_
    refine hq_F.st (s' := (15, _, _, _)) hf12_14 rfl rfl rfl (hs_iln g3) ?_
    refine hq_F.st (s' := (16, _, _, _)) hf12_15 rfl rfl rfl (hs_al g0) ?_
    refine hq_F.st (s' := (19, _, _, _)) hf12_16 rfl rfl rfl (hq_gf hC sh_4 sk_2_15 (hq_ref hC sh_4 (b := 6) rfl)) ?_
    refine hq_F.st (s' := (20, _, _, _)) hf12_19 rfl rfl rfl (sy_len hC sh_6) ?_
    refine hq_F.st (s' := (23, _, _, _)) hf12_20 rfl rfl rfl (hs_icn (t := 42) (ci_gen (by omega)) rfl) ?_
    refine hq_F.st (s' := (24, _, _, _)) hf12_23 rfl rfl rfl (hs_al g0) ?_
    refine hq_F.st (s' := (27, _, _, _)) hf12_24 rfl rfl rfl (hq_gf hC sh_4 sk_2_15 (hq_ref hC sh_4 (b := 6) rfl)) ?_
    refine hq_F.st (s' := (28, _, _, _)) hf12_27 rfl rfl rfl (hs_iln g3) ?_
    refine hq_F.st (s' := (29, _, _, _)) hf12_28 rfl rfl rfl (sy_la hC sh_6 (n := i) (hn_t (by omega)) (by omega)) ?_
    refine hq_F.st (s' := (30, _, _, _)) hf12_29 rfl rfl rfl (sy_ll g1) ?_
    refine hq_F.st (s' := (31, _, _, _)) hf12_30 rfl rfl rfl rfl ?_
    by_cases b31 : ¬ ((lg_cmp (gl w 6 i) (Int64.ofNat (tq_c32 u)))).toInt = 0
    · skip
      refine hq_F.st (s' := (36, _, _, _)) hf12_31 rfl rfl rfl (hs_if (ci_ne (by omega)) rfl) ?_
      refine hq_F.st (s' := (39, _, _, _)) hf12_36 rfl rfl rfl (hs_inc g3 (by decide)) ?_
      refine hq_F.st (s' := (2, _, _, _)) hf12_39 rfl rfl rfl rfl ?_
      rw [lg_cmp0, hkey] at b31
      rw [hd, nt_t_cons, decide_eq_false b31, Bool.false_or]
      exact ih (i + 1) (by omega) (hg_nr g0 (by decide)) (hg_nl g1 (by decide)) (by rw [← hn_s]; exact (pi_get_set _ _ _))
    · skip
      refine hq_F.st (s' := (34, _, _, _)) hf12_31 rfl rfl rfl (hs_ifn (t := 36) (ci_nen (by omega)) rfl) ?_
      refine hq_F.st (s' := (35, _, _, _)) hf12_34 rfl rfl rfl rfl ?_
      refine hq_F.en hf12_35 rfl rfl ?_
      rw [lg_cmp0, hkey] at b31
      exact ⟨rfl, by rw [hd, nt_t_cons, decide_eq_true (Classical.not_not.mp b31), Bool.true_or]; rfl⟩
theorem cn_td_l {d : Nat} {w : pi_W} {NT : List nt_E} {u : List Nat} (hC : af_Conf aw_Sh w) (hN : NC w 5 6 NT) (ho : nt_ok NT) (hu : nt_w u) : hq_F (d + 1) sm12 (fun r w' => w' = w ∧ r = some (.int (tq_b (nt_t NT u)))) (0, lv_args 0 [.ref 4, .long (Int64.ofNat (tq_c32 u))], [], w) := by
  have g0 : pi_get (lv_args 0 [.ref 4, .long (Int64.ofNat (tq_c32 u))]) 0 = some (.ref 4) := rfl
  have g1 : pi_get (lv_args 0 [.ref 4, .long (Int64.ofNat (tq_c32 u))]) 1 = some (.long (Int64.ofNat (tq_c32 u))) := rfl
  refine hq_F.st (s' := (1, _, _, _)) hf12_0 rfl rfl rfl rfl ?_
  refine hq_F.st (s' := (2, _, _, _)) hf12_1 rfl rfl rfl rfl ?_
  exact cn_tdl_l hC hN ho hu NT.length 0 (by omega) (hg_nr g0 (by decide)) (hg_nl g1 (by decide)) (pi_get_set _ _ _)
theorem cn_nh_l {d B M s : Nat} {tp : Nat → Nat} {w : pi_W} {t : tq_T} {NT : List nt_E} {y : Int32} (h : CT tp B M w t) (hN : NC w 5 6 NT) (ho : nt_ok NT) (hy : y.toInt = (s : Int)) : hq_F (d + 2) sm108 (fun r w' => (w' = w ∧ ∃ v : Int32, r = some (.int v) ∧ (t.1 = 2 ∧ tq_kx t.2.2.2.1 = -1) ∧ v.toInt = nt_f NT s t.2.2.2.1 ∧ ¬ nt_f NT s t.2.2.2.1 = -1) ∨ (r = some (.int (-1)) ∧ CT tp B M w' t ∧ af_Fr [(1, 10, 12)] w w' ∧ ((¬ (t.1 = 2 ∧ tq_kx t.2.2.2.1 = -1) ∧ FC w' 1 t.2.1) ∨ ((t.1 = 2 ∧ tq_kx t.2.2.2.1 = -1) ∧ nt_f NT s t.2.2.2.1 = -1 ∧ FC w' 3 t.2.1)))) (0, lv_args 0 [.ref 1, .ref 4, .int y], [], w) := by
  obtain ⟨hC, hP, hM, hV, ⟨f1, f2, f3, f4, f5, f6⟩, hW1, hW2, hW3⟩ := id h
  have g0 : pi_get (lv_args 0 [.ref 1, .ref 4, .int y]) 0 = some (.ref 1) := rfl
  have g1 : pi_get (lv_args 0 [.ref 1, .ref 4, .int y]) 1 = some (.ref 4) := rfl
  have g2 : pi_get (lv_args 0 [.ref 1, .ref 4, .int y]) 2 = some (.int y) := rfl
  have kc0 : ((0 : Int32)).toInt = 0 := by decide
  have kc1 : ((1 : Int32)).toInt = 1 := by decide
  have kc2 : ((Int32.ofInt (-1))).toInt = (-1) := by decide
  have kc3 : ((Int32.ofInt 1)).toInt = 1 := by decide
  have kc4 : ((Int32.ofInt 3)).toInt = 3 := by decide
  have kz := sy_z0
  refine hq_F.st (s' := (1, _, _, _)) hf108_0 rfl rfl rfl (hs_al g0) ?_
  refine hq_F.call hf108_1 rfl rfl si_9_100 (by decide) (by decide) sz_107 (sy_argsV hC sh_1 rfl rfl rfl (Nat.le_of_ble_eq_true rfl) rfl (Nat.le_of_ble_eq_true rfl) rfl (by decide)) (ct_isN h) (fun _ _ q => by rw [q.1]) ?_
  rintro r1 w ⟨rfl, rfl⟩
  try dsimp only
  by_cases hs : t.1 = 2 ∧ tq_kx t.2.2.2.1 = -1
  · rw [decide_eq_true hs, show tq_b true = (1 : Int32) from rfl]
    refine hq_F.st (s' := (15, _, _, _)) hf108_4 rfl rfl rfl (hs_if (ci_ne (by omega)) rfl) ?_
    have h2 := hs.1
    have hu := hW3 h2
    have f4 := f4 h2
    refine hq_F.st (s' := (16, _, _, _)) hf108_15 rfl rfl rfl (sy_al g1) ?_
    refine hq_F.st (s' := (17, _, _, _)) hf108_16 rfl rfl rfl (hs_al g0) ?_
    refine hq_F.st (s' := (20, _, _, _)) hf108_17 rfl rfl rfl (hq_gf hC sh_1 sk_9_59 (sy_vl hC sh_1 rfl)) ?_
    refine hq_F.st (s' := (21, _, _, _)) hf108_20 rfl rfl rfl (hs_iln g2) ?_
    rw [f4]
    refine hq_F.call hf108_21 rfl rfl si_9_104 (by decide) (by decide) sz_13 (sy_argsV hC sh_4 rfl rfl rfl (Nat.le_of_ble_eq_true rfl) rfl (Nat.le_of_ble_eq_true rfl) rfl (by decide)) (cn_no_l hC hN ho hu hy) (fun _ _ q => by rw [q.1]) ?_
    rintro r21 w ⟨rfl, v, rfl, hv⟩
    try dsimp only
    refine hq_F.st (s' := (25, _, _, _)) hf108_24 rfl rfl rfl rfl ?_
    refine hq_F.st (s' := (26, _, _, _)) hf108_25 rfl rfl rfl (hs_iln (pi_get_set _ _ _)) ?_
    refine hq_F.st (s' := (27, _, _, _)) hf108_26 rfl rfl rfl rfl ?_
    by_cases b27 : ¬ (v).toInt = (-1)
    · skip
      refine hq_F.st (s' := (36, _, _, _)) hf108_27 rfl rfl rfl (hs_ic (ci_ne (by omega)) rfl) ?_
      refine hq_F.st (s' := (37, _, _, _)) hf108_36 rfl rfl rfl (hs_iln (pi_get_set _ _ _)) ?_
      refine hq_F.en hf108_37 rfl (pi_ri _) ?_
      exact Or.inl ⟨rfl, v, rfl, hs, hv, by omega⟩
    · skip
      refine hq_F.st (s' := (30, _, _, _)) hf108_27 rfl rfl rfl (hs_icn (t := 36) (ci_nen (by omega)) rfl) ?_
      refine hq_F.st (s' := (31, _, _, _)) hf108_30 rfl rfl rfl (hs_al (hg_nr g0 (by decide))) ?_
      refine hq_F.st (s' := (32, _, _, _)) hf108_31 rfl rfl rfl rfl ?_
      refine hq_F.call hf108_32 rfl rfl si_9_97 (by decide) (by decide) sz_103 (sy_argsV hC sh_1 rfl rfl rfl (Nat.le_of_ble_eq_true rfl) rfl (Nat.le_of_ble_eq_true rfl) rfl (by decide)) (ct_ref h ((Int32.ofInt 3))) (fun _ _ q => by rw [q.2.1.1.1, hC.1]) ?_
      rintro r32 w9 ⟨rfl, k1, k2, k3, k4⟩
      try dsimp only
      refine hq_F.st (s' := (36, _, _, _)) hf108_35 rfl rfl rfl rfl ?_
      refine hq_F.st (s' := (37, _, _, _)) hf108_36 rfl rfl rfl (hs_iln (pi_get_set _ _ _)) ?_
      refine hq_F.en hf108_37 rfl (pi_ri _) ?_
      have ev : v = -1 := Int32.toInt_inj.mp (by rw [show (-1 : Int32).toInt = -1 by decide]; omega)
      subst ev
      exact Or.inr ⟨rfl, k1, k2, Or.inr ⟨hs, by omega, by rw [k3]; decide, k4⟩⟩
  · rw [decide_eq_false hs, show tq_b false = (0 : Int32) from rfl]
    refine hq_F.st (s' := (7, _, _, _)) hf108_4 rfl rfl rfl (hs_ifn (t := 15) (ci_nen (by omega)) rfl) ?_
    refine hq_F.st (s' := (8, _, _, _)) hf108_7 rfl rfl rfl (hs_al g0) ?_
    refine hq_F.st (s' := (9, _, _, _)) hf108_8 rfl rfl rfl rfl ?_
    refine hq_F.call hf108_9 rfl rfl si_9_97 (by decide) (by decide) sz_103 (sy_argsV hC sh_1 rfl rfl rfl (Nat.le_of_ble_eq_true rfl) rfl (Nat.le_of_ble_eq_true rfl) rfl (by decide)) (ct_ref h ((Int32.ofInt 1))) (fun _ _ q => by rw [q.2.1.1.1, hC.1]) ?_
    rintro r9 w9 ⟨rfl, k1, k2, k3, k4⟩
    try dsimp only
    refine hq_F.st (s' := (13, _, _, _)) hf108_12 rfl rfl rfl rfl ?_
    refine hq_F.st (s' := (14, _, _, _)) hf108_13 rfl rfl rfl rfl ?_
    refine hq_F.en hf108_14 rfl rfl ?_
    exact Or.inr ⟨rfl, k1, k2, Or.inl ⟨hs, by rw [k3]; decide, k4⟩⟩
