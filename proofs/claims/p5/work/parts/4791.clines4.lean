/-! ===== readRepealed in the class; by program ===== -/
def sm29 : pi_M := (3, 3, (some .boolean), false, mc_29)
def sm32 : pi_M := (3, 4, (some .boolean), false, mc_32)
set_option maxRecDepth 100000 in
theorem sz_29 : pi_mt[29]? = some (mn_29, prog_5_method_10_code, (3, 3, (some .boolean), false, mc_29)) := rfl
set_option maxRecDepth 100000 in
theorem sz_32 : pi_mt[32]? = some (mn_32, prog_5_method_13_code, (3, 4, (some .boolean), false, mc_32)) := rfl
theorem hf29_0 : pi_fetch mc_29 0 = some (.aload_n 0, 1) := rfl
theorem hf29_1 : pi_fetch mc_29 1 = some (.getfield 15, 3) := rfl
theorem hf29_4 : pi_fetch mc_29 4 = some (.getfield 84, 3) := rfl
theorem hf29_7 : pi_fetch mc_29 7 = some (.iconst 3, 1) := rfl
theorem hf29_8 : pi_fetch mc_29 8 = some (.invokestatic 88, 3) := rfl
theorem hf29_11 : pi_fetch mc_29 11 = some (.iconst 1, 1) := rfl
theorem hf29_12 : pi_fetch mc_29 12 = some (.isub, 1) := rfl
theorem hf29_13 : pi_fetch mc_29 13 = some (.istore_n 1, 1) := rfl
theorem hf29_14 : pi_fetch mc_29 14 = some (.aload_n 0, 1) := rfl
theorem hf29_15 : pi_fetch mc_29 15 = some (.getfield 9, 3) := rfl
theorem hf29_18 : pi_fetch mc_29 18 = some (.aload_n 0, 1) := rfl
theorem hf29_19 : pi_fetch mc_29 19 = some (.getfield 15, 3) := rfl
theorem hf29_22 : pi_fetch mc_29 22 = some (.iconst 3, 1) := rfl
theorem hf29_23 : pi_fetch mc_29 23 = some (.invokevirtual 111, 3) := rfl
theorem hf29_26 : pi_fetch mc_29 26 = some (.istore_n 2, 1) := rfl
theorem hf29_27 : pi_fetch mc_29 27 = some (.iload_n 2, 1) := rfl
theorem hf29_28 : pi_fetch mc_29 28 = some (.iconst (-1), 1) := rfl
theorem hf29_29 : pi_fetch mc_29 29 = some (.if_icmp .ne 5, 3) := rfl
theorem hf29_32 : pi_fetch mc_29 32 = some (.iconst 0, 1) := rfl
theorem hf29_33 : pi_fetch mc_29 33 = some (.ireturn, 1) := rfl
theorem hf29_34 : pi_fetch mc_29 34 = some (.iload_n 2, 1) := rfl
theorem hf29_35 : pi_fetch mc_29 35 = some (.iload_n 1, 1) := rfl
theorem hf29_36 : pi_fetch mc_29 36 = some (.if_icmp .eq 21, 3) := rfl
theorem hf29_39 : pi_fetch mc_29 39 = some (.aload_n 0, 1) := rfl
theorem hf29_40 : pi_fetch mc_29 40 = some (.getfield 15, 3) := rfl
theorem hf29_43 : pi_fetch mc_29 43 = some (.getfield 84, 3) := rfl
theorem hf29_46 : pi_fetch mc_29 46 = some (.bipush 38, 2) := rfl
theorem hf29_48 : pi_fetch mc_29 48 = some (.iload_n 2, 1) := rfl
theorem hf29_49 : pi_fetch mc_29 49 = some (.iadd, 1) := rfl
theorem hf29_50 : pi_fetch mc_29 50 = some (.invokestatic 88, 3) := rfl
theorem hf29_53 : pi_fetch mc_29 53 = some (.iconst (-1), 1) := rfl
theorem hf29_54 : pi_fetch mc_29 54 = some (.if_icmp .eq 12, 3) := rfl
theorem hf29_57 : pi_fetch mc_29 57 = some (.aload_n 0, 1) := rfl
theorem hf29_58 : pi_fetch mc_29 58 = some (.getfield 9, 3) := rfl
theorem hf29_61 : pi_fetch mc_29 61 = some (.iconst 3, 1) := rfl
theorem hf29_62 : pi_fetch mc_29 62 = some (.invokevirtual 80, 3) := rfl
theorem hf29_65 : pi_fetch mc_29 65 = some (.ireturn, 1) := rfl
theorem hf29_66 : pi_fetch mc_29 66 = some (.aload_n 0, 1) := rfl
theorem hf29_67 : pi_fetch mc_29 67 = some (.getfield 15, 3) := rfl
theorem hf29_70 : pi_fetch mc_29 70 = some (.getfield 84, 3) := rfl
theorem hf29_73 : pi_fetch mc_29 73 = some (.bipush 38, 2) := rfl
theorem hf29_75 : pi_fetch mc_29 75 = some (.iload_n 1, 1) := rfl
theorem hf29_76 : pi_fetch mc_29 76 = some (.iadd, 1) := rfl
theorem hf29_77 : pi_fetch mc_29 77 = some (.iload_n 2, 1) := rfl
theorem hf29_78 : pi_fetch mc_29 78 = some (.invokestatic 121, 3) := rfl
theorem hf29_81 : pi_fetch mc_29 81 = some (.aload_n 0, 1) := rfl
theorem hf29_82 : pi_fetch mc_29 82 = some (.getfield 9, 3) := rfl
theorem hf29_85 : pi_fetch mc_29 85 = some (.invokevirtual 68, 3) := rfl
theorem hf29_88 : pi_fetch mc_29 88 = some (.iconst 1, 1) := rfl
theorem hf29_89 : pi_fetch mc_29 89 = some (.ireturn, 1) := rfl
theorem hf32_0 : pi_fetch mc_32 0 = some (.aload_n 0, 1) := rfl
theorem hf32_1 : pi_fetch mc_32 1 = some (.getfield 9, 3) := rfl
theorem hf32_4 : pi_fetch mc_32 4 = some (.aload_n 0, 1) := rfl
theorem hf32_5 : pi_fetch mc_32 5 = some (.getfield 15, 3) := rfl
theorem hf32_8 : pi_fetch mc_32 8 = some (.iconst 0, 1) := rfl
theorem hf32_9 : pi_fetch mc_32 9 = some (.invokevirtual 111, 3) := rfl
theorem hf32_12 : pi_fetch mc_32 12 = some (.istore_n 2, 1) := rfl
theorem hf32_13 : pi_fetch mc_32 13 = some (.iload_n 2, 1) := rfl
theorem hf32_14 : pi_fetch mc_32 14 = some (.iconst (-1), 1) := rfl
theorem hf32_15 : pi_fetch mc_32 15 = some (.if_icmp .ne 5, 3) := rfl
theorem hf32_18 : pi_fetch mc_32 18 = some (.iconst 0, 1) := rfl
theorem hf32_19 : pi_fetch mc_32 19 = some (.ireturn, 1) := rfl
theorem hf32_20 : pi_fetch mc_32 20 = some (.aload_n 0, 1) := rfl
theorem hf32_21 : pi_fetch mc_32 21 = some (.getfield 15, 3) := rfl
theorem hf32_24 : pi_fetch mc_32 24 = some (.getfield 84, 3) := rfl
theorem hf32_27 : pi_fetch mc_32 27 = some (.bipush 62, 2) := rfl
theorem hf32_29 : pi_fetch mc_32 29 = some (.iload_n 1, 1) := rfl
theorem hf32_30 : pi_fetch mc_32 30 = some (.iadd, 1) := rfl
theorem hf32_31 : pi_fetch mc_32 31 = some (.invokestatic 88, 3) := rfl
theorem hf32_34 : pi_fetch mc_32 34 = some (.istore_n 3, 1) := rfl
theorem hf32_35 : pi_fetch mc_32 35 = some (.iload_n 3, 1) := rfl
theorem hf32_36 : pi_fetch mc_32 36 = some (.bipush 8, 2) := rfl
theorem hf32_38 : pi_fetch mc_32 38 = some (.if_icmp .lt 12, 3) := rfl
theorem hf32_41 : pi_fetch mc_32 41 = some (.aload_n 0, 1) := rfl
theorem hf32_42 : pi_fetch mc_32 42 = some (.getfield 9, 3) := rfl
theorem hf32_45 : pi_fetch mc_32 45 = some (.iconst 4, 1) := rfl
theorem hf32_46 : pi_fetch mc_32 46 = some (.invokevirtual 80, 3) := rfl
theorem hf32_49 : pi_fetch mc_32 49 = some (.ireturn, 1) := rfl
theorem hf32_50 : pi_fetch mc_32 50 = some (.aload_n 0, 1) := rfl
theorem hf32_51 : pi_fetch mc_32 51 = some (.getfield 15, 3) := rfl
theorem hf32_54 : pi_fetch mc_32 54 = some (.getfield 84, 3) := rfl
theorem hf32_57 : pi_fetch mc_32 57 = some (.bipush 68, 2) := rfl
theorem hf32_59 : pi_fetch mc_32 59 = some (.iload_n 1, 1) := rfl
theorem hf32_60 : pi_fetch mc_32 60 = some (.bipush 8, 2) := rfl
theorem hf32_62 : pi_fetch mc_32 62 = some (.imul, 1) := rfl
theorem hf32_63 : pi_fetch mc_32 63 = some (.iadd, 1) := rfl
theorem hf32_64 : pi_fetch mc_32 64 = some (.iload_n 3, 1) := rfl
theorem hf32_65 : pi_fetch mc_32 65 = some (.iadd, 1) := rfl
theorem hf32_66 : pi_fetch mc_32 66 = some (.iload_n 2, 1) := rfl
theorem hf32_67 : pi_fetch mc_32 67 = some (.invokestatic 121, 3) := rfl
theorem hf32_70 : pi_fetch mc_32 70 = some (.aload_n 0, 1) := rfl
theorem hf32_71 : pi_fetch mc_32 71 = some (.getfield 15, 3) := rfl
theorem hf32_74 : pi_fetch mc_32 74 = some (.getfield 84, 3) := rfl
theorem hf32_77 : pi_fetch mc_32 77 = some (.bipush 62, 2) := rfl
theorem hf32_79 : pi_fetch mc_32 79 = some (.iload_n 1, 1) := rfl
theorem hf32_80 : pi_fetch mc_32 80 = some (.iadd, 1) := rfl
theorem hf32_81 : pi_fetch mc_32 81 = some (.iload_n 3, 1) := rfl
theorem hf32_82 : pi_fetch mc_32 82 = some (.iconst 1, 1) := rfl
theorem hf32_83 : pi_fetch mc_32 83 = some (.iadd, 1) := rfl
theorem hf32_84 : pi_fetch mc_32 84 = some (.invokestatic 121, 3) := rfl
theorem hf32_87 : pi_fetch mc_32 87 = some (.aload_n 0, 1) := rfl
theorem hf32_88 : pi_fetch mc_32 88 = some (.getfield 9, 3) := rfl
theorem hf32_91 : pi_fetch mc_32 91 = some (.invokevirtual 68, 3) := rfl
theorem hf32_94 : pi_fetch mc_32 94 = some (.iconst 1, 1) := rfl
theorem hf32_95 : pi_fetch mc_32 95 = some (.ireturn, 1) := rfl
theorem hn_p {l : Nat} : Int32.ofNat (l + 1) - Int32.ofInt 1 = Int32.ofNat l := by
  rw [← hn_s]
  exact Int32.add_sub_cancel _ _
theorem cl_rep {d B M l : Nat} {tp : Nat → Nat} {w : pi_W} {σ : ls_S} (hO : CO tp B M w σ) (ho : nt_ok σ.2.2.2) (m3 : nt_c 3 σ.2.2.2 ≤ 6) (hl : nt_c 3 σ.2.2.2 = l + 1) : hq_F (d + 3) sm29 (cl_P tp B M (ls_rep tp B M l σ) w) (0, lv_args 0 [.ref 10], [], w) := by
  obtain ⟨t, A, nr, NT⟩ := σ
  obtain ⟨h, hL⟩ := hO
  dsimp only at *
  have tl : (Int32.ofNat l).toInt = (l : Int) := hn_t (by omega)
  have g0 : pi_get (lv_args 0 [.ref 10]) 0 = some (.ref 10) := rfl
  have kc0 : (((Int8.ofInt 38).toInt32)).toInt = 38 := by decide
  have kc1 : ((-1 : Int32)).toInt = (-1) := by decide
  have kc2 : ((0 : Int32)).toInt = 0 := by decide
  have kc3 : ((1 : Int32)).toInt = 1 := by decide
  have kc4 : ((Int32.ofInt (-1))).toInt = (-1) := by decide
  have kc5 : ((Int32.ofInt 0)).toInt = 0 := by decide
  have kc6 : ((Int32.ofInt 1)).toInt = 1 := by decide
  have kc7 : ((Int32.ofInt 3)).toInt = 3 := by decide
  have kz := sy_z0
  refine hq_F.st (s' := (1, _, _, _)) hf29_0 rfl rfl rfl (hs_al g0) ?_
  refine hq_F.st (s' := (4, _, _, _)) hf29_1 rfl rfl rfl (hq_gf h.1 sh_10 sk_3_15 (hq_ref h.1 sh_10 (b := 7) rfl)) ?_
  refine hq_F.st (s' := (7, _, _, _)) hf29_4 rfl rfl rfl (hq_gf h.1 sh_7 sk_3_84 (hq_ref h.1 sh_7 (b := 8) rfl)) ?_
  refine hq_F.st (s' := (8, _, _, _)) hf29_7 rfl rfl rfl rfl ?_
  refine hq_F.call hf29_8 rfl rfl si_3_88 (by decide) (by decide) sz_159 (sy_argsS rfl rfl rfl (Nat.le_of_ble_eq_true rfl) (by decide) rfl (Nat.le_of_ble_eq_true rfl) (by decide)) (ca_at h.1 sh_8 (j := 3) (by omega) (by omega)) (fun _ _ q => by rw [q.1]) ?_
  rintro r8 w ⟨rfl, rfl⟩
  try dsimp only
  rw [show gv w 8 3 = Int32.ofNat (l + 1) from hn_e (by rw [hL.2.1 3 (by omega), hl]) (by omega)]
  refine hq_F.st (s' := (12, _, _, _)) hf29_11 rfl rfl rfl rfl ?_
  refine hq_F.st (s' := (13, _, _, _)) hf29_12 rfl rfl rfl rfl ?_
  rw [hn_p]
  refine hq_F.st (s' := (14, _, _, _)) hf29_13 rfl rfl rfl rfl ?_
  refine hq_F.st (s' := (15, _, _, _)) hf29_14 rfl rfl rfl (hs_al (hg_nr g0 (by decide))) ?_
  refine hq_F.st (s' := (18, _, _, _)) hf29_15 rfl rfl rfl (hq_gf h.1 sh_10 sk_3_9 (hq_ref h.1 sh_10 (b := 1) rfl)) ?_
  refine hq_F.st (s' := (19, _, _, _)) hf29_18 rfl rfl rfl (hs_al (hg_nr g0 (by decide))) ?_
  refine hq_F.st (s' := (22, _, _, _)) hf29_19 rfl rfl rfl (hq_gf h.1 sh_10 sk_3_15 (hq_ref h.1 sh_10 (b := 7) rfl)) ?_
  refine hq_F.st (s' := (23, _, _, _)) hf29_22 rfl rfl rfl rfl ?_
  refine hq_F.call hf29_23 rfl rfl si_3_111 (by decide) (by decide) sz_108 (sy_argsV h.1 sh_1 rfl rfl rfl (Nat.le_of_ble_eq_true rfl) rfl (Nat.le_of_ble_eq_true rfl) rfl (by decide)) (cn_nh_s (d := d) (s := 3) h hL.1 ho (by decide)) (fun r w' q => by rcases q with ⟨q, _⟩ | ⟨_, q, _⟩; rw [q]; rw [q.1.1, h.1.1]) ?_
  rintro r23 w2 q
  try dsimp only
  rcases q with ⟨rfl, v2, rfl, n2, e2, f2⟩ | ⟨rfl, h2, F2, q⟩
  · obtain ⟨b, hb, rfl, lb⟩ := ls_look_in ho (by omega) n2 e2 f2
    have tb : (Int32.ofNat b).toInt = (b : Int) := hn_t (by omega)
    refine hq_F.st (s' := (27, _, _, _)) hf29_26 rfl rfl rfl rfl ?_
    refine hq_F.st (s' := (28, _, _, _)) hf29_27 rfl rfl rfl (hs_iln (pi_get_set _ _ _)) ?_
    refine hq_F.st (s' := (29, _, _, _)) hf29_28 rfl rfl rfl rfl ?_
    refine hq_F.st (s' := (34, _, _, _)) hf29_29 rfl rfl rfl (hs_ic (ci_ne (by omega)) rfl) ?_
    refine hq_F.st (s' := (35, _, _, _)) hf29_34 rfl rfl rfl (hs_iln (pi_get_set _ _ _)) ?_
    refine hq_F.st (s' := (36, _, _, _)) hf29_35 rfl rfl rfl (hs_iln (hg_ne (pi_get_set _ _ _) (by decide))) ?_
    by_cases b36 : ((Int32.ofNat b)).toInt = ((Int32.ofNat l)).toInt
    · skip
      refine hq_F.st (s' := (57, _, _, _)) hf29_36 rfl rfl rfl (hs_ic (ci_eq (by omega)) rfl) ?_
      refine hq_F.st (s' := (58, _, _, _)) hf29_57 rfl rfl rfl (hs_al (hg_nr (hg_nr g0 (by decide)) (by decide))) ?_
      refine hq_F.st (s' := (61, _, _, _)) hf29_58 rfl rfl rfl (hq_gf h.1 sh_10 sk_3_9 (hq_ref h.1 sh_10 (b := 1) rfl)) ?_
      refine hq_F.st (s' := (62, _, _, _)) hf29_61 rfl rfl rfl rfl ?_
      refine hq_F.call hf29_62 rfl rfl si_3_80 (by decide) (by decide) sz_103 (sy_argsV h.1 sh_1 rfl rfl rfl (Nat.le_of_ble_eq_true rfl) rfl (Nat.le_of_ble_eq_true rfl) rfl (by decide)) (ct_ref h ((Int32.ofInt 3))) (fun _ _ q => by rw [q.2.1.1.1, h.1.1]) ?_
      rintro r62 w9 ⟨rfl, k1, k2, k3, k4⟩
      try dsimp only
      refine hq_F.en hf29_65 rfl rfl ?_
      exact ⟨k1.1, k2.cov (by decide), Or.inr ⟨rfl, 3, t.2.1, by show ls_b (ls_look 3 t NT) _ = _; rw [lb, ls_br]; exact if_pos (Or.inl (by omega)), by rw [k3]; decide, k4⟩⟩
    · skip
      refine hq_F.st (s' := (39, _, _, _)) hf29_36 rfl rfl rfl (hs_icn (t := 57) (ci_eqn (by omega)) rfl) ?_
      refine hq_F.st (s' := (40, _, _, _)) hf29_39 rfl rfl rfl (hs_al (hg_nr (hg_nr g0 (by decide)) (by decide))) ?_
      refine hq_F.st (s' := (43, _, _, _)) hf29_40 rfl rfl rfl (hq_gf h.1 sh_10 sk_3_15 (hq_ref h.1 sh_10 (b := 7) rfl)) ?_
      refine hq_F.st (s' := (46, _, _, _)) hf29_43 rfl rfl rfl (hq_gf h.1 sh_7 sk_3_84 (hq_ref h.1 sh_7 (b := 8) rfl)) ?_
      refine hq_F.st (s' := (48, _, _, _)) hf29_46 rfl rfl rfl rfl ?_
      refine hq_F.st (s' := (49, _, _, _)) hf29_48 rfl rfl rfl (hs_iln (pi_get_set _ _ _)) ?_
      refine hq_F.st (s' := (50, _, _, _)) hf29_49 rfl rfl rfl rfl ?_
      rw [hn_k (n := b) hm_38]
      refine hq_F.call hf29_50 rfl rfl si_3_88 (by decide) (by decide) sz_159 (sy_argsS rfl rfl rfl (Nat.le_of_ble_eq_true rfl) (by decide) rfl (Nat.le_of_ble_eq_true rfl) (by decide)) (ca_at h.1 sh_8 (j := 38 + b) (by omega) (by omega)) (fun _ _ q => by rw [q.1]) ?_
      rintro r50 w2 ⟨rfl, rfl⟩
      try dsimp only
      have ga : gv w2 8 (38 + b) = A 4 b - 1 := hL.2.2.2 4 b (by decide) (by show b < 6; omega) (fun _ => hb) (fun q => absurd q (by decide))
      rw [ga]
      refine hq_F.st (s' := (54, _, _, _)) hf29_53 rfl rfl rfl rfl ?_
      by_cases b54 : ((A 4 b - 1)).toInt = (-1)
      · skip
        refine hq_F.st (s' := (66, _, _, _)) hf29_54 rfl rfl rfl (hs_ic (ci_eq (by omega)) rfl) ?_
        refine hq_F.st (s' := (67, _, _, _)) hf29_66 rfl rfl rfl (hs_al (hg_nr (hg_nr g0 (by decide)) (by decide))) ?_
        refine hq_F.st (s' := (70, _, _, _)) hf29_67 rfl rfl rfl (hq_gf h.1 sh_10 sk_3_15 (hq_ref h.1 sh_10 (b := 7) rfl)) ?_
        refine hq_F.st (s' := (73, _, _, _)) hf29_70 rfl rfl rfl (hq_gf h.1 sh_7 sk_3_84 (hq_ref h.1 sh_7 (b := 8) rfl)) ?_
        refine hq_F.st (s' := (75, _, _, _)) hf29_73 rfl rfl rfl rfl ?_
        refine hq_F.st (s' := (76, _, _, _)) hf29_75 rfl rfl rfl (hs_iln (hg_ne (pi_get_set _ _ _) (by decide))) ?_
        refine hq_F.st (s' := (77, _, _, _)) hf29_76 rfl rfl rfl rfl ?_
        refine hq_F.st (s' := (78, _, _, _)) hf29_77 rfl rfl rfl (hs_iln (pi_get_set _ _ _)) ?_
        rw [hn_k (n := l) hm_38]
        refine hq_F.call hf29_78 rfl rfl si_3_121 (by decide) (by decide) sz_160 (sy_argsS rfl rfl rfl (Nat.le_of_ble_eq_true rfl) (by decide) rfl (Nat.le_of_ble_eq_true rfl) (by decide)) (ca_put h.1 sh_8 (j := 38 + l) (by omega) (by omega) (fun q hq => by rw [sg_6 _ (by omega) (by omega)] at hq; cases hq; exact af_i32 _)) (fun _ _ q => by rw [q.2.1.1, h.1.1]) ?_
        rintro r78 w3 ⟨rfl, hC3, hw3⟩
        try dsimp only
        have hT3 := h.fr hC3 (wpF hw3) rfl
        have hL3 := hL.put (by decide) (c0 := 4) (k0 := l) (x := Int32.ofNat (b + 1)) (by decide) (by show l < 6; omega) hw3 (by show Int32.ofNat b = Int32.ofNat (b + 1) - 1; exact hn_p.symm)
        refine hq_F.st (s' := (82, _, _, _)) hf29_81 rfl rfl rfl (hs_al (hg_nr (hg_nr g0 (by decide)) (by decide))) ?_
        refine hq_F.st (s' := (85, _, _, _)) hf29_82 rfl rfl rfl (hq_gf hC3 sh_10 sk_3_9 (hq_ref hC3 sh_10 (b := 1) rfl)) ?_
        refine hq_F.call hf29_85 rfl rfl si_3_68 (by decide) (by decide) sz_98 (sy_argsV hC3 sh_1 rfl rfl rfl (Nat.le_of_ble_eq_true rfl) rfl (Nat.le_of_ble_eq_true rfl) rfl (by decide)) (ct_adv (d := d) hT3 (by have := n2.1; omega)) (fun _ _ q => by rw [q.2.1.1.1, hC3.1]) ?_
        rintro r85 w8 ⟨rfl, k1, k2⟩
        try dsimp only
        refine hq_F.st (s' := (89, _, _, _)) hf29_88 rfl rfl rfl rfl ?_
        refine hq_F.en hf29_89 rfl rfl ?_
        exact ⟨k1.1, (cl_w8 hw3 (by omega)).tr (k2.cov (by decide)), Or.inl ⟨rfl, (tq_nx tp B M t, ld_u A 4 l (Int32.ofNat (b + 1)), nr, NT), by show ls_b (ls_look 3 t NT) _ = _; rw [lb, ls_br]; exact if_neg (by rintro (q | q); omega; exact q (sy_m1.mp b54)), k1, hL3.fr k2 (by decide) (by decide)⟩⟩
      · skip
        refine hq_F.st (s' := (57, _, _, _)) hf29_54 rfl rfl rfl (hs_icn (t := 66) (ci_eqn (by omega)) rfl) ?_
        refine hq_F.st (s' := (58, _, _, _)) hf29_57 rfl rfl rfl (hs_al (hg_nr (hg_nr g0 (by decide)) (by decide))) ?_
        refine hq_F.st (s' := (61, _, _, _)) hf29_58 rfl rfl rfl (hq_gf h.1 sh_10 sk_3_9 (hq_ref h.1 sh_10 (b := 1) rfl)) ?_
        refine hq_F.st (s' := (62, _, _, _)) hf29_61 rfl rfl rfl rfl ?_
        refine hq_F.call hf29_62 rfl rfl si_3_80 (by decide) (by decide) sz_103 (sy_argsV h.1 sh_1 rfl rfl rfl (Nat.le_of_ble_eq_true rfl) rfl (Nat.le_of_ble_eq_true rfl) rfl (by decide)) (ct_ref h ((Int32.ofInt 3))) (fun _ _ q => by rw [q.2.1.1.1, h.1.1]) ?_
        rintro r62 w9 ⟨rfl, k1, k2, k3, k4⟩
        try dsimp only
        refine hq_F.en hf29_65 rfl rfl ?_
        exact ⟨k1.1, k2.cov (by decide), Or.inr ⟨rfl, 3, t.2.1, by show ls_b (ls_look 3 t NT) _ = _; rw [lb, ls_br]; exact if_pos (Or.inr (fun q => b54 (sy_m1.mpr q))), by rw [k3]; decide, k4⟩⟩
  · skip
    refine hq_F.st (s' := (27, _, _, _)) hf29_26 rfl rfl rfl rfl ?_
    refine hq_F.st (s' := (28, _, _, _)) hf29_27 rfl rfl rfl (hs_iln (pi_get_set _ _ _)) ?_
    refine hq_F.st (s' := (29, _, _, _)) hf29_28 rfl rfl rfl rfl ?_
    refine hq_F.st (s' := (32, _, _, _)) hf29_29 rfl rfl rfl (hs_icn (t := 34) (ci_nen (by omega)) rfl) ?_
    refine hq_F.st (s' := (33, _, _, _)) hf29_32 rfl rfl rfl rfl ?_
    refine hq_F.en hf29_33 rfl rfl ?_
    rcases q with ⟨q1, q2⟩ | ⟨q1, q2, q3⟩
    · exact ⟨h2.1, F2.cov (by decide), Or.inr ⟨rfl, 1, t.2.1, by show ls_b (ls_look 3 t NT) _ = _; rw [ls_look_1 q1]; rfl, q2⟩⟩
    · exact ⟨h2.1, F2.cov (by decide), Or.inr ⟨rfl, 3, t.2.1, by show ls_b (ls_look 3 t NT) _ = _; rw [ls_look_3 q1 q2]; rfl, q3⟩⟩
theorem hm_62 : ((Int8.ofInt 62).toInt32) = Int32.ofNat 62 := by decide
theorem hm_68 : ((Int8.ofInt 68).toInt32) = Int32.ofNat 68 := by decide
theorem hm_8 : ((Int8.ofInt 8).toInt32) = Int32.ofNat 8 := by decide
theorem sg_62 : ∀ k, k < 116 → 62 ≤ k → af_seg sf_8 k = some (-1, 10) := by decide +kernel
theorem hn_st {m n : Nat} : ((Int8.ofInt 68).toInt32) + (Int32.ofNat m * ((Int8.ofInt 8).toInt32)) + Int32.ofNat n = Int32.ofNat (68 + (8 * m + n)) := by
  rw [hm_68, hm_8, ← Int32.ofNat_mul, hn_a, hn_a]
  congr 1
  omega
theorem cl_stop {d B M m n : Nat} {tp : Nat → Nat} {w : pi_W} {σ : ls_S} (hO : CO tp B M w σ) (ho : nt_ok σ.2.2.2) (m0 : nt_c 0 σ.2.2.2 ≤ 10) (hm : m < 6) (hn : σ.2.1 8 m = Int32.ofNat n) (hn8 : n ≤ 8) : hq_F (d + 3) sm32 (cl_P tp B M (ls_stop tp B M m n σ) w) (0, lv_args 0 [.ref 10, .int (Int32.ofNat m)], [], w) := by
  obtain ⟨t, A, nr, NT⟩ := σ
  obtain ⟨h, hL⟩ := hO
  dsimp only at *
  have tn : (Int32.ofNat n).toInt = (n : Int) := hn_t (by omega)
  have g0 : pi_get (lv_args 0 [.ref 10, .int (Int32.ofNat m)]) 0 = some (.ref 10) := rfl
  have g1 : pi_get (lv_args 0 [.ref 10, .int (Int32.ofNat m)]) 1 = some (.int (Int32.ofNat m)) := rfl
  have kc0 : (((Int8.ofInt 62).toInt32)).toInt = 62 := by decide
  have kc1 : (((Int8.ofInt 68).toInt32)).toInt = 68 := by decide
  have kc2 : (((Int8.ofInt 8).toInt32)).toInt = 8 := by decide
  have kc3 : ((-1 : Int32)).toInt = (-1) := by decide
  have kc4 : ((0 : Int32)).toInt = 0 := by decide
  have kc5 : ((1 : Int32)).toInt = 1 := by decide
  have kc6 : ((Int32.ofInt (-1))).toInt = (-1) := by decide
  have kc7 : ((Int32.ofInt 0)).toInt = 0 := by decide
  have kc8 : ((Int32.ofInt 1)).toInt = 1 := by decide
  have kc9 : ((Int32.ofInt 4)).toInt = 4 := by decide
  have kz := sy_z0
  refine hq_F.st (s' := (1, _, _, _)) hf32_0 rfl rfl rfl (hs_al g0) ?_
  refine hq_F.st (s' := (4, _, _, _)) hf32_1 rfl rfl rfl (hq_gf h.1 sh_10 sk_3_9 (hq_ref h.1 sh_10 (b := 1) rfl)) ?_
  refine hq_F.st (s' := (5, _, _, _)) hf32_4 rfl rfl rfl (hs_al g0) ?_
  refine hq_F.st (s' := (8, _, _, _)) hf32_5 rfl rfl rfl (hq_gf h.1 sh_10 sk_3_15 (hq_ref h.1 sh_10 (b := 7) rfl)) ?_
  refine hq_F.st (s' := (9, _, _, _)) hf32_8 rfl rfl rfl rfl ?_
  refine hq_F.call hf32_9 rfl rfl si_3_111 (by decide) (by decide) sz_108 (sy_argsV h.1 sh_1 rfl rfl rfl (Nat.le_of_ble_eq_true rfl) rfl (Nat.le_of_ble_eq_true rfl) rfl (by decide)) (cn_nh_s (d := d) (s := 0) h hL.1 ho (by decide)) (fun r w' q => by rcases q with ⟨q, _⟩ | ⟨_, q, _⟩; rw [q]; rw [q.1.1, h.1.1]) ?_
  rintro r9 w2 q
  try dsimp only
  rcases q with ⟨rfl, v2, rfl, n2, e2, f2⟩ | ⟨rfl, h2, F2, q⟩
  · obtain ⟨b, hb, rfl, lb⟩ := ls_look_in ho (by omega) n2 e2 f2
    have tb : (Int32.ofNat b).toInt = (b : Int) := hn_t (by omega)
    refine hq_F.st (s' := (13, _, _, _)) hf32_12 rfl rfl rfl rfl ?_
    refine hq_F.st (s' := (14, _, _, _)) hf32_13 rfl rfl rfl (hs_iln (pi_get_set _ _ _)) ?_
    refine hq_F.st (s' := (15, _, _, _)) hf32_14 rfl rfl rfl rfl ?_
    refine hq_F.st (s' := (20, _, _, _)) hf32_15 rfl rfl rfl (hs_ic (ci_ne (by omega)) rfl) ?_
    refine hq_F.st (s' := (21, _, _, _)) hf32_20 rfl rfl rfl (hs_al (hg_nr g0 (by decide))) ?_
    refine hq_F.st (s' := (24, _, _, _)) hf32_21 rfl rfl rfl (hq_gf h.1 sh_10 sk_3_15 (hq_ref h.1 sh_10 (b := 7) rfl)) ?_
    refine hq_F.st (s' := (27, _, _, _)) hf32_24 rfl rfl rfl (hq_gf h.1 sh_7 sk_3_84 (hq_ref h.1 sh_7 (b := 8) rfl)) ?_
    refine hq_F.st (s' := (29, _, _, _)) hf32_27 rfl rfl rfl rfl ?_
    refine hq_F.st (s' := (30, _, _, _)) hf32_29 rfl rfl rfl (hs_iln (hg_ne g1 (by decide))) ?_
    refine hq_F.st (s' := (31, _, _, _)) hf32_30 rfl rfl rfl rfl ?_
    rw [hn_k (n := m) hm_62]
    refine hq_F.call hf32_31 rfl rfl si_3_88 (by decide) (by decide) sz_159 (sy_argsS rfl rfl rfl (Nat.le_of_ble_eq_true rfl) (by decide) rfl (Nat.le_of_ble_eq_true rfl) (by decide)) (ca_at h.1 sh_8 (j := 62 + m) (by omega) (by omega)) (fun _ _ q => by rw [q.1]) ?_
    rintro r31 w2 ⟨rfl, rfl⟩
    try dsimp only
    have ga : gv w2 8 (62 + m) = A 8 m := hL.2.2.2 8 m (by decide) (by show m < 6; omega) (fun q => absurd q (by decide)) (fun q => absurd q (by decide))
    rw [ga, hn]
    refine hq_F.st (s' := (35, _, _, _)) hf32_34 rfl rfl rfl rfl ?_
    refine hq_F.st (s' := (36, _, _, _)) hf32_35 rfl rfl rfl (hs_iln (pi_get_set _ _ _)) ?_
    refine hq_F.st (s' := (38, _, _, _)) hf32_36 rfl rfl rfl rfl ?_
    by_cases b38 : ((Int32.ofNat n)).toInt < 8
    · skip
      refine hq_F.st (s' := (50, _, _, _)) hf32_38 rfl rfl rfl (hs_ic (ci_lt (by omega)) rfl) ?_
      refine hq_F.st (s' := (51, _, _, _)) hf32_50 rfl rfl rfl (hs_al (hg_nr (hg_nr g0 (by decide)) (by decide))) ?_
      refine hq_F.st (s' := (54, _, _, _)) hf32_51 rfl rfl rfl (hq_gf h.1 sh_10 sk_3_15 (hq_ref h.1 sh_10 (b := 7) rfl)) ?_
      refine hq_F.st (s' := (57, _, _, _)) hf32_54 rfl rfl rfl (hq_gf h.1 sh_7 sk_3_84 (hq_ref h.1 sh_7 (b := 8) rfl)) ?_
      refine hq_F.st (s' := (59, _, _, _)) hf32_57 rfl rfl rfl rfl ?_
      refine hq_F.st (s' := (60, _, _, _)) hf32_59 rfl rfl rfl (hs_iln (hg_ne (hg_ne g1 (by decide)) (by decide))) ?_
      refine hq_F.st (s' := (62, _, _, _)) hf32_60 rfl rfl rfl rfl ?_
      refine hq_F.st (s' := (63, _, _, _)) hf32_62 rfl rfl rfl rfl ?_
      refine hq_F.st (s' := (64, _, _, _)) hf32_63 rfl rfl rfl rfl ?_
      refine hq_F.st (s' := (65, _, _, _)) hf32_64 rfl rfl rfl (hs_iln (pi_get_set _ _ _)) ?_
      refine hq_F.st (s' := (66, _, _, _)) hf32_65 rfl rfl rfl rfl ?_
      refine hq_F.st (s' := (67, _, _, _)) hf32_66 rfl rfl rfl (hs_iln (hg_ne (pi_get_set _ _ _) (by decide))) ?_
      rw [hn_st]
      refine hq_F.call hf32_67 rfl rfl si_3_121 (by decide) (by decide) sz_160 (sy_argsS rfl rfl rfl (Nat.le_of_ble_eq_true rfl) (by decide) rfl (Nat.le_of_ble_eq_true rfl) (by decide)) (ca_put h.1 sh_8 (j := 68 + (8 * m + n)) (by omega) (by omega) (fun q hq => by rw [sg_62 _ (by omega) (by omega)] at hq; cases hq; dsimp only; omega)) (fun _ _ q => by rw [q.2.1.1, h.1.1]) ?_
      rintro r67 w3 ⟨rfl, hC3, hw3⟩
      try dsimp only
      have hT3 := h.fr hC3 (wpF hw3) rfl
      have hL3 := hL.put (by decide) (c0 := 9) (k0 := 8 * m + n) (x := Int32.ofNat b) (by decide) (by show 8 * m + n < 48; omega) hw3 rfl
      refine hq_F.st (s' := (71, _, _, _)) hf32_70 rfl rfl rfl (hs_al (hg_nr (hg_nr g0 (by decide)) (by decide))) ?_
      refine hq_F.st (s' := (74, _, _, _)) hf32_71 rfl rfl rfl (hq_gf hC3 sh_10 sk_3_15 (hq_ref hC3 sh_10 (b := 7) rfl)) ?_
      refine hq_F.st (s' := (77, _, _, _)) hf32_74 rfl rfl rfl (hq_gf hC3 sh_7 sk_3_84 (hq_ref hC3 sh_7 (b := 8) rfl)) ?_
      refine hq_F.st (s' := (79, _, _, _)) hf32_77 rfl rfl rfl rfl ?_
      refine hq_F.st (s' := (80, _, _, _)) hf32_79 rfl rfl rfl (hs_iln (hg_ne (hg_ne g1 (by decide)) (by decide))) ?_
      refine hq_F.st (s' := (81, _, _, _)) hf32_80 rfl rfl rfl rfl ?_
      refine hq_F.st (s' := (82, _, _, _)) hf32_81 rfl rfl rfl (hs_iln (pi_get_set _ _ _)) ?_
      refine hq_F.st (s' := (83, _, _, _)) hf32_82 rfl rfl rfl rfl ?_
      refine hq_F.st (s' := (84, _, _, _)) hf32_83 rfl rfl rfl rfl ?_
      rw [hn_k (n := m) hm_62, hn_s]
      have tn1 : (Int32.ofNat (n + 1)).toInt = ((n + 1 : Nat) : Int) := hn_t (by omega)
      refine hq_F.call hf32_84 rfl rfl si_3_121 (by decide) (by decide) sz_160 (sy_argsS rfl rfl rfl (Nat.le_of_ble_eq_true rfl) (by decide) rfl (Nat.le_of_ble_eq_true rfl) (by decide)) (ca_put hC3 sh_8 (j := 62 + m) (by omega) (by omega) (fun q hq => by rw [sg_62 _ (by omega) (by omega)] at hq; cases hq; dsimp only; omega)) (fun _ _ q => by rw [q.2.1.1, hC3.1]) ?_
      rintro r84 w4 ⟨rfl, hC4, hw4⟩
      try dsimp only
      have hT4 := hT3.fr hC4 (wpF hw4) rfl
      have hL4 := hL3.put (by decide) (c0 := 8) (k0 := m) (x := Int32.ofNat (n + 1)) (by decide) (by show m < 6; omega) hw4 rfl
      refine hq_F.st (s' := (88, _, _, _)) hf32_87 rfl rfl rfl (hs_al (hg_nr (hg_nr g0 (by decide)) (by decide))) ?_
      refine hq_F.st (s' := (91, _, _, _)) hf32_88 rfl rfl rfl (hq_gf hC4 sh_10 sk_3_9 (hq_ref hC4 sh_10 (b := 1) rfl)) ?_
      refine hq_F.call hf32_91 rfl rfl si_3_68 (by decide) (by decide) sz_98 (sy_argsV hC4 sh_1 rfl rfl rfl (Nat.le_of_ble_eq_true rfl) rfl (Nat.le_of_ble_eq_true rfl) rfl (by decide)) (ct_adv (d := d) hT4 (by have := n2.1; omega)) (fun _ _ q => by rw [q.2.1.1.1, hC4.1]) ?_
      rintro r91 w8 ⟨rfl, k1, k2⟩
      try dsimp only
      refine hq_F.st (s' := (95, _, _, _)) hf32_94 rfl rfl rfl rfl ?_
      refine hq_F.en hf32_95 rfl rfl ?_
      exact ⟨k1.1, (cl_w8 hw3 (by omega)).tr ((cl_w8 hw4 (by omega)).tr (k2.cov (by decide))), Or.inl ⟨rfl, (tq_nx tp B M t, ld_u (ld_u A 9 (8 * m + n) (Int32.ofNat b)) 8 m (Int32.ofNat (n + 1)), nr, NT), by show ls_b (ls_look 0 t NT) _ = _; rw [lb, ls_br]; exact if_neg (by omega), k1, hL4.fr k2 (by decide) (by decide)⟩⟩
    · skip
      refine hq_F.st (s' := (41, _, _, _)) hf32_38 rfl rfl rfl (hs_icn (t := 50) (ci_ltn (by omega)) rfl) ?_
      refine hq_F.st (s' := (42, _, _, _)) hf32_41 rfl rfl rfl (hs_al (hg_nr (hg_nr g0 (by decide)) (by decide))) ?_
      refine hq_F.st (s' := (45, _, _, _)) hf32_42 rfl rfl rfl (hq_gf h.1 sh_10 sk_3_9 (hq_ref h.1 sh_10 (b := 1) rfl)) ?_
      refine hq_F.st (s' := (46, _, _, _)) hf32_45 rfl rfl rfl rfl ?_
      refine hq_F.call hf32_46 rfl rfl si_3_80 (by decide) (by decide) sz_103 (sy_argsV h.1 sh_1 rfl rfl rfl (Nat.le_of_ble_eq_true rfl) rfl (Nat.le_of_ble_eq_true rfl) rfl (by decide)) (ct_ref h ((Int32.ofInt 4))) (fun _ _ q => by rw [q.2.1.1.1, h.1.1]) ?_
      rintro r46 w9 ⟨rfl, k1, k2, k3, k4⟩
      try dsimp only
      refine hq_F.en hf32_49 rfl rfl ?_
      exact ⟨k1.1, k2.cov (by decide), Or.inr ⟨rfl, 4, t.2.1, by show ls_b (ls_look 0 t NT) _ = _; rw [lb, ls_br]; exact if_pos (by omega), by rw [k3]; decide, k4⟩⟩
  · skip
    refine hq_F.st (s' := (13, _, _, _)) hf32_12 rfl rfl rfl rfl ?_
    refine hq_F.st (s' := (14, _, _, _)) hf32_13 rfl rfl rfl (hs_iln (pi_get_set _ _ _)) ?_
    refine hq_F.st (s' := (15, _, _, _)) hf32_14 rfl rfl rfl rfl ?_
    refine hq_F.st (s' := (18, _, _, _)) hf32_15 rfl rfl rfl (hs_icn (t := 20) (ci_nen (by omega)) rfl) ?_
    refine hq_F.st (s' := (19, _, _, _)) hf32_18 rfl rfl rfl rfl ?_
    refine hq_F.en hf32_19 rfl rfl ?_
    rcases q with ⟨q1, q2⟩ | ⟨q1, q2, q3⟩
    · exact ⟨h2.1, F2.cov (by decide), Or.inr ⟨rfl, 1, t.2.1, by show ls_b (ls_look 0 t NT) _ = _; rw [ls_look_1 q1]; rfl, q2⟩⟩
    · exact ⟨h2.1, F2.cov (by decide), Or.inr ⟨rfl, 3, t.2.1, by show ls_b (ls_look 0 t NT) _ = _; rw [ls_look_3 q1 q2]; rfl, q3⟩⟩
