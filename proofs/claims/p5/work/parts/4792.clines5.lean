/-! ===== the DEEDS of a LAW in the class; by program ===== -/
theorem si_3_129 : pi_look pi_iT 3 129 = some (2, 28, 1, 588) := rfl
theorem si_3_132 : pi_look pi_iT 3 132 = some (2, 104, 1, 592) := rfl
def sm27 : pi_M := (3, 3, (some .boolean), false, mc_27)
set_option maxRecDepth 100000 in
theorem sz_27 : pi_mt[27]? = some (mn_27, prog_5_method_8_code, (3, 3, (some .boolean), false, mc_27)) := rfl
theorem hf27_0 : pi_fetch mc_27 0 = some (.aload_n 0, 1) := rfl
theorem hf27_1 : pi_fetch mc_27 1 = some (.getfield 15, 3) := rfl
theorem hf27_4 : pi_fetch mc_27 4 = some (.getfield 84, 3) := rfl
theorem hf27_7 : pi_fetch mc_27 7 = some (.iconst 3, 1) := rfl
theorem hf27_8 : pi_fetch mc_27 8 = some (.invokestatic 88, 3) := rfl
theorem hf27_11 : pi_fetch mc_27 11 = some (.iconst 1, 1) := rfl
theorem hf27_12 : pi_fetch mc_27 12 = some (.isub, 1) := rfl
theorem hf27_13 : pi_fetch mc_27 13 = some (.istore_n 1, 1) := rfl
theorem hf27_14 : pi_fetch mc_27 14 = some (.aload_n 0, 1) := rfl
theorem hf27_15 : pi_fetch mc_27 15 = some (.iload_n 1, 1) := rfl
theorem hf27_16 : pi_fetch mc_27 16 = some (.invokevirtual 129, 3) := rfl
theorem hf27_19 : pi_fetch mc_27 19 = some (.ifCond .ne 5, 3) := rfl
theorem hf27_22 : pi_fetch mc_27 22 = some (.iconst 0, 1) := rfl
theorem hf27_23 : pi_fetch mc_27 23 = some (.ireturn, 1) := rfl
theorem hf27_24 : pi_fetch mc_27 24 = some (.iconst 0, 1) := rfl
theorem hf27_25 : pi_fetch mc_27 25 = some (.istore_n 2, 1) := rfl
theorem hf27_26 : pi_fetch mc_27 26 = some (.iload_n 2, 1) := rfl
theorem hf27_27 : pi_fetch mc_27 27 = some (.iconst 5, 1) := rfl
theorem hf27_28 : pi_fetch mc_27 28 = some (.if_icmp .ge 31, 3) := rfl
theorem hf27_31 : pi_fetch mc_27 31 = some (.aload_n 0, 1) := rfl
theorem hf27_32 : pi_fetch mc_27 32 = some (.getfield 9, 3) := rfl
theorem hf27_35 : pi_fetch mc_27 35 = some (.bipush 59, 2) := rfl
theorem hf27_37 : pi_fetch mc_27 37 = some (.invokevirtual 132, 3) := rfl
theorem hf27_40 : pi_fetch mc_27 40 = some (.ifCond .ne 19, 3) := rfl
theorem hf27_43 : pi_fetch mc_27 43 = some (.aload_n 0, 1) := rfl
theorem hf27_44 : pi_fetch mc_27 44 = some (.iload_n 1, 1) := rfl
theorem hf27_45 : pi_fetch mc_27 45 = some (.invokevirtual 129, 3) := rfl
theorem hf27_48 : pi_fetch mc_27 48 = some (.ifCond .ne 5, 3) := rfl
theorem hf27_51 : pi_fetch mc_27 51 = some (.iconst 0, 1) := rfl
theorem hf27_52 : pi_fetch mc_27 52 = some (.ireturn, 1) := rfl
theorem hf27_53 : pi_fetch mc_27 53 = some (.iinc 2 1, 3) := rfl
theorem hf27_56 : pi_fetch mc_27 56 = some (.goto (-30), 3) := rfl
theorem hf27_59 : pi_fetch mc_27 59 = some (.iconst 1, 1) := rfl
theorem hf27_60 : pi_fetch mc_27 60 = some (.ireturn, 1) := rfl
theorem cl_P.tr {tp : Nat → Nat} {B M : Nat} {F : ls_R} {w w1 : pi_W} {r : Option Value} {w' : pi_W} (h : cl_P tp B M F w1 r w') (hF : af_Fr cl_N w w1) : cl_P tp B M F w r w' := ⟨h.1, hF.tr h.2.1, h.2.2⟩
theorem ls_deed_nt {tp : Nat → Nat} {B M l : Nat} {σ σ1 : ls_S} (h : ls_deed tp B M l σ = .inr σ1) : σ1.2.2 = σ.2.2 := by
  unfold ls_deed ls_b at h
  split at h
  · cases h
  · dsimp only at h
    split at h
    · cases h
    · cases h
      rfl
theorem cl_dsl {d B M l : Nat} {tp : Nat → Nat} (hl : l < 6) : ∀ (f i : Nat) {w : pi_W} {σ : ls_S} {lv : pi_L}, i + f = 5 → CO tp B M w σ → nt_ok σ.2.2.2 → nt_c 2 σ.2.2.2 ≤ 5 → pi_get lv 0 = some (.ref 10) → pi_get lv 1 = some (.int (Int32.ofNat l)) → pi_get lv 2 = some (.int (Int32.ofNat i)) → hq_F (d + 4) sm27 (cl_P tp B M (ls_deeds tp B M l f σ) w) (26, lv, [], w) := by
  intro f
  induction f with
  | zero =>
    intro i w σ lv hi hO ho m2 g0 g1 g2
    have ti : (Int32.ofNat i).toInt = (i : Int) := hn_t (by omega)
    have kc0 : ((Int32.ofInt 1)).toInt = 1 := by decide
    have kc1 : ((Int32.ofInt 5)).toInt = 5 := by decide
    have kz := sy_z0
    refine hq_F.st (s' := (27, _, _, _)) hf27_26 rfl rfl rfl (hs_iln g2) ?_
    refine hq_F.st (s' := (28, _, _, _)) hf27_27 rfl rfl rfl rfl ?_
    refine hq_F.st (s' := (59, _, _, _)) hf27_28 rfl rfl rfl (hs_ic (ci_ge (by omega)) rfl) ?_
    refine hq_F.st (s' := (60, _, _, _)) hf27_59 rfl rfl rfl rfl ?_
    refine hq_F.en hf27_60 rfl rfl ?_
    exact ⟨hO.1.1, af_Fr.rf _ _, Or.inl ⟨rfl, σ, rfl, hO⟩⟩
  | succ f ih =>
    intro i w σ lv hi hO ho m2 g0 g1 g2
    have ti : (Int32.ofNat i).toInt = (i : Int) := hn_t (by omega)
    have kc0 : (((Int8.ofInt 59).toInt32)).toInt = 59 := by decide
    have kc1 : ((0 : Int32)).toInt = 0 := by decide
    have kc2 : ((1 : Int32)).toInt = 1 := by decide
    have kc3 : ((Int32.ofInt 0)).toInt = 0 := by decide
    have kc4 : ((Int32.ofInt 1)).toInt = 1 := by decide
    have kc5 : ((Int32.ofInt 5)).toInt = 5 := by decide
    have kz := sy_z0
    refine hq_F.st (s' := (27, _, _, _)) hf27_26 rfl rfl rfl (hs_iln g2) ?_
    refine hq_F.st (s' := (28, _, _, _)) hf27_27 rfl rfl rfl rfl ?_
    refine hq_F.st (s' := (31, _, _, _)) hf27_28 rfl rfl rfl (hs_icn (t := 59) (ci_gen (by omega)) rfl) ?_
    refine hq_F.st (s' := (32, _, _, _)) hf27_31 rfl rfl rfl (hs_al g0) ?_
    refine hq_F.st (s' := (35, _, _, _)) hf27_32 rfl rfl rfl (hq_gf hO.1.1 sh_10 sk_3_9 (hq_ref hO.1.1 sh_10 (b := 1) rfl)) ?_
    refine hq_F.st (s' := (37, _, _, _)) hf27_35 rfl rfl rfl rfl ?_
    refine hq_F.call hf27_37 rfl rfl si_3_132 (by decide) (by decide) sz_104 (sy_argsV hO.1.1 sh_1 rfl rfl rfl (Nat.le_of_ble_eq_true rfl) rfl (Nat.le_of_ble_eq_true rfl) rfl (by decide)) (ct_isS (c := 59) hO.1 (by decide)) (fun _ _ q => by rw [q.1]) ?_
    rintro r37 w ⟨rfl, rfl⟩
    try dsimp only
    by_cases hsc : σ.1.1 = 4 ∧ σ.1.2.2.1 = 59
    · rw [decide_eq_true hsc, show tq_b true = (1 : Int32) from rfl]
      refine hq_F.st (s' := (59, _, _, _)) hf27_40 rfl rfl rfl (hs_if (ci_ne (by omega)) rfl) ?_
      refine hq_F.st (s' := (60, _, _, _)) hf27_59 rfl rfl rfl rfl ?_
      refine hq_F.en hf27_60 rfl rfl ?_
      exact ⟨hO.1.1, af_Fr.rf _ _, Or.inl ⟨rfl, σ, by rw [ls_deeds, if_pos (show ls_sc σ.1 = true from decide_eq_true hsc)], hO⟩⟩
    · rw [decide_eq_false hsc, show tq_b false = (0 : Int32) from rfl]
      refine hq_F.st (s' := (43, _, _, _)) hf27_40 rfl rfl rfl (hs_ifn (t := 59) (ci_nen (by omega)) rfl) ?_
      refine hq_F.st (s' := (44, _, _, _)) hf27_43 rfl rfl rfl (hs_al g0) ?_
      refine hq_F.st (s' := (45, _, _, _)) hf27_44 rfl rfl rfl (hs_iln g1) ?_
      refine hq_F.call hf27_45 rfl rfl si_3_129 (by decide) (by decide) sz_28 (sy_argsV hO.1.1 sh_10 rfl rfl rfl (Nat.le_of_ble_eq_true rfl) rfl (Nat.le_of_ble_eq_true rfl) rfl (by decide)) (cl_deed (d := d) hO ho m2 hl) (fun _ _ q => by rw [q.1.1, hO.1.1.1]) ?_
      rintro r45 w1 ⟨hC1, F1, q⟩
      try dsimp only
      rcases q with ⟨rfl, σ1, e1, O1⟩ | ⟨rfl, k, p, e1, q1⟩
      · have hs := ls_deed_nt e1
        refine hq_F.st (s' := (53, _, _, _)) hf27_48 rfl rfl rfl (hs_if (ci_ne (by omega)) rfl) ?_
        refine hq_F.st (s' := (56, _, _, _)) hf27_53 rfl rfl rfl (hs_inc g2 (by decide)) ?_
        refine hq_F.st (s' := (26, _, _, _)) hf27_56 rfl rfl rfl rfl ?_
        rw [show ls_deeds tp B M l (f + 1) σ = ls_deeds tp B M l f σ1 from by rw [ls_deeds, if_neg (show ¬ ls_sc σ.1 = true from fun q => hsc (of_decide_eq_true q)), e1, ls_br]]
        exact (ih (i + 1) (by omega) O1 (by rw [hs]; exact ho) (by rw [hs]; exact m2) (hg_nr g0 (by decide)) (hg_ne g1 (by decide)) (by rw [← hn_s]; exact (pi_get_set _ _ _))).imp (fun r w9 q => q.tr F1)
      · skip
        refine hq_F.st (s' := (51, _, _, _)) hf27_48 rfl rfl rfl (hs_ifn (t := 53) (ci_nen (by omega)) rfl) ?_
        refine hq_F.st (s' := (52, _, _, _)) hf27_51 rfl rfl rfl rfl ?_
        refine hq_F.en hf27_52 rfl rfl ?_
        exact ⟨hC1, F1, Or.inr ⟨rfl, k, p, by rw [ls_deeds, if_neg (show ¬ ls_sc σ.1 = true from fun q => hsc (of_decide_eq_true q)), e1, ls_bl], q1⟩⟩
theorem cl_deeds {d B M l : Nat} {tp : Nat → Nat} {w : pi_W} {σ : ls_S} (hO : CO tp B M w σ) (ho : nt_ok σ.2.2.2) (m2 : nt_c 2 σ.2.2.2 ≤ 5) (hl3 : nt_c 3 σ.2.2.2 = l + 1) (hl : l < 6) : hq_F (d + 4) sm27 (cl_P tp B M (ls_b (ls_deed tp B M l σ) (ls_deeds tp B M l 5)) w) (0, lv_args 0 [.ref 10], [], w) := by
  have g0 : pi_get (lv_args 0 [.ref 10]) 0 = some (.ref 10) := rfl
  have kc0 : ((0 : Int32)).toInt = 0 := by decide
  have kc1 : ((1 : Int32)).toInt = 1 := by decide
  have kc2 : ((Int32.ofInt 0)).toInt = 0 := by decide
  have kc3 : ((Int32.ofInt 1)).toInt = 1 := by decide
  have kc4 : ((Int32.ofInt 3)).toInt = 3 := by decide
  have kz := sy_z0
  refine hq_F.st (s' := (1, _, _, _)) hf27_0 rfl rfl rfl (hs_al g0) ?_
  refine hq_F.st (s' := (4, _, _, _)) hf27_1 rfl rfl rfl (hq_gf hO.1.1 sh_10 sk_3_15 (hq_ref hO.1.1 sh_10 (b := 7) rfl)) ?_
  refine hq_F.st (s' := (7, _, _, _)) hf27_4 rfl rfl rfl (hq_gf hO.1.1 sh_7 sk_3_84 (hq_ref hO.1.1 sh_7 (b := 8) rfl)) ?_
  refine hq_F.st (s' := (8, _, _, _)) hf27_7 rfl rfl rfl rfl ?_
  refine hq_F.call hf27_8 rfl rfl si_3_88 (by decide) (by decide) sz_159 (sy_argsS rfl rfl rfl (Nat.le_of_ble_eq_true rfl) (by decide) rfl (Nat.le_of_ble_eq_true rfl) (by decide)) (ca_at hO.1.1 sh_8 (j := 3) (by omega) (by omega)) (fun _ _ q => by rw [q.1]) ?_
  rintro r8 w ⟨rfl, rfl⟩
  try dsimp only
  rw [show gv w 8 3 = Int32.ofNat (l + 1) from hn_e (by rw [hO.2.2.1 3 (by omega), hl3]) (by omega)]
  refine hq_F.st (s' := (12, _, _, _)) hf27_11 rfl rfl rfl rfl ?_
  refine hq_F.st (s' := (13, _, _, _)) hf27_12 rfl rfl rfl rfl ?_
  rw [hn_p]
  refine hq_F.st (s' := (14, _, _, _)) hf27_13 rfl rfl rfl rfl ?_
  refine hq_F.st (s' := (15, _, _, _)) hf27_14 rfl rfl rfl (hs_al (hg_nr g0 (by decide))) ?_
  refine hq_F.st (s' := (16, _, _, _)) hf27_15 rfl rfl rfl (hs_iln (pi_get_set _ _ _)) ?_
  refine hq_F.call hf27_16 rfl rfl si_3_129 (by decide) (by decide) sz_28 (sy_argsV hO.1.1 sh_10 rfl rfl rfl (Nat.le_of_ble_eq_true rfl) rfl (Nat.le_of_ble_eq_true rfl) rfl (by decide)) (cl_deed (d := d) hO ho m2 hl) (fun _ _ q => by rw [q.1.1, hO.1.1.1]) ?_
  rintro r16 w1 ⟨hC1, F1, q⟩
  try dsimp only
  rcases q with ⟨rfl, σ1, e1, O1⟩ | ⟨rfl, k, p, e1, q1⟩
  · have hs := ls_deed_nt e1
    refine hq_F.st (s' := (24, _, _, _)) hf27_19 rfl rfl rfl (hs_if (ci_ne (by omega)) rfl) ?_
    refine hq_F.st (s' := (25, _, _, _)) hf27_24 rfl rfl rfl rfl ?_
    refine hq_F.st (s' := (26, _, _, _)) hf27_25 rfl rfl rfl rfl ?_
    rw [e1, ls_br]
    exact (cl_dsl (d := d) hl 5 0 (by omega) O1 (by rw [hs]; exact ho) (by rw [hs]; exact m2) (hg_nr (hg_nr g0 (by decide)) (by decide)) (hg_ne (pi_get_set _ _ _) (by decide)) (pi_get_set _ _ _)).imp (fun r w9 q => q.tr F1)
  · skip
    refine hq_F.st (s' := (22, _, _, _)) hf27_19 rfl rfl rfl (hs_ifn (t := 24) (ci_nen (by omega)) rfl) ?_
    refine hq_F.st (s' := (23, _, _, _)) hf27_22 rfl rfl rfl rfl ?_
    refine hq_F.en hf27_23 rfl rfl ?_
    exact ⟨hC1, F1, Or.inr ⟨rfl, k, p, by rw [e1, ls_bl], q1⟩⟩
