/-! ===== what a LAW and a repeal begin with, in the class; by program ===== -/
theorem si_3_125 : pi_look pi_iT 3 125 = some (2, 106, 2, 580) := rfl
theorem si_3_49 : pi_look pi_iT 3 49 = some (2, 24, 1, 528) := rfl
def sm26 : pi_M := (3, 3, (some .boolean), false, mc_26)
set_option maxRecDepth 100000 in
theorem sz_26 : pi_mt[26]? = some (mn_26, prog_5_method_7_code, (3, 3, (some .boolean), false, mc_26)) := rfl
theorem hf26_0 : pi_fetch mc_26 0 = some (.aload_n 0, 1) := rfl
theorem hf26_1 : pi_fetch mc_26 1 = some (.iconst 3, 1) := rfl
theorem hf26_2 : pi_fetch mc_26 2 = some (.invokevirtual 49, 3) := rfl
theorem hf26_5 : pi_fetch mc_26 5 = some (.istore_n 1, 1) := rfl
theorem hf26_6 : pi_fetch mc_26 6 = some (.iload_n 1, 1) := rfl
theorem hf26_7 : pi_fetch mc_26 7 = some (.iconst (-1), 1) := rfl
theorem hf26_8 : pi_fetch mc_26 8 = some (.if_icmp .ne 5, 3) := rfl
theorem hf26_11 : pi_fetch mc_26 11 = some (.iconst 0, 1) := rfl
theorem hf26_12 : pi_fetch mc_26 12 = some (.ireturn, 1) := rfl
theorem hf26_13 : pi_fetch mc_26 13 = some (.aload_n 0, 1) := rfl
theorem hf26_14 : pi_fetch mc_26 14 = some (.getfield 15, 3) := rfl
theorem hf26_17 : pi_fetch mc_26 17 = some (.getfield 84, 3) := rfl
theorem hf26_20 : pi_fetch mc_26 20 = some (.bipush 38, 2) := rfl
theorem hf26_22 : pi_fetch mc_26 22 = some (.iload_n 1, 1) := rfl
theorem hf26_23 : pi_fetch mc_26 23 = some (.iadd, 1) := rfl
theorem hf26_24 : pi_fetch mc_26 24 = some (.iconst (-1), 1) := rfl
theorem hf26_25 : pi_fetch mc_26 25 = some (.invokestatic 121, 3) := rfl
theorem hf26_28 : pi_fetch mc_26 28 = some (.aload_n 0, 1) := rfl
theorem hf26_29 : pi_fetch mc_26 29 = some (.getfield 9, 3) := rfl
theorem hf26_32 : pi_fetch mc_26 32 = some (.iconst 1, 1) := rfl
theorem hf26_33 : pi_fetch mc_26 33 = some (.bipush 30, 2) := rfl
theorem hf26_35 : pi_fetch mc_26 35 = some (.invokevirtual 125, 3) := rfl
theorem hf26_38 : pi_fetch mc_26 38 = some (.istore_n 2, 1) := rfl
theorem hf26_39 : pi_fetch mc_26 39 = some (.aload_n 0, 1) := rfl
theorem hf26_40 : pi_fetch mc_26 40 = some (.getfield 15, 3) := rfl
theorem hf26_43 : pi_fetch mc_26 43 = some (.getfield 84, 3) := rfl
theorem hf26_46 : pi_fetch mc_26 46 = some (.bipush 26, 2) := rfl
theorem hf26_48 : pi_fetch mc_26 48 = some (.iload_n 1, 1) := rfl
theorem hf26_49 : pi_fetch mc_26 49 = some (.iadd, 1) := rfl
theorem hf26_50 : pi_fetch mc_26 50 = some (.iload_n 2, 1) := rfl
theorem hf26_51 : pi_fetch mc_26 51 = some (.invokestatic 121, 3) := rfl
theorem hf26_54 : pi_fetch mc_26 54 = some (.iload_n 2, 1) := rfl
theorem hf26_55 : pi_fetch mc_26 55 = some (.iconst (-1), 1) := rfl
theorem hf26_56 : pi_fetch mc_26 56 = some (.if_icmp .eq 7, 3) := rfl
theorem hf26_59 : pi_fetch mc_26 59 = some (.iconst 1, 1) := rfl
theorem hf26_60 : pi_fetch mc_26 60 = some (.goto 4, 3) := rfl
theorem hf26_63 : pi_fetch mc_26 63 = some (.iconst 0, 1) := rfl
theorem hf26_64 : pi_fetch mc_26 64 = some (.ireturn, 1) := rfl
theorem hm_26 : ((Int8.ofInt 26).toInt32) = Int32.ofNat 26 := by decide
theorem hm_38 : ((Int8.ofInt 38).toInt32) = Int32.ofNat 38 := by decide
theorem nt_len {NT : List nt_E} (h : ∀ e ∈ NT, e.1 = 0 ∨ e.1 = 2 ∨ e.1 = 3 ∨ e.1 = 4) : NT.length = nt_c 0 NT + nt_c 2 NT + nt_c 3 NT + nt_c 4 NT := by
  induction NT with
  | nil => rfl
  | cons e l ih =>
    have i := ih (fun x hx => h x (List.mem_cons_of_mem _ hx))
    unfold nt_c at *
    simp only [List.countP_cons, List.length_cons]
    rcases h e List.mem_cons_self with q | q | q | q <;> (simp [q]; omega)
theorem ld_u_id {A : ld_A} {c k : Nat} {x : Int32} (h : A c k = x) : ld_u A c k x = A := by
  funext c' k'
  unfold ld_u
  split
  · rename_i q
    rw [q.1, q.2, h]
  · rfl
theorem cl_head {d B M : Nat} {tp : Nat → Nat} {w : pi_W} {σ : ls_S} (hO : CO tp B M w σ) (hI : ls_I σ) (hc6 : nt_c 3 σ.2.2.2 < 6) : hq_F (d + 4) sm26 (cl_P tp B M (ls_head tp B M σ) w) (0, lv_args 0 [.ref 10], [], w) := by
  obtain ⟨t, A, nr, NT⟩ := σ
  obtain ⟨h, hL⟩ := hO
  obtain ⟨ho, ⟨m0, m2, m3, m4⟩, mr, i3, i7⟩ := hI
  dsimp only at *
  have hcn := hL.2.1
  have hlen := nt_len (fun e he => (ho.1 e he).2.1)
  have hl27 : NT.length < 27 := by omega
  have tl : (Int32.ofNat (nt_c 3 NT)).toInt = (nt_c 3 NT : Int) := hn_t (by omega)
  have g0 : pi_get (lv_args 0 [.ref 10]) 0 = some (.ref 10) := rfl
  have kc0 : (((Int8.ofInt 26).toInt32)).toInt = 26 := by decide
  have kc1 : (((Int8.ofInt 30).toInt32)).toInt = 30 := by decide
  have kc2 : (((Int8.ofInt 38).toInt32)).toInt = 38 := by decide
  have kc3 : ((-1 : Int32)).toInt = (-1) := by decide
  have kc4 : ((0 : Int32)).toInt = 0 := by decide
  have kc5 : ((1 : Int32)).toInt = 1 := by decide
  have kc6 : ((Int32.ofInt (-1))).toInt = (-1) := by decide
  have kc7 : ((Int32.ofInt 0)).toInt = 0 := by decide
  have kc8 : ((Int32.ofInt 1)).toInt = 1 := by decide
  have kc9 : ((Int32.ofInt 3)).toInt = 3 := by decide
  have kz := sy_z0
  refine hq_F.st (s' := (1, _, _, _)) hf26_0 rfl rfl rfl (hs_al g0) ?_
  refine hq_F.st (s' := (2, _, _, _)) hf26_1 rfl rfl rfl rfl ?_
  refine hq_F.call hf26_2 rfl rfl si_3_49 (by decide) (by decide) sz_24 (sy_argsV h.1 sh_10 rfl rfl rfl (Nat.le_of_ble_eq_true rfl) rfl (Nat.le_of_ble_eq_true rfl) rfl (by decide)) (cl_nn3 (d := d) h hL.1 ho (hcn 3 (by omega)) hc6 hl27) (fun r w' q => by rcases q with ⟨_, _, _, q, _⟩ | ⟨_, q, _⟩; rw [q.1.1, h.1.1]; rw [q.1.1, h.1.1]) ?_
  rintro r2 w1 q
  try dsimp only
  rcases q with ⟨rfl, n1, f1, h1, N1, F1, e1⟩ | ⟨rfl, h1, F1, q⟩
  · skip
    refine hq_F.st (s' := (6, _, _, _)) hf26_5 rfl rfl rfl rfl ?_
    refine hq_F.st (s' := (7, _, _, _)) hf26_6 rfl rfl rfl (hs_iln (pi_get_set _ _ _)) ?_
    refine hq_F.st (s' := (8, _, _, _)) hf26_7 rfl rfl rfl rfl ?_
    refine hq_F.st (s' := (13, _, _, _)) hf26_8 rfl rfl rfl (hs_ic (ci_ne (by omega)) rfl) ?_
    refine hq_F.st (s' := (14, _, _, _)) hf26_13 rfl rfl rfl (hs_al (hg_nr g0 (by decide))) ?_
    refine hq_F.st (s' := (17, _, _, _)) hf26_14 rfl rfl rfl (hq_gf h1.1 sh_10 sk_3_15 (hq_ref h1.1 sh_10 (b := 7) rfl)) ?_
    refine hq_F.st (s' := (20, _, _, _)) hf26_17 rfl rfl rfl (hq_gf h1.1 sh_7 sk_3_84 (hq_ref h1.1 sh_7 (b := 8) rfl)) ?_
    refine hq_F.st (s' := (22, _, _, _)) hf26_20 rfl rfl rfl rfl ?_
    refine hq_F.st (s' := (23, _, _, _)) hf26_22 rfl rfl rfl (hs_iln (pi_get_set _ _ _)) ?_
    refine hq_F.st (s' := (24, _, _, _)) hf26_23 rfl rfl rfl rfl ?_
    refine hq_F.st (s' := (25, _, _, _)) hf26_24 rfl rfl rfl rfl ?_
    rw [hn_k (n := nt_c 3 NT) hm_38]
    refine hq_F.call hf26_25 rfl rfl si_3_121 (by decide) (by decide) sz_160 (sy_argsS rfl rfl rfl (Nat.le_of_ble_eq_true rfl) (by decide) rfl (Nat.le_of_ble_eq_true rfl) (by decide)) (ca_put h1.1 sh_8 (j := 38 + nt_c 3 NT) (by omega) (by omega) (fun q hq => by rw [sg_6 _ (by omega) (by omega)] at hq; cases hq; exact af_i32 _)) (fun _ _ q => by rw [q.2.1.1, h1.1.1]) ?_
    rintro r25 w2 ⟨rfl, hC2, hw2⟩
    try dsimp only
    have hT2 := h1.fr hC2 (wpF hw2) rfl
    have hL2 := hL.new3 hc6 N1 F1 e1 hw2
    refine hq_F.st (s' := (29, _, _, _)) hf26_28 rfl rfl rfl (hs_al (hg_nr g0 (by decide))) ?_
    refine hq_F.st (s' := (32, _, _, _)) hf26_29 rfl rfl rfl (hq_gf hC2 sh_10 sk_3_9 (hq_ref hC2 sh_10 (b := 1) rfl)) ?_
    refine hq_F.st (s' := (33, _, _, _)) hf26_32 rfl rfl rfl rfl ?_
    refine hq_F.st (s' := (35, _, _, _)) hf26_33 rfl rfl rfl rfl ?_
    refine hq_F.call hf26_35 rfl rfl si_3_125 (by decide) (by decide) sz_106 (sy_argsV hC2 sh_1 rfl rfl rfl (Nat.le_of_ble_eq_true rfl) rfl (Nat.le_of_ble_eq_true rfl) rfl (by decide)) (ct_num (d := d) hT2 (Int32.ofInt 1) ((Int8.ofInt 30).toInt32)) (fun r w' q => by rcases q with ⟨_, _, _, _, _, q, _⟩ | ⟨_, q, _⟩; rw [q.1.1, hC2.1]; rw [q.1.1, hC2.1]) ?_
    rintro r35 w3 q
    try dsimp only
    rcases q with ⟨v3, rfl, e3, n3, r3, h3, F3⟩ | ⟨rfl, h3, F3, r3, q⟩
    · skip
      refine hq_F.st (s' := (39, _, _, _)) hf26_38 rfl rfl rfl rfl ?_
      refine hq_F.st (s' := (40, _, _, _)) hf26_39 rfl rfl rfl (hs_al (hg_nr (hg_nr g0 (by decide)) (by decide))) ?_
      refine hq_F.st (s' := (43, _, _, _)) hf26_40 rfl rfl rfl (hq_gf h3.1 sh_10 sk_3_15 (hq_ref h3.1 sh_10 (b := 7) rfl)) ?_
      refine hq_F.st (s' := (46, _, _, _)) hf26_43 rfl rfl rfl (hq_gf h3.1 sh_7 sk_3_84 (hq_ref h3.1 sh_7 (b := 8) rfl)) ?_
      refine hq_F.st (s' := (48, _, _, _)) hf26_46 rfl rfl rfl rfl ?_
      refine hq_F.st (s' := (49, _, _, _)) hf26_48 rfl rfl rfl (hs_iln (hg_ne (pi_get_set _ _ _) (by decide))) ?_
      refine hq_F.st (s' := (50, _, _, _)) hf26_49 rfl rfl rfl rfl ?_
      refine hq_F.st (s' := (51, _, _, _)) hf26_50 rfl rfl rfl (hs_iln (pi_get_set _ _ _)) ?_
      rw [hn_k (n := nt_c 3 NT) hm_26]
      refine hq_F.call hf26_51 rfl rfl si_3_121 (by decide) (by decide) sz_160 (sy_argsS rfl rfl rfl (Nat.le_of_ble_eq_true rfl) (by decide) rfl (Nat.le_of_ble_eq_true rfl) (by decide)) (ca_put h3.1 sh_8 (j := 26 + nt_c 3 NT) (by omega) (by omega) (fun q hq => by rw [sg_6 _ (by omega) (by omega)] at hq; cases hq; exact af_i32 _)) (fun _ _ q => by rw [q.2.1.1, h3.1.1]) ?_
      rintro r51 w4 ⟨rfl, hC4, hw4⟩
      try dsimp only
      refine hq_F.st (s' := (55, _, _, _)) hf26_54 rfl rfl rfl (hs_iln (pi_get_set _ _ _)) ?_
      refine hq_F.st (s' := (56, _, _, _)) hf26_55 rfl rfl rfl rfl ?_
      refine hq_F.st (s' := (59, _, _, _)) hf26_56 rfl rfl rfl (hs_icn (t := 63) (ci_eqn (by omega)) rfl) ?_
      refine hq_F.st (s' := (60, _, _, _)) hf26_59 rfl rfl rfl rfl ?_
      refine hq_F.st (s' := (64, _, _, _)) hf26_60 rfl rfl rfl rfl ?_
      refine hq_F.en hf26_64 rfl rfl ?_
      have hv3 : v3 = Int32.ofNat (tq_nx tp B M t).2.2.1 := hn_e e3 (by omega)
      have hL4 := (hL2.fr F3 (by decide) (by decide)).put (by decide) (c0 := 2) (k0 := nt_c 3 NT) (x := v3) (by decide) (by show nt_c 3 NT < 6; omega) hw4 rfl
      have hid : ld_u (ld_u (ld_u A 4 (nt_c 3 NT) 0) 2 (nt_c 3 NT) v3) 3 (nt_c 3 NT) 0 = ld_u (ld_u A 4 (nt_c 3 NT) 0) 2 (nt_c 3 NT) v3 := ld_u_id (by unfold ld_u; rw [if_neg (fun q => absurd q.1 (by decide)), if_neg (fun q => absurd q.1 (by decide))]; exact i3 _ (Nat.le_refl _))
      exact ⟨hC4, (F1.cov (by decide)).tr ((cl_w8 hw2 (by omega)).tr ((F3.cov (by decide)).tr (cl_w8 hw4 (by omega)))), Or.inl ⟨rfl, (tq_nx tp B M (tq_nx tp B M t), ld_u (ld_u (ld_u A 4 (nt_c 3 NT) 0) 2 (nt_c 3 NT) v3) 3 (nt_c 3 NT) 0, nr, NT ++ [(3, nt_c 3 NT, t.2.2.2.1)]), by show ls_b (ls_new tp B M 3 (t, A, nr, NT)) _ = _; rw [ls_new_in n1 f1, ls_br]; show ls_b (ls_numb 1 30 (tq_nx tp B M t)) _ = _; rw [show ls_numb 1 30 (tq_nx tp B M t) = .inr (tq_nx tp B M t).2.2.1 from if_pos ⟨n3, by omega, by omega⟩, ls_br]; rw [hv3], h3.fr hC4 (wpF hw4) rfl, by show CL w4 8 9 (ld_u (ld_u (ld_u A 4 (nt_c 3 NT) 0) 2 (nt_c 3 NT) v3) 3 (nt_c 3 NT) 0) nr _; rw [hid]; exact hL4⟩⟩
    · skip
      refine hq_F.st (s' := (39, _, _, _)) hf26_38 rfl rfl rfl rfl ?_
      refine hq_F.st (s' := (40, _, _, _)) hf26_39 rfl rfl rfl (hs_al (hg_nr (hg_nr g0 (by decide)) (by decide))) ?_
      refine hq_F.st (s' := (43, _, _, _)) hf26_40 rfl rfl rfl (hq_gf h3.1 sh_10 sk_3_15 (hq_ref h3.1 sh_10 (b := 7) rfl)) ?_
      refine hq_F.st (s' := (46, _, _, _)) hf26_43 rfl rfl rfl (hq_gf h3.1 sh_7 sk_3_84 (hq_ref h3.1 sh_7 (b := 8) rfl)) ?_
      refine hq_F.st (s' := (48, _, _, _)) hf26_46 rfl rfl rfl rfl ?_
      refine hq_F.st (s' := (49, _, _, _)) hf26_48 rfl rfl rfl (hs_iln (hg_ne (pi_get_set _ _ _) (by decide))) ?_
      refine hq_F.st (s' := (50, _, _, _)) hf26_49 rfl rfl rfl rfl ?_
      refine hq_F.st (s' := (51, _, _, _)) hf26_50 rfl rfl rfl (hs_iln (pi_get_set _ _ _)) ?_
      rw [hn_k (n := nt_c 3 NT) hm_26]
      refine hq_F.call hf26_51 rfl rfl si_3_121 (by decide) (by decide) sz_160 (sy_argsS rfl rfl rfl (Nat.le_of_ble_eq_true rfl) (by decide) rfl (Nat.le_of_ble_eq_true rfl) (by decide)) (ca_put h3.1 sh_8 (j := 26 + nt_c 3 NT) (by omega) (by omega) (fun q hq => by rw [sg_6 _ (by omega) (by omega)] at hq; cases hq; exact af_i32 _)) (fun _ _ q => by rw [q.2.1.1, h3.1.1]) ?_
      rintro r51 w4 ⟨rfl, hC4, hw4⟩
      try dsimp only
      refine hq_F.st (s' := (55, _, _, _)) hf26_54 rfl rfl rfl (hs_iln (pi_get_set _ _ _)) ?_
      refine hq_F.st (s' := (56, _, _, _)) hf26_55 rfl rfl rfl rfl ?_
      refine hq_F.st (s' := (63, _, _, _)) hf26_56 rfl rfl rfl (hs_ic (ci_eq (by omega)) rfl) ?_
      refine hq_F.st (s' := (64, _, _, _)) hf26_63 rfl rfl rfl rfl ?_
      refine hq_F.en hf26_64 rfl rfl ?_
      exact ⟨hC4, (F1.cov (by decide)).tr ((cl_w8 hw2 (by omega)).tr ((F3.cov (by decide)).tr (cl_w8 hw4 (by omega)))), Or.inr ⟨rfl, (if (tq_nx tp B M t).1 = 3 then 2 else 1), (tq_nx tp B M t).2.1, by show ls_b (ls_new tp B M 3 (t, A, nr, NT)) _ = _; rw [ls_new_in n1 f1, ls_br]; show ls_b (ls_numb 1 30 (tq_nx tp B M t)) _ = _; rw [show ls_numb 1 30 (tq_nx tp B M t) = .inl (if (tq_nx tp B M t).1 = 3 then 2 else 1, (tq_nx tp B M t).2.1) from if_neg (fun q => r3 ⟨q.1, by omega, by omega⟩)]; rfl, by rw [wpv hw4, if_neg (by omega)]; exact q.1, by rw [wpv hw4, if_neg (by omega)]; exact q.2⟩⟩
  · skip
    refine hq_F.st (s' := (6, _, _, _)) hf26_5 rfl rfl rfl rfl ?_
    refine hq_F.st (s' := (7, _, _, _)) hf26_6 rfl rfl rfl (hs_iln (pi_get_set _ _ _)) ?_
    refine hq_F.st (s' := (8, _, _, _)) hf26_7 rfl rfl rfl rfl ?_
    refine hq_F.st (s' := (11, _, _, _)) hf26_8 rfl rfl rfl (hs_icn (t := 13) (ci_nen (by omega)) rfl) ?_
    refine hq_F.st (s' := (12, _, _, _)) hf26_11 rfl rfl rfl rfl ?_
    refine hq_F.en hf26_12 rfl rfl ?_
    rcases q with ⟨q1, q2⟩ | ⟨q1, q2, q3⟩
    · exact ⟨h1.1, F1.cov (by decide), Or.inr ⟨rfl, 1, t.2.1, by show ls_b (ls_new tp B M 3 (t, A, nr, NT)) _ = _; rw [ls_new_1 q1]; rfl, q2⟩⟩
    · exact ⟨h1.1, F1.cov (by decide), Or.inr ⟨rfl, 3, t.2.1, by show ls_b (ls_new tp B M 3 (t, A, nr, NT)) _ = _; rw [ls_new_3 q1 q2]; rfl, q3⟩⟩
