/-! ===== readMan, readRound in the class; by program ===== -/
theorem si_3_135 : pi_look pi_iT 3 135 = some (2, 32, 1, 608) := rfl
def sm30 : pi_M := (3, 4, (some .boolean), false, mc_30)
def sm31 : pi_M := (3, 3, (some .boolean), false, mc_31)
set_option maxRecDepth 100000 in
theorem sz_30 : pi_mt[30]? = some (mn_30, prog_5_method_11_code, (3, 4, (some .boolean), false, mc_30)) := rfl
set_option maxRecDepth 100000 in
theorem sz_31 : pi_mt[31]? = some (mn_31, prog_5_method_12_code, (3, 3, (some .boolean), false, mc_31)) := rfl
theorem hf30_0 : pi_fetch mc_30 0 = some (.aload_n 0, 1) := rfl
theorem hf30_1 : pi_fetch mc_30 1 = some (.iconst 4, 1) := rfl
theorem hf30_2 : pi_fetch mc_30 2 = some (.invokevirtual 49, 3) := rfl
theorem hf30_5 : pi_fetch mc_30 5 = some (.istore_n 1, 1) := rfl
theorem hf30_6 : pi_fetch mc_30 6 = some (.iload_n 1, 1) := rfl
theorem hf30_7 : pi_fetch mc_30 7 = some (.iconst (-1), 1) := rfl
theorem hf30_8 : pi_fetch mc_30 8 = some (.if_icmp .ne 5, 3) := rfl
theorem hf30_11 : pi_fetch mc_30 11 = some (.iconst 0, 1) := rfl
theorem hf30_12 : pi_fetch mc_30 12 = some (.ireturn, 1) := rfl
theorem hf30_13 : pi_fetch mc_30 13 = some (.aload_n 0, 1) := rfl
theorem hf30_14 : pi_fetch mc_30 14 = some (.getfield 9, 3) := rfl
theorem hf30_17 : pi_fetch mc_30 17 = some (.aload_n 0, 1) := rfl
theorem hf30_18 : pi_fetch mc_30 18 = some (.getfield 15, 3) := rfl
theorem hf30_21 : pi_fetch mc_30 21 = some (.iconst 0, 1) := rfl
theorem hf30_22 : pi_fetch mc_30 22 = some (.invokevirtual 107, 3) := rfl
theorem hf30_25 : pi_fetch mc_30 25 = some (.istore_n 2, 1) := rfl
theorem hf30_26 : pi_fetch mc_30 26 = some (.iload_n 2, 1) := rfl
theorem hf30_27 : pi_fetch mc_30 27 = some (.iconst (-1), 1) := rfl
theorem hf30_28 : pi_fetch mc_30 28 = some (.if_icmp .ne 5, 3) := rfl
theorem hf30_31 : pi_fetch mc_30 31 = some (.iconst 0, 1) := rfl
theorem hf30_32 : pi_fetch mc_30 32 = some (.ireturn, 1) := rfl
theorem hf30_33 : pi_fetch mc_30 33 = some (.aload_n 0, 1) := rfl
theorem hf30_34 : pi_fetch mc_30 34 = some (.getfield 9, 3) := rfl
theorem hf30_37 : pi_fetch mc_30 37 = some (.iconst 0, 1) := rfl
theorem hf30_38 : pi_fetch mc_30 38 = some (.bipush 9, 2) := rfl
theorem hf30_40 : pi_fetch mc_30 40 = some (.invokevirtual 125, 3) := rfl
theorem hf30_43 : pi_fetch mc_30 43 = some (.istore_n 3, 1) := rfl
theorem hf30_44 : pi_fetch mc_30 44 = some (.iload_n 3, 1) := rfl
theorem hf30_45 : pi_fetch mc_30 45 = some (.iconst (-1), 1) := rfl
theorem hf30_46 : pi_fetch mc_30 46 = some (.if_icmp .ne 5, 3) := rfl
theorem hf30_49 : pi_fetch mc_30 49 = some (.iconst 0, 1) := rfl
theorem hf30_50 : pi_fetch mc_30 50 = some (.ireturn, 1) := rfl
theorem hf30_51 : pi_fetch mc_30 51 = some (.aload_n 0, 1) := rfl
theorem hf30_52 : pi_fetch mc_30 52 = some (.getfield 15, 3) := rfl
theorem hf30_55 : pi_fetch mc_30 55 = some (.getfield 84, 3) := rfl
theorem hf30_58 : pi_fetch mc_30 58 = some (.bipush 44, 2) := rfl
theorem hf30_60 : pi_fetch mc_30 60 = some (.iload_n 1, 1) := rfl
theorem hf30_61 : pi_fetch mc_30 61 = some (.iadd, 1) := rfl
theorem hf30_62 : pi_fetch mc_30 62 = some (.iload_n 2, 1) := rfl
theorem hf30_63 : pi_fetch mc_30 63 = some (.invokestatic 121, 3) := rfl
theorem hf30_66 : pi_fetch mc_30 66 = some (.aload_n 0, 1) := rfl
theorem hf30_67 : pi_fetch mc_30 67 = some (.getfield 15, 3) := rfl
theorem hf30_70 : pi_fetch mc_30 70 = some (.getfield 84, 3) := rfl
theorem hf30_73 : pi_fetch mc_30 73 = some (.bipush 50, 2) := rfl
theorem hf30_75 : pi_fetch mc_30 75 = some (.iload_n 1, 1) := rfl
theorem hf30_76 : pi_fetch mc_30 76 = some (.iadd, 1) := rfl
theorem hf30_77 : pi_fetch mc_30 77 = some (.iload_n 3, 1) := rfl
theorem hf30_78 : pi_fetch mc_30 78 = some (.invokestatic 121, 3) := rfl
theorem hf30_81 : pi_fetch mc_30 81 = some (.aload_n 0, 1) := rfl
theorem hf30_82 : pi_fetch mc_30 82 = some (.getfield 15, 3) := rfl
theorem hf30_85 : pi_fetch mc_30 85 = some (.getfield 84, 3) := rfl
theorem hf30_88 : pi_fetch mc_30 88 = some (.bipush 56, 2) := rfl
theorem hf30_90 : pi_fetch mc_30 90 = some (.iload_n 1, 1) := rfl
theorem hf30_91 : pi_fetch mc_30 91 = some (.iadd, 1) := rfl
theorem hf30_92 : pi_fetch mc_30 92 = some (.iconst (-1), 1) := rfl
theorem hf30_93 : pi_fetch mc_30 93 = some (.invokestatic 121, 3) := rfl
theorem hf30_96 : pi_fetch mc_30 96 = some (.iconst 1, 1) := rfl
theorem hf30_97 : pi_fetch mc_30 97 = some (.ireturn, 1) := rfl
theorem hf31_0 : pi_fetch mc_31 0 = some (.aload_n 0, 1) := rfl
theorem hf31_1 : pi_fetch mc_31 1 = some (.getfield 9, 3) := rfl
theorem hf31_4 : pi_fetch mc_31 4 = some (.aload_n 0, 1) := rfl
theorem hf31_5 : pi_fetch mc_31 5 = some (.getfield 15, 3) := rfl
theorem hf31_8 : pi_fetch mc_31 8 = some (.iconst 4, 1) := rfl
theorem hf31_9 : pi_fetch mc_31 9 = some (.invokevirtual 111, 3) := rfl
theorem hf31_12 : pi_fetch mc_31 12 = some (.istore_n 1, 1) := rfl
theorem hf31_13 : pi_fetch mc_31 13 = some (.iload_n 1, 1) := rfl
theorem hf31_14 : pi_fetch mc_31 14 = some (.iconst (-1), 1) := rfl
theorem hf31_15 : pi_fetch mc_31 15 = some (.if_icmp .ne 5, 3) := rfl
theorem hf31_18 : pi_fetch mc_31 18 = some (.iconst 0, 1) := rfl
theorem hf31_19 : pi_fetch mc_31 19 = some (.ireturn, 1) := rfl
theorem hf31_20 : pi_fetch mc_31 20 = some (.aload_n 0, 1) := rfl
theorem hf31_21 : pi_fetch mc_31 21 = some (.getfield 15, 3) := rfl
theorem hf31_24 : pi_fetch mc_31 24 = some (.getfield 84, 3) := rfl
theorem hf31_27 : pi_fetch mc_31 27 = some (.bipush 62, 2) := rfl
theorem hf31_29 : pi_fetch mc_31 29 = some (.iload_n 1, 1) := rfl
theorem hf31_30 : pi_fetch mc_31 30 = some (.iadd, 1) := rfl
theorem hf31_31 : pi_fetch mc_31 31 = some (.invokestatic 88, 3) := rfl
theorem hf31_34 : pi_fetch mc_31 34 = some (.ifCond .le 12, 3) := rfl
theorem hf31_37 : pi_fetch mc_31 37 = some (.aload_n 0, 1) := rfl
theorem hf31_38 : pi_fetch mc_31 38 = some (.getfield 9, 3) := rfl
theorem hf31_41 : pi_fetch mc_31 41 = some (.iconst 3, 1) := rfl
theorem hf31_42 : pi_fetch mc_31 42 = some (.invokevirtual 80, 3) := rfl
theorem hf31_45 : pi_fetch mc_31 45 = some (.ireturn, 1) := rfl
theorem hf31_46 : pi_fetch mc_31 46 = some (.aload_n 0, 1) := rfl
theorem hf31_47 : pi_fetch mc_31 47 = some (.getfield 9, 3) := rfl
theorem hf31_50 : pi_fetch mc_31 50 = some (.invokevirtual 68, 3) := rfl
theorem hf31_53 : pi_fetch mc_31 53 = some (.aload_n 0, 1) := rfl
theorem hf31_54 : pi_fetch mc_31 54 = some (.iload_n 1, 1) := rfl
theorem hf31_55 : pi_fetch mc_31 55 = some (.invokevirtual 135, 3) := rfl
theorem hf31_58 : pi_fetch mc_31 58 = some (.ifCond .ne 5, 3) := rfl
theorem hf31_61 : pi_fetch mc_31 61 = some (.iconst 0, 1) := rfl
theorem hf31_62 : pi_fetch mc_31 62 = some (.ireturn, 1) := rfl
theorem hf31_63 : pi_fetch mc_31 63 = some (.iconst 0, 1) := rfl
theorem hf31_64 : pi_fetch mc_31 64 = some (.istore_n 2, 1) := rfl
theorem hf31_65 : pi_fetch mc_31 65 = some (.iload_n 2, 1) := rfl
theorem hf31_66 : pi_fetch mc_31 66 = some (.bipush 8, 2) := rfl
theorem hf31_68 : pi_fetch mc_31 68 = some (.if_icmp .gt 31, 3) := rfl
theorem hf31_71 : pi_fetch mc_31 71 = some (.aload_n 0, 1) := rfl
theorem hf31_72 : pi_fetch mc_31 72 = some (.getfield 9, 3) := rfl
theorem hf31_75 : pi_fetch mc_31 75 = some (.bipush 59, 2) := rfl
theorem hf31_77 : pi_fetch mc_31 77 = some (.invokevirtual 132, 3) := rfl
theorem hf31_80 : pi_fetch mc_31 80 = some (.ifCond .ne 19, 3) := rfl
theorem hf31_83 : pi_fetch mc_31 83 = some (.aload_n 0, 1) := rfl
theorem hf31_84 : pi_fetch mc_31 84 = some (.iload_n 1, 1) := rfl
theorem hf31_85 : pi_fetch mc_31 85 = some (.invokevirtual 135, 3) := rfl
theorem hf31_88 : pi_fetch mc_31 88 = some (.ifCond .ne 5, 3) := rfl
theorem hf31_91 : pi_fetch mc_31 91 = some (.iconst 0, 1) := rfl
theorem hf31_92 : pi_fetch mc_31 92 = some (.ireturn, 1) := rfl
theorem hf31_93 : pi_fetch mc_31 93 = some (.iinc 2 1, 3) := rfl
theorem hf31_96 : pi_fetch mc_31 96 = some (.goto (-31), 3) := rfl
theorem hf31_99 : pi_fetch mc_31 99 = some (.iconst 1, 1) := rfl
theorem hf31_100 : pi_fetch mc_31 100 = some (.ireturn, 1) := rfl
theorem hm_44 : ((Int8.ofInt 44).toInt32) = Int32.ofNat 44 := by decide
theorem hm_50 : ((Int8.ofInt 50).toInt32) = Int32.ofNat 50 := by decide
/-- CL with LAWS and MEN told apart -/
def CLx (w : pi_W) (fa na : Nat) (A : ld_A) (nr : Nat) (NT : List nt_E) (nl nm : Nat) : Prop := NC w fa na NT ∧ (∀ s, s = 0 ∨ s = 2 ∨ s = 3 ∨ s = 4 → (gv w fa s).toInt = (nt_c s NT : Int)) ∧ (gv w fa 1).toInt = (nr : Int) ∧ CR w fa A nl nm
theorem CLx.fr {w w' : pi_W} {fa na : Nat} {A : ld_A} {nr nl nm : Nat} {NT : List nt_E} {N : af_M} (h : CLx w fa na A nr NT nl nm) (hF : af_Fr N w w') (h1 : ∀ e ∈ N, e.1 ≠ fa) (h2 : ∀ e ∈ N, e.1 ≠ na) : CLx w' fa na A nr NT nl nm := by
  obtain ⟨a, b, c, d⟩ := h
  refine ⟨a.fr hF h1 h2, fun s hs => by rw [gv_eq (hq_cell hF h1)]; exact b s hs, by rw [gv_eq (hq_cell hF h1)]; exact c, fun c' k q1 q2 q3 q4 => ?_⟩
  rw [gv_eq (hq_cell hF h1)]
  exact d c' k q1 q2 q3 q4
theorem CLx.put {w w' : pi_W} {fa na : Nat} {A : ld_A} {nr nl nm : Nat} {NT : List nt_E} {c0 k0 : Nat} {x v : Int32} (h : CLx w fa na A nr NT nl nm) (hne : fa ≠ na) (hc : c0 < 10) (hk : k0 < ld_n c0) (hw : wr1 w fa (ld_c c0 + k0) (.int v) w') (hv : v = ld_v c0 x) : CLx w' fa na (ld_u A c0 k0 x) nr NT nl nm := by
  obtain ⟨a, b, c, d⟩ := h
  have hr := ld_cr c0 hc k0 (Nat.lt_of_lt_of_le hk (ld_n48 c0)) hk
  have hcov : ∀ j, j ≠ ld_c c0 + k0 → af_cov [(fa, ld_c c0 + k0, ld_c c0 + k0 + 1)] fa j j = false := fun j hj => by
    rw [← Bool.not_eq_true, hq_cov1]
    exact fun q => hj q.2
  refine ⟨a.fr2 (wpF hw) (hcov 5 (by omega)) (fun j h1 h2 => hcov j (by omega)) (fun e he => by rw [List.mem_singleton.mp he]; exact hne), fun s hs => ?_, ?_, d.put hc hk hw hv⟩
  · rw [wpv hw, if_neg (by omega)]
    exact b s hs
  · rw [wpv hw, if_neg (by omega)]
    exact c
theorem CLx.man {w w2 : pi_W} {A : ld_A} {nr : Nat} {NT : List nt_E} {u : List Nat} (h : CLx w 8 9 A nr (NT ++ [(4, nt_c 4 NT, u)]) (nt_c 3 NT) (nt_c 4 NT)) (h6 : nt_c 4 NT < 6) (hw : wr1 w 8 (56 + nt_c 4 NT) (.int (Int32.ofInt (-1))) w2) : CL w2 8 9 (ld_u A 7 (nt_c 4 NT) 0) nr (NT ++ [(4, nt_c 4 NT, u)]) := by
  obtain ⟨hN, b, c, d⟩ := h
  have hcov : ∀ j, j ≠ 56 + nt_c 4 NT → af_cov [(8, 56 + nt_c 4 NT, 56 + nt_c 4 NT + 1)] 8 j j = false := fun j hj => by
    rw [← Bool.not_eq_true, hq_cov1]
    exact fun q => hj q.2
  refine ⟨hN.fr2 (wpF hw) (hcov 5 (by omega)) (fun j h1 h2 => hcov j (by omega)) (fun e he => by rw [List.mem_singleton.mp he]; show ¬ 8 = 9; decide), fun s hs => by rw [wpv hw, if_neg (by omega)]; exact b s hs, by rw [wpv hw, if_neg (by omega)]; exact c, ?_⟩
  intro c' k h1 h2 h3 h4
  rw [nt_c_app, if_neg (show ¬ 4 = 3 by decide)] at h3
  rw [nt_c_app, if_pos rfl] at h4
  rw [wpv hw]
  unfold ld_u
  by_cases e : c' = 7 ∧ k = nt_c 4 NT
  · obtain ⟨rfl, rfl⟩ := e
    rw [if_pos ⟨rfl, rfl⟩, if_pos ⟨rfl, rfl⟩]
    decide
  · rw [if_neg (fun q => e (ld_cinj (c0 := 7) (k0 := nt_c 4 NT) h1 h2 (by decide) (by show nt_c 4 NT < 6; omega) q.2)), if_neg e]
    exact d c' k h1 h2 h3 (fun q => by have := h4 q; have : ¬ k = nt_c 4 NT := fun q2 => e ⟨q, q2⟩; omega)
/-- a MAN behind his NAME -/
def ls_man2 (tp : Nat → Nat) (B M m : Nat) (σ : ls_S) : ls_R := ls_b (ls_look 0 σ.1 σ.2.2.2) (fun p => ls_b (ls_numb 0 9 (tq_nx tp B M σ.1)) (fun n => .inr (tq_nx tp B M (tq_nx tp B M σ.1), ld_u (ld_u (ld_u σ.2.1 5 m (Int32.ofNat p)) 6 m (Int32.ofNat n)) 7 m 0, σ.2.2)))
theorem ls_stop_nt {tp : Nat → Nat} {B M m n : Nat} {σ σ1 : ls_S} (h : ls_stop tp B M m n σ = .inr σ1) : σ1.2.2 = σ.2.2 ∧ n < 8 ∧ σ1.2.1 8 m = Int32.ofNat (n + 1) := by
  unfold ls_stop ls_b at h
  split at h
  · cases h
  · dsimp only at h
    split at h
    · cases h
    · cases h
      exact ⟨rfl, by omega, if_pos ⟨rfl, rfl⟩⟩
theorem cl_man {d B M : Nat} {tp : Nat → Nat} {w : pi_W} {σ : ls_S} (hO : CO tp B M w σ) (hI : ls_I σ) (hc6 : nt_c 4 σ.2.2.2 < 6) : hq_F (d + 4) sm30 (cl_P tp B M (ls_b (ls_new tp B M 4 σ) (ls_man2 tp B M (nt_c 4 σ.2.2.2))) w) (0, lv_args 0 [.ref 10], [], w) := by
  obtain ⟨t, A, nr, NT⟩ := σ
  obtain ⟨h, hL⟩ := hO
  obtain ⟨ho, ⟨m0, m2, m3, m4⟩, mr, i3, i7⟩ := hI
  dsimp only at *
  have hcn := hL.2.1
  have hlen := nt_len (fun e he => (ho.1 e he).2.1)
  have hl27 : NT.length < 27 := by omega
  have tl : (Int32.ofNat (nt_c 4 NT)).toInt = (nt_c 4 NT : Int) := hn_t (by omega)
  have g0 : pi_get (lv_args 0 [.ref 10]) 0 = some (.ref 10) := rfl
  have kc0 : (((Int8.ofInt 44).toInt32)).toInt = 44 := by decide
  have kc1 : (((Int8.ofInt 50).toInt32)).toInt = 50 := by decide
  have kc2 : (((Int8.ofInt 56).toInt32)).toInt = 56 := by decide
  have kc3 : (((Int8.ofInt 9).toInt32)).toInt = 9 := by decide
  have kc4 : ((-1 : Int32)).toInt = (-1) := by decide
  have kc5 : ((0 : Int32)).toInt = 0 := by decide
  have kc6 : ((1 : Int32)).toInt = 1 := by decide
  have kc7 : ((Int32.ofInt (-1))).toInt = (-1) := by decide
  have kc8 : ((Int32.ofInt 0)).toInt = 0 := by decide
  have kc9 : ((Int32.ofInt 1)).toInt = 1 := by decide
  have kc10 : ((Int32.ofInt 4)).toInt = 4 := by decide
  have kz := sy_z0
  refine hq_F.st (s' := (1, _, _, _)) hf30_0 rfl rfl rfl (hs_al g0) ?_
  refine hq_F.st (s' := (2, _, _, _)) hf30_1 rfl rfl rfl rfl ?_
  refine hq_F.call hf30_2 rfl rfl si_3_49 (by decide) (by decide) sz_24 (sy_argsV h.1 sh_10 rfl rfl rfl (Nat.le_of_ble_eq_true rfl) rfl (Nat.le_of_ble_eq_true rfl) rfl (by decide)) (cl_nn4 (d := d) h hL.1 ho (hcn 4 (by omega)) hc6 hl27) (fun r w' q => by rcases q with ⟨_, _, _, q, _⟩ | ⟨_, q, _⟩; rw [q.1.1, h.1.1]; rw [q.1.1, h.1.1]) ?_
  rintro r2 w1 q
  try dsimp only
  rcases q with ⟨rfl, n1, f1, h1, N1, F1, e1⟩ | ⟨rfl, h1, F1, q⟩
  · skip
    have ho2 : nt_ok (NT ++ [(4, nt_c 4 NT, t.2.2.2.1)]) := nt_ok_app ho (Or.inr (Or.inr (Or.inr rfl))) (h.2.2.2.2.2.2.2 n1.1) f1
    have c02 : nt_c 0 (NT ++ [(4, nt_c 4 NT, t.2.2.2.1)]) ≤ 10 := by rw [nt_c_app, if_neg (show ¬ 4 = 0 by decide)]; omega
    have hX1 : CLx w1 8 9 A nr (NT ++ [(4, nt_c 4 NT, t.2.2.2.1)]) (nt_c 3 NT) (nt_c 4 NT) := ⟨N1, hL.new (s := 4) (u := t.2.2.2.1) (by omega) F1 e1⟩
    refine hq_F.st (s' := (6, _, _, _)) hf30_5 rfl rfl rfl rfl ?_
    refine hq_F.st (s' := (7, _, _, _)) hf30_6 rfl rfl rfl (hs_iln (pi_get_set _ _ _)) ?_
    refine hq_F.st (s' := (8, _, _, _)) hf30_7 rfl rfl rfl rfl ?_
    refine hq_F.st (s' := (13, _, _, _)) hf30_8 rfl rfl rfl (hs_ic (ci_ne (by omega)) rfl) ?_
    refine hq_F.st (s' := (14, _, _, _)) hf30_13 rfl rfl rfl (hs_al (hg_nr g0 (by decide))) ?_
    refine hq_F.st (s' := (17, _, _, _)) hf30_14 rfl rfl rfl (hq_gf h1.1 sh_10 sk_3_9 (hq_ref h1.1 sh_10 (b := 1) rfl)) ?_
    refine hq_F.st (s' := (18, _, _, _)) hf30_17 rfl rfl rfl (hs_al (hg_nr g0 (by decide))) ?_
    refine hq_F.st (s' := (21, _, _, _)) hf30_18 rfl rfl rfl (hq_gf h1.1 sh_10 sk_3_15 (hq_ref h1.1 sh_10 (b := 7) rfl)) ?_
    refine hq_F.st (s' := (22, _, _, _)) hf30_21 rfl rfl rfl rfl ?_
    refine hq_F.call hf30_22 rfl rfl si_3_107 (by decide) (by decide) sz_109 (sy_argsV h1.1 sh_1 rfl rfl rfl (Nat.le_of_ble_eq_true rfl) rfl (Nat.le_of_ble_eq_true rfl) rfl (by decide)) (cn_tk_s (d := d) (s := 0) h1 N1 ho2 (by decide)) (fun r w' q => by rcases q with ⟨_, _, _, _, _, q, _⟩ | ⟨_, q, _⟩; rw [q.1.1, h1.1.1]; rw [q.1.1, h1.1.1]) ?_
    rintro r22 w2 q
    try dsimp only
    rcases q with ⟨v2, rfl, n2, e2, f2, h2, F2⟩ | ⟨rfl, h2, F2, q⟩
    · obtain ⟨a, ha, rfl, la⟩ := ls_look_in ho2 c02 n2 e2 f2
      have ta : (Int32.ofNat a).toInt = (a : Int) := hn_t (by omega)
      have ha : a < 10 := by omega
      refine hq_F.st (s' := (26, _, _, _)) hf30_25 rfl rfl rfl rfl ?_
      refine hq_F.st (s' := (27, _, _, _)) hf30_26 rfl rfl rfl (hs_iln (pi_get_set _ _ _)) ?_
      refine hq_F.st (s' := (28, _, _, _)) hf30_27 rfl rfl rfl rfl ?_
      refine hq_F.st (s' := (33, _, _, _)) hf30_28 rfl rfl rfl (hs_ic (ci_ne (by omega)) rfl) ?_
      refine hq_F.st (s' := (34, _, _, _)) hf30_33 rfl rfl rfl (hs_al (hg_nr (hg_nr g0 (by decide)) (by decide))) ?_
      refine hq_F.st (s' := (37, _, _, _)) hf30_34 rfl rfl rfl (hq_gf h2.1 sh_10 sk_3_9 (hq_ref h2.1 sh_10 (b := 1) rfl)) ?_
      refine hq_F.st (s' := (38, _, _, _)) hf30_37 rfl rfl rfl rfl ?_
      refine hq_F.st (s' := (40, _, _, _)) hf30_38 rfl rfl rfl rfl ?_
      refine hq_F.call hf30_40 rfl rfl si_3_125 (by decide) (by decide) sz_106 (sy_argsV h2.1 sh_1 rfl rfl rfl (Nat.le_of_ble_eq_true rfl) rfl (Nat.le_of_ble_eq_true rfl) rfl (by decide)) (ct_num (d := d) h2 (Int32.ofInt 0) ((Int8.ofInt 9).toInt32)) (fun r w' q => by rcases q with ⟨_, _, _, _, _, q, _⟩ | ⟨_, q, _⟩; rw [q.1.1, h2.1.1]; rw [q.1.1, h2.1.1]) ?_
      rintro r40 w3 q
      try dsimp only
      rcases q with ⟨v3, rfl, e3, n3, r3, h3, F3⟩ | ⟨rfl, h3, F3, r3, q⟩
      · skip
        refine hq_F.st (s' := (44, _, _, _)) hf30_43 rfl rfl rfl rfl ?_
        refine hq_F.st (s' := (45, _, _, _)) hf30_44 rfl rfl rfl (hs_iln (pi_get_set _ _ _)) ?_
        refine hq_F.st (s' := (46, _, _, _)) hf30_45 rfl rfl rfl rfl ?_
        refine hq_F.st (s' := (51, _, _, _)) hf30_46 rfl rfl rfl (hs_ic (ci_ne (by omega)) rfl) ?_
        have hX3 := (hX1.fr F2 (by decide) (by decide)).fr F3 (by decide) (by decide)
        refine hq_F.st (s' := (52, _, _, _)) hf30_51 rfl rfl rfl (hs_al (hg_nr (hg_nr (hg_nr g0 (by decide)) (by decide)) (by decide))) ?_
        refine hq_F.st (s' := (55, _, _, _)) hf30_52 rfl rfl rfl (hq_gf h3.1 sh_10 sk_3_15 (hq_ref h3.1 sh_10 (b := 7) rfl)) ?_
        refine hq_F.st (s' := (58, _, _, _)) hf30_55 rfl rfl rfl (hq_gf h3.1 sh_7 sk_3_84 (hq_ref h3.1 sh_7 (b := 8) rfl)) ?_
        refine hq_F.st (s' := (60, _, _, _)) hf30_58 rfl rfl rfl rfl ?_
        refine hq_F.st (s' := (61, _, _, _)) hf30_60 rfl rfl rfl (hs_iln (hg_ne (hg_ne (pi_get_set _ _ _) (by decide)) (by decide))) ?_
        refine hq_F.st (s' := (62, _, _, _)) hf30_61 rfl rfl rfl rfl ?_
        refine hq_F.st (s' := (63, _, _, _)) hf30_62 rfl rfl rfl (hs_iln (hg_ne (pi_get_set _ _ _) (by decide))) ?_
        rw [hn_k (n := nt_c 4 NT) hm_44]
        refine hq_F.call hf30_63 rfl rfl si_3_121 (by decide) (by decide) sz_160 (sy_argsS rfl rfl rfl (Nat.le_of_ble_eq_true rfl) (by decide) rfl (Nat.le_of_ble_eq_true rfl) (by decide)) (ca_put h3.1 sh_8 (j := 44 + nt_c 4 NT) (by omega) (by omega) (fun q hq => by rw [sg_6 _ (by omega) (by omega)] at hq; cases hq; exact af_i32 _)) (fun _ _ q => by rw [q.2.1.1, h3.1.1]) ?_
        rintro r63 w4 ⟨rfl, hC4, hw4⟩
        try dsimp only
        have hX4 := hX3.put (by decide) (c0 := 5) (k0 := nt_c 4 NT) (x := Int32.ofNat a) (by decide) (by show nt_c 4 NT < 6; omega) hw4 rfl
        refine hq_F.st (s' := (67, _, _, _)) hf30_66 rfl rfl rfl (hs_al (hg_nr (hg_nr (hg_nr g0 (by decide)) (by decide)) (by decide))) ?_
        refine hq_F.st (s' := (70, _, _, _)) hf30_67 rfl rfl rfl (hq_gf hC4 sh_10 sk_3_15 (hq_ref hC4 sh_10 (b := 7) rfl)) ?_
        refine hq_F.st (s' := (73, _, _, _)) hf30_70 rfl rfl rfl (hq_gf hC4 sh_7 sk_3_84 (hq_ref hC4 sh_7 (b := 8) rfl)) ?_
        refine hq_F.st (s' := (75, _, _, _)) hf30_73 rfl rfl rfl rfl ?_
        refine hq_F.st (s' := (76, _, _, _)) hf30_75 rfl rfl rfl (hs_iln (hg_ne (hg_ne (pi_get_set _ _ _) (by decide)) (by decide))) ?_
        refine hq_F.st (s' := (77, _, _, _)) hf30_76 rfl rfl rfl rfl ?_
        refine hq_F.st (s' := (78, _, _, _)) hf30_77 rfl rfl rfl (hs_iln (pi_get_set _ _ _)) ?_
        rw [hn_k (n := nt_c 4 NT) hm_50]
        refine hq_F.call hf30_78 rfl rfl si_3_121 (by decide) (by decide) sz_160 (sy_argsS rfl rfl rfl (Nat.le_of_ble_eq_true rfl) (by decide) rfl (Nat.le_of_ble_eq_true rfl) (by decide)) (ca_put hC4 sh_8 (j := 50 + nt_c 4 NT) (by omega) (by omega) (fun q hq => by rw [sg_6 _ (by omega) (by omega)] at hq; cases hq; exact af_i32 _)) (fun _ _ q => by rw [q.2.1.1, hC4.1]) ?_
        rintro r78 w5 ⟨rfl, hC5, hw5⟩
        try dsimp only
        have hX5 := hX4.put (by decide) (c0 := 6) (k0 := nt_c 4 NT) (x := v3) (by decide) (by show nt_c 4 NT < 6; omega) hw5 rfl
        refine hq_F.st (s' := (82, _, _, _)) hf30_81 rfl rfl rfl (hs_al (hg_nr (hg_nr (hg_nr g0 (by decide)) (by decide)) (by decide))) ?_
        refine hq_F.st (s' := (85, _, _, _)) hf30_82 rfl rfl rfl (hq_gf hC5 sh_10 sk_3_15 (hq_ref hC5 sh_10 (b := 7) rfl)) ?_
        refine hq_F.st (s' := (88, _, _, _)) hf30_85 rfl rfl rfl (hq_gf hC5 sh_7 sk_3_84 (hq_ref hC5 sh_7 (b := 8) rfl)) ?_
        refine hq_F.st (s' := (90, _, _, _)) hf30_88 rfl rfl rfl rfl ?_
        refine hq_F.st (s' := (91, _, _, _)) hf30_90 rfl rfl rfl (hs_iln (hg_ne (hg_ne (pi_get_set _ _ _) (by decide)) (by decide))) ?_
        refine hq_F.st (s' := (92, _, _, _)) hf30_91 rfl rfl rfl rfl ?_
        refine hq_F.st (s' := (93, _, _, _)) hf30_92 rfl rfl rfl rfl ?_
        rw [hn_k (n := nt_c 4 NT) hm_56]
        refine hq_F.call hf30_93 rfl rfl si_3_121 (by decide) (by decide) sz_160 (sy_argsS rfl rfl rfl (Nat.le_of_ble_eq_true rfl) (by decide) rfl (Nat.le_of_ble_eq_true rfl) (by decide)) (ca_put hC5 sh_8 (j := 56 + nt_c 4 NT) (by omega) (by omega) (fun q hq => by rw [sg_6 _ (by omega) (by omega)] at hq; cases hq; exact af_i32 _)) (fun _ _ q => by rw [q.2.1.1, hC5.1]) ?_
        rintro r93 w6 ⟨rfl, hC6, hw6⟩
        try dsimp only
        have hL6 := hX5.man hc6 hw6
        refine hq_F.st (s' := (97, _, _, _)) hf30_96 rfl rfl rfl rfl ?_
        refine hq_F.en hf30_97 rfl rfl ?_
        have hv3 : v3 = Int32.ofNat (tq_nx tp B M (tq_nx tp B M t)).2.2.1 := hn_e e3 (by omega)
        have h6 := ((h3.fr hC4 (wpF hw4) rfl).fr hC5 (wpF hw5) rfl).fr hC6 (wpF hw6) rfl
        exact ⟨hC6, (F1.cov (by decide)).tr ((F2.cov (by decide)).tr ((F3.cov (by decide)).tr ((cl_w8 hw4 (by omega)).tr ((cl_w8 hw5 (by omega)).tr (cl_w8 hw6 (by omega)))))), Or.inl ⟨rfl, (tq_nx tp B M (tq_nx tp B M (tq_nx tp B M t)), ld_u (ld_u (ld_u A 5 (nt_c 4 NT) (Int32.ofNat a)) 6 (nt_c 4 NT) v3) 7 (nt_c 4 NT) 0, nr, (NT ++ [(4, nt_c 4 NT, t.2.2.2.1)])), by show ls_b (ls_new tp B M 4 (t, A, nr, NT)) _ = _; rw [ls_new_in n1 f1, ls_br]; show ls_b (ls_look 0 (tq_nx tp B M t) (NT ++ [(4, nt_c 4 NT, t.2.2.2.1)])) _ = _; rw [la, ls_br]; show ls_b (ls_numb 0 9 (tq_nx tp B M (tq_nx tp B M t))) _ = _; rw [show ls_numb 0 9 (tq_nx tp B M (tq_nx tp B M t)) = .inr (tq_nx tp B M (tq_nx tp B M t)).2.2.1 from if_pos ⟨n3, by omega, by omega⟩, ls_br]; rw [hv3], h6, hL6⟩⟩
      · skip
        refine hq_F.st (s' := (44, _, _, _)) hf30_43 rfl rfl rfl rfl ?_
        refine hq_F.st (s' := (45, _, _, _)) hf30_44 rfl rfl rfl (hs_iln (pi_get_set _ _ _)) ?_
        refine hq_F.st (s' := (46, _, _, _)) hf30_45 rfl rfl rfl rfl ?_
        refine hq_F.st (s' := (49, _, _, _)) hf30_46 rfl rfl rfl (hs_icn (t := 51) (ci_nen (by omega)) rfl) ?_
        refine hq_F.st (s' := (50, _, _, _)) hf30_49 rfl rfl rfl rfl ?_
        refine hq_F.en hf30_50 rfl rfl ?_
        exact ⟨h3.1, (F1.cov (by decide)).tr ((F2.cov (by decide)).tr (F3.cov (by decide))), Or.inr ⟨rfl, (if (tq_nx tp B M (tq_nx tp B M t)).1 = 3 then 2 else 1), (tq_nx tp B M (tq_nx tp B M t)).2.1, by show ls_b (ls_new tp B M 4 (t, A, nr, NT)) _ = _; rw [ls_new_in n1 f1, ls_br]; show ls_b (ls_look 0 (tq_nx tp B M t) (NT ++ [(4, nt_c 4 NT, t.2.2.2.1)])) _ = _; rw [la, ls_br]; show ls_b (ls_numb 0 9 (tq_nx tp B M (tq_nx tp B M t))) _ = _; rw [show ls_numb 0 9 (tq_nx tp B M (tq_nx tp B M t)) = .inl (if (tq_nx tp B M (tq_nx tp B M t)).1 = 3 then 2 else 1, (tq_nx tp B M (tq_nx tp B M t)).2.1) from if_neg (fun q => r3 ⟨q.1, by omega, by omega⟩)]; rfl, q⟩⟩
    · skip
      refine hq_F.st (s' := (26, _, _, _)) hf30_25 rfl rfl rfl rfl ?_
      refine hq_F.st (s' := (27, _, _, _)) hf30_26 rfl rfl rfl (hs_iln (pi_get_set _ _ _)) ?_
      refine hq_F.st (s' := (28, _, _, _)) hf30_27 rfl rfl rfl rfl ?_
      refine hq_F.st (s' := (31, _, _, _)) hf30_28 rfl rfl rfl (hs_icn (t := 33) (ci_nen (by omega)) rfl) ?_
      refine hq_F.st (s' := (32, _, _, _)) hf30_31 rfl rfl rfl rfl ?_
      refine hq_F.en hf30_32 rfl rfl ?_
      rcases q with ⟨q1, q2⟩ | ⟨q1, q2, q3⟩
      · exact ⟨h2.1, (F1.cov (by decide)).tr (F2.cov (by decide)), Or.inr ⟨rfl, 1, (tq_nx tp B M t).2.1, by show ls_b (ls_new tp B M 4 (t, A, nr, NT)) _ = _; rw [ls_new_in n1 f1, ls_br]; show ls_b (ls_look 0 (tq_nx tp B M t) (NT ++ [(4, nt_c 4 NT, t.2.2.2.1)])) _ = _; rw [ls_look_1 q1]; rfl, q2⟩⟩
      · exact ⟨h2.1, (F1.cov (by decide)).tr (F2.cov (by decide)), Or.inr ⟨rfl, 3, (tq_nx tp B M t).2.1, by show ls_b (ls_new tp B M 4 (t, A, nr, NT)) _ = _; rw [ls_new_in n1 f1, ls_br]; show ls_b (ls_look 0 (tq_nx tp B M t) (NT ++ [(4, nt_c 4 NT, t.2.2.2.1)])) _ = _; rw [ls_look_3 q1 q2]; rfl, q3⟩⟩
  · skip
    refine hq_F.st (s' := (6, _, _, _)) hf30_5 rfl rfl rfl rfl ?_
    refine hq_F.st (s' := (7, _, _, _)) hf30_6 rfl rfl rfl (hs_iln (pi_get_set _ _ _)) ?_
    refine hq_F.st (s' := (8, _, _, _)) hf30_7 rfl rfl rfl rfl ?_
    refine hq_F.st (s' := (11, _, _, _)) hf30_8 rfl rfl rfl (hs_icn (t := 13) (ci_nen (by omega)) rfl) ?_
    refine hq_F.st (s' := (12, _, _, _)) hf30_11 rfl rfl rfl rfl ?_
    refine hq_F.en hf30_12 rfl rfl ?_
    rcases q with ⟨q1, q2⟩ | ⟨q1, q2, q3⟩
    · exact ⟨h1.1, F1.cov (by decide), Or.inr ⟨rfl, 1, t.2.1, by show ls_b (ls_new tp B M 4 (t, A, nr, NT)) _ = _; rw [ls_new_1 q1]; rfl, q2⟩⟩
    · exact ⟨h1.1, F1.cov (by decide), Or.inr ⟨rfl, 3, t.2.1, by show ls_b (ls_new tp B M 4 (t, A, nr, NT)) _ = _; rw [ls_new_3 q1 q2]; rfl, q3⟩⟩
theorem cl_stl {d B M m : Nat} {tp : Nat → Nat} (hm : m < 6) : ∀ (f i n : Nat) {w : pi_W} {σ : ls_S} {lv : pi_L}, i + f = 9 → CO tp B M w σ → nt_ok σ.2.2.2 → nt_c 0 σ.2.2.2 ≤ 10 → σ.2.1 8 m = Int32.ofNat n → n ≤ 8 → pi_get lv 0 = some (.ref 10) → pi_get lv 1 = some (.int (Int32.ofNat m)) → pi_get lv 2 = some (.int (Int32.ofNat i)) → hq_F (d + 4) sm31 (cl_P tp B M (ls_stops tp B M m f n σ) w) (65, lv, [], w) := by
  intro f
  induction f with
  | zero =>
    intro i n w σ lv hi hO ho m0 hn hn8 g0 g1 g2
    have ti : (Int32.ofNat i).toInt = (i : Int) := hn_t (by omega)
    have kc0 : (((Int8.ofInt 8).toInt32)).toInt = 8 := by decide
    have kc1 : ((Int32.ofInt 1)).toInt = 1 := by decide
    have kz := sy_z0
    refine hq_F.st (s' := (66, _, _, _)) hf31_65 rfl rfl rfl (hs_iln g2) ?_
    refine hq_F.st (s' := (68, _, _, _)) hf31_66 rfl rfl rfl rfl ?_
    refine hq_F.st (s' := (99, _, _, _)) hf31_68 rfl rfl rfl (hs_ic (ci_gt (by omega)) rfl) ?_
    refine hq_F.st (s' := (100, _, _, _)) hf31_99 rfl rfl rfl rfl ?_
    refine hq_F.en hf31_100 rfl rfl ?_
    exact ⟨hO.1.1, af_Fr.rf _ _, Or.inl ⟨rfl, σ, rfl, hO⟩⟩
  | succ f ih =>
    intro i n w σ lv hi hO ho m0 hn hn8 g0 g1 g2
    have ti : (Int32.ofNat i).toInt = (i : Int) := hn_t (by omega)
    have kc0 : (((Int8.ofInt 59).toInt32)).toInt = 59 := by decide
    have kc1 : (((Int8.ofInt 8).toInt32)).toInt = 8 := by decide
    have kc2 : ((0 : Int32)).toInt = 0 := by decide
    have kc3 : ((1 : Int32)).toInt = 1 := by decide
    have kc4 : ((Int32.ofInt 0)).toInt = 0 := by decide
    have kc5 : ((Int32.ofInt 1)).toInt = 1 := by decide
    have kz := sy_z0
    refine hq_F.st (s' := (66, _, _, _)) hf31_65 rfl rfl rfl (hs_iln g2) ?_
    refine hq_F.st (s' := (68, _, _, _)) hf31_66 rfl rfl rfl rfl ?_
    refine hq_F.st (s' := (71, _, _, _)) hf31_68 rfl rfl rfl (hs_icn (t := 99) (ci_gtn (by omega)) rfl) ?_
    refine hq_F.st (s' := (72, _, _, _)) hf31_71 rfl rfl rfl (hs_al g0) ?_
    refine hq_F.st (s' := (75, _, _, _)) hf31_72 rfl rfl rfl (hq_gf hO.1.1 sh_10 sk_3_9 (hq_ref hO.1.1 sh_10 (b := 1) rfl)) ?_
    refine hq_F.st (s' := (77, _, _, _)) hf31_75 rfl rfl rfl rfl ?_
    refine hq_F.call hf31_77 rfl rfl si_3_132 (by decide) (by decide) sz_104 (sy_argsV hO.1.1 sh_1 rfl rfl rfl (Nat.le_of_ble_eq_true rfl) rfl (Nat.le_of_ble_eq_true rfl) rfl (by decide)) (ct_isS (c := 59) hO.1 (by decide)) (fun _ _ q => by rw [q.1]) ?_
    rintro r77 w ⟨rfl, rfl⟩
    try dsimp only
    by_cases hsc : σ.1.1 = 4 ∧ σ.1.2.2.1 = 59
    · rw [decide_eq_true hsc, show tq_b true = (1 : Int32) from rfl]
      refine hq_F.st (s' := (99, _, _, _)) hf31_80 rfl rfl rfl (hs_if (ci_ne (by omega)) rfl) ?_
      refine hq_F.st (s' := (100, _, _, _)) hf31_99 rfl rfl rfl rfl ?_
      refine hq_F.en hf31_100 rfl rfl ?_
      exact ⟨hO.1.1, af_Fr.rf _ _, Or.inl ⟨rfl, σ, by rw [ls_stops, if_pos (show ls_sc σ.1 = true from decide_eq_true hsc)], hO⟩⟩
    · rw [decide_eq_false hsc, show tq_b false = (0 : Int32) from rfl]
      refine hq_F.st (s' := (83, _, _, _)) hf31_80 rfl rfl rfl (hs_ifn (t := 99) (ci_nen (by omega)) rfl) ?_
      refine hq_F.st (s' := (84, _, _, _)) hf31_83 rfl rfl rfl (hs_al g0) ?_
      refine hq_F.st (s' := (85, _, _, _)) hf31_84 rfl rfl rfl (hs_iln g1) ?_
      refine hq_F.call hf31_85 rfl rfl si_3_135 (by decide) (by decide) sz_32 (sy_argsV hO.1.1 sh_10 rfl rfl rfl (Nat.le_of_ble_eq_true rfl) rfl (Nat.le_of_ble_eq_true rfl) rfl (by decide)) (cl_stop (d := d) (σ := σ) (n := n) hO ho m0 hm hn hn8) (fun _ _ q => by rw [q.1.1, hO.1.1.1]) ?_
      rintro r85 w1 ⟨hC1, F1, q⟩
      try dsimp only
      rcases q with ⟨rfl, σ1, e1, O1⟩ | ⟨rfl, k, p, e1, q1⟩
      · obtain ⟨hs, hn1, hs8⟩ := ls_stop_nt e1
        refine hq_F.st (s' := (93, _, _, _)) hf31_88 rfl rfl rfl (hs_if (ci_ne (by omega)) rfl) ?_
        refine hq_F.st (s' := (96, _, _, _)) hf31_93 rfl rfl rfl (hs_inc g2 (by decide)) ?_
        refine hq_F.st (s' := (65, _, _, _)) hf31_96 rfl rfl rfl rfl ?_
        rw [show ls_stops tp B M m (f + 1) n σ = ls_stops tp B M m f (n + 1) σ1 from by rw [ls_stops, if_neg (show ¬ ls_sc σ.1 = true from fun q => hsc (of_decide_eq_true q)), e1, ls_br]]
        exact (ih (i + 1) (n + 1) (by omega) O1 (by rw [hs]; exact ho) (by rw [hs]; exact m0) hs8 (by omega) (hg_nr g0 (by decide)) (hg_ne g1 (by decide)) (by rw [← hn_s]; exact (pi_get_set _ _ _))).imp (fun r w9 q => q.tr F1)
      · skip
        refine hq_F.st (s' := (91, _, _, _)) hf31_88 rfl rfl rfl (hs_ifn (t := 93) (ci_nen (by omega)) rfl) ?_
        refine hq_F.st (s' := (92, _, _, _)) hf31_91 rfl rfl rfl rfl ?_
        refine hq_F.en hf31_92 rfl rfl ?_
        exact ⟨hC1, F1, Or.inr ⟨rfl, k, p, by rw [ls_stops, if_neg (show ¬ ls_sc σ.1 = true from fun q => hsc (of_decide_eq_true q)), e1, ls_bl], q1⟩⟩
theorem cl_round {d B M : Nat} {tp : Nat → Nat} {w : pi_W} {σ : ls_S} (hO : CO tp B M w (tq_nx tp B M σ.1, σ.2)) (hI : ls_I σ) (hJ : ∀ k, 0 ≤ (σ.2.1 8 k).toInt) : hq_F (d + 4) sm31 (cl_P tp B M (ls_round tp B M σ) w) (0, lv_args 0 [.ref 10], [], w) := by
  obtain ⟨t, A, nr, NT⟩ := σ
  obtain ⟨h, hL⟩ := hO
  obtain ⟨ho, ⟨m0, m2, m3, m4⟩, mr, i3, i7⟩ := hI
  dsimp only at *
  have g0 : pi_get (lv_args 0 [.ref 10]) 0 = some (.ref 10) := rfl
  have kc0 : (((Int8.ofInt 62).toInt32)).toInt = 62 := by decide
  have kc1 : ((-1 : Int32)).toInt = (-1) := by decide
  have kc2 : ((0 : Int32)).toInt = 0 := by decide
  have kc3 : ((1 : Int32)).toInt = 1 := by decide
  have kc4 : ((Int32.ofInt (-1))).toInt = (-1) := by decide
  have kc5 : ((Int32.ofInt 0)).toInt = 0 := by decide
  have kc6 : ((Int32.ofInt 3)).toInt = 3 := by decide
  have kc7 : ((Int32.ofInt 4)).toInt = 4 := by decide
  have kz := sy_z0
  refine hq_F.st (s' := (1, _, _, _)) hf31_0 rfl rfl rfl (hs_al g0) ?_
  refine hq_F.st (s' := (4, _, _, _)) hf31_1 rfl rfl rfl (hq_gf h.1 sh_10 sk_3_9 (hq_ref h.1 sh_10 (b := 1) rfl)) ?_
  refine hq_F.st (s' := (5, _, _, _)) hf31_4 rfl rfl rfl (hs_al g0) ?_
  refine hq_F.st (s' := (8, _, _, _)) hf31_5 rfl rfl rfl (hq_gf h.1 sh_10 sk_3_15 (hq_ref h.1 sh_10 (b := 7) rfl)) ?_
  refine hq_F.st (s' := (9, _, _, _)) hf31_8 rfl rfl rfl rfl ?_
  refine hq_F.call hf31_9 rfl rfl si_3_111 (by decide) (by decide) sz_108 (sy_argsV h.1 sh_1 rfl rfl rfl (Nat.le_of_ble_eq_true rfl) rfl (Nat.le_of_ble_eq_true rfl) rfl (by decide)) (cn_nh_s (d := d + 1) (s := 4) h hL.1 ho (by decide)) (fun r w' q => by rcases q with ⟨q, _⟩ | ⟨_, q, _⟩; rw [q]; rw [q.1.1, h.1.1]) ?_
  rintro r9 w2 q
  try dsimp only
  rcases q with ⟨rfl, v2, rfl, n2, e2, f2⟩ | ⟨rfl, h2, F2, q⟩
  · obtain ⟨a, ha, rfl, la⟩ := ls_look_in ho (by omega) n2 e2 f2
    have ta : (Int32.ofNat a).toInt = (a : Int) := hn_t (by omega)
    refine hq_F.st (s' := (13, _, _, _)) hf31_12 rfl rfl rfl rfl ?_
    refine hq_F.st (s' := (14, _, _, _)) hf31_13 rfl rfl rfl (hs_iln (pi_get_set _ _ _)) ?_
    refine hq_F.st (s' := (15, _, _, _)) hf31_14 rfl rfl rfl rfl ?_
    refine hq_F.st (s' := (20, _, _, _)) hf31_15 rfl rfl rfl (hs_ic (ci_ne (by omega)) rfl) ?_
    refine hq_F.st (s' := (21, _, _, _)) hf31_20 rfl rfl rfl (hs_al (hg_nr g0 (by decide))) ?_
    refine hq_F.st (s' := (24, _, _, _)) hf31_21 rfl rfl rfl (hq_gf h.1 sh_10 sk_3_15 (hq_ref h.1 sh_10 (b := 7) rfl)) ?_
    refine hq_F.st (s' := (27, _, _, _)) hf31_24 rfl rfl rfl (hq_gf h.1 sh_7 sk_3_84 (hq_ref h.1 sh_7 (b := 8) rfl)) ?_
    refine hq_F.st (s' := (29, _, _, _)) hf31_27 rfl rfl rfl rfl ?_
    refine hq_F.st (s' := (30, _, _, _)) hf31_29 rfl rfl rfl (hs_iln (pi_get_set _ _ _)) ?_
    refine hq_F.st (s' := (31, _, _, _)) hf31_30 rfl rfl rfl rfl ?_
    rw [hn_k (n := a) hm_62]
    refine hq_F.call hf31_31 rfl rfl si_3_88 (by decide) (by decide) sz_159 (sy_argsS rfl rfl rfl (Nat.le_of_ble_eq_true rfl) (by decide) rfl (Nat.le_of_ble_eq_true rfl) (by decide)) (ca_at h.1 sh_8 (j := 62 + a) (by omega) (by omega)) (fun _ _ q => by rw [q.1]) ?_
    rintro r31 w2 ⟨rfl, rfl⟩
    try dsimp only
    have ga : gv w2 8 (62 + a) = A 8 a := hL.2.2.2 8 a (by decide) (by show a < 6; omega) (fun q => absurd q (by decide)) (fun q => absurd q (by decide))
    rw [ga]
    by_cases b34 : ((A 8 a)).toInt ≤ 0
    · skip
      refine hq_F.st (s' := (46, _, _, _)) hf31_34 rfl rfl rfl (hs_if (ci_le (by omega)) rfl) ?_
      refine hq_F.st (s' := (47, _, _, _)) hf31_46 rfl rfl rfl (hs_al (hg_nr g0 (by decide))) ?_
      refine hq_F.st (s' := (50, _, _, _)) hf31_47 rfl rfl rfl (hq_gf h.1 sh_10 sk_3_9 (hq_ref h.1 sh_10 (b := 1) rfl)) ?_
      refine hq_F.call hf31_50 rfl rfl si_3_68 (by decide) (by decide) sz_98 (sy_argsV h.1 sh_1 rfl rfl rfl (Nat.le_of_ble_eq_true rfl) rfl (Nat.le_of_ble_eq_true rfl) rfl (by decide)) (ct_adv (d := d + 1) h (by have := n2.1; omega)) (fun _ _ q => by rw [q.2.1.1.1, h.1.1]) ?_
      rintro r50 w4 ⟨rfl, k5, k6⟩
      try dsimp only
      have hL4 := hL.fr k6 (by decide) (by decide)
      have q0 : (Int32.ofNat 0).toInt = 0 := by decide
      have hz : A 8 a = Int32.ofNat 0 := Int32.toInt_inj.mp (by have := hJ a; rw [q0]; omega)
      refine hq_F.st (s' := (54, _, _, _)) hf31_53 rfl rfl rfl (hs_al (hg_nr g0 (by decide))) ?_
      refine hq_F.st (s' := (55, _, _, _)) hf31_54 rfl rfl rfl (hs_iln (pi_get_set _ _ _)) ?_
      refine hq_F.call hf31_55 rfl rfl si_3_135 (by decide) (by decide) sz_32 (sy_argsV k5.1 sh_10 rfl rfl rfl (Nat.le_of_ble_eq_true rfl) rfl (Nat.le_of_ble_eq_true rfl) rfl (by decide)) (cl_stop (d := d) (σ := ((tq_nx tp B M (tq_nx tp B M t)), A, nr, NT)) (n := 0) ⟨k5, hL4⟩ ho m0 (by omega) hz (by omega)) (fun _ _ q => by rw [q.1.1, k5.1.1]) ?_
      rintro r55 w1 ⟨hC1, F1, q⟩
      try dsimp only
      rcases q with ⟨rfl, σ1, e1, O1⟩ | ⟨rfl, k, p, e1, q1⟩
      · obtain ⟨hs, hn1, hs8⟩ := ls_stop_nt e1
        refine hq_F.st (s' := (63, _, _, _)) hf31_58 rfl rfl rfl (hs_if (ci_ne (by omega)) rfl) ?_
        refine hq_F.st (s' := (64, _, _, _)) hf31_63 rfl rfl rfl rfl ?_
        refine hq_F.st (s' := (65, _, _, _)) hf31_64 rfl rfl rfl rfl ?_
        have eR : ls_round tp B M (t, A, nr, NT) = ls_stops tp B M a 9 1 σ1 := by show ls_b (ls_look 4 (tq_nx tp B M t) NT) _ = _; rw [la, ls_br]; show (if 0 < (A 8 a).toInt then _ else _) = _; rw [if_neg (by omega)]; show ls_b (ls_stop tp B M a 0 ((tq_nx tp B M (tq_nx tp B M t)), A, nr, NT)) _ = _; rw [e1]; exact ls_br _ _
        rw [eR]
        exact (cl_stl (d := d) (by omega) 9 0 1 (by omega) O1 (by rw [hs]; exact ho) (by rw [hs]; exact m0) hs8 (by omega) (hg_nr (hg_nr g0 (by decide)) (by decide)) (hg_ne (pi_get_set _ _ _) (by decide)) (pi_get_set _ _ _)).imp (fun r w9 q => q.tr ((k6.cov (by decide)).tr F1))
      · skip
        refine hq_F.st (s' := (61, _, _, _)) hf31_58 rfl rfl rfl (hs_ifn (t := 63) (ci_nen (by omega)) rfl) ?_
        refine hq_F.st (s' := (62, _, _, _)) hf31_61 rfl rfl rfl rfl ?_
        refine hq_F.en hf31_62 rfl rfl ?_
        exact ⟨hC1, (k6.cov (by decide)).tr F1, Or.inr ⟨rfl, k, p, by show ls_b (ls_look 4 (tq_nx tp B M t) NT) _ = _; rw [la, ls_br]; show (if 0 < (A 8 a).toInt then _ else _) = _; rw [if_neg (by omega)]; show ls_b (ls_stop tp B M a 0 ((tq_nx tp B M (tq_nx tp B M t)), A, nr, NT)) _ = _; rw [e1]; rfl, q1⟩⟩
    · skip
      refine hq_F.st (s' := (37, _, _, _)) hf31_34 rfl rfl rfl (hs_ifn (t := 46) (ci_len (by omega)) rfl) ?_
      refine hq_F.st (s' := (38, _, _, _)) hf31_37 rfl rfl rfl (hs_al (hg_nr g0 (by decide))) ?_
      refine hq_F.st (s' := (41, _, _, _)) hf31_38 rfl rfl rfl (hq_gf h.1 sh_10 sk_3_9 (hq_ref h.1 sh_10 (b := 1) rfl)) ?_
      refine hq_F.st (s' := (42, _, _, _)) hf31_41 rfl rfl rfl rfl ?_
      refine hq_F.call hf31_42 rfl rfl si_3_80 (by decide) (by decide) sz_103 (sy_argsV h.1 sh_1 rfl rfl rfl (Nat.le_of_ble_eq_true rfl) rfl (Nat.le_of_ble_eq_true rfl) rfl (by decide)) (ct_ref h ((Int32.ofInt 3))) (fun _ _ q => by rw [q.2.1.1.1, h.1.1]) ?_
      rintro r42 w9 ⟨rfl, k1, k2, k3, k4⟩
      try dsimp only
      refine hq_F.en hf31_45 rfl rfl ?_
      exact ⟨k1.1, k2.cov (by decide), Or.inr ⟨rfl, 3, (tq_nx tp B M t).2.1, by show ls_b (ls_look 4 (tq_nx tp B M t) NT) _ = _; rw [la, ls_br]; exact if_pos (by show 0 < (A 8 a).toInt; omega), by rw [k3]; decide, k4⟩⟩
  · skip
    refine hq_F.st (s' := (13, _, _, _)) hf31_12 rfl rfl rfl rfl ?_
    refine hq_F.st (s' := (14, _, _, _)) hf31_13 rfl rfl rfl (hs_iln (pi_get_set _ _ _)) ?_
    refine hq_F.st (s' := (15, _, _, _)) hf31_14 rfl rfl rfl rfl ?_
    refine hq_F.st (s' := (18, _, _, _)) hf31_15 rfl rfl rfl (hs_icn (t := 20) (ci_nen (by omega)) rfl) ?_
    refine hq_F.st (s' := (19, _, _, _)) hf31_18 rfl rfl rfl rfl ?_
    refine hq_F.en hf31_19 rfl rfl ?_
    rcases q with ⟨q1, q2⟩ | ⟨q1, q2, q3⟩
    · exact ⟨h2.1, F2.cov (by decide), Or.inr ⟨rfl, 1, (tq_nx tp B M t).2.1, by show ls_b (ls_look 4 (tq_nx tp B M t) NT) _ = _; rw [ls_look_1 q1]; rfl, q2⟩⟩
    · exact ⟨h2.1, F2.cov (by decide), Or.inr ⟨rfl, 3, (tq_nx tp B M t).2.1, by show ls_b (ls_look 4 (tq_nx tp B M t) NT) _ = _; rw [ls_look_3 q1 q2]; rfl, q3⟩⟩
