/-! ===== the model and NAMES; by program ===== -/
theorem sk_11_43 : pi_look pi_fT 11 43 = some (11, 9, 1256) := rfl
theorem si_11_195 : pi_look pi_iT 11 195 = some (2, 181, 0, 1422) := rfl
theorem si_11_199 : pi_look pi_iT 11 199 = some (2, 184, 2, 1426) := rfl
theorem si_11_203 : pi_look pi_iT 11 203 = some (2, 186, 2, 1438) := rfl
def sm184 : pi_M := (11, 4, (some .int), false, mc_184)
def sm185 : pi_M := (11, 2, (some .boolean), false, mc_185)
def sm186 : pi_M := (11, 3, (some .boolean), false, mc_186)
def sm187 : pi_M := (11, 3, (some .boolean), false, mc_187)
def sf_64 : List (Nat × Int × Int) := match (aw_Sh[64]? : Option af_C) with
  | some (.inl (_, _, S)) => S
  | _ => []
theorem sh_64 : aw_Sh[64]? = some (.inl (0, 115, sf_64)) := rfl
def sf_66 : List (Nat × Int × Int) := match (aw_Sh[66]? : Option af_C) with
  | some (.inl (_, _, S)) => S
  | _ => []
theorem sh_66 : aw_Sh[66]? = some (.inl (2, 54, sf_66)) := rfl
set_option maxRecDepth 100000 in
theorem sz_184 : pi_mt[184]? = some (mn_184, prog_13_method_24_code, (11, 4, (some .int), false, mc_184)) := rfl
set_option maxRecDepth 100000 in
theorem sz_185 : pi_mt[185]? = some (mn_185, prog_13_method_25_code, (11, 2, (some .boolean), false, mc_185)) := rfl
set_option maxRecDepth 100000 in
theorem sz_186 : pi_mt[186]? = some (mn_186, prog_13_method_26_code, (11, 3, (some .boolean), false, mc_186)) := rfl
set_option maxRecDepth 100000 in
theorem sz_187 : pi_mt[187]? = some (mn_187, prog_13_method_27_code, (11, 3, (some .boolean), false, mc_187)) := rfl
theorem hg184_0 : pi_fetch mc_184 0 = some (.iconst 0, 1) := rfl
theorem hg184_1 : pi_fetch mc_184 1 = some (.istore_n 3, 1) := rfl
theorem hg184_2 : pi_fetch mc_184 2 = some (.iload_n 3, 1) := rfl
theorem hg184_3 : pi_fetch mc_184 3 = some (.iload_n 2, 1) := rfl
theorem hg184_4 : pi_fetch mc_184 4 = some (.if_icmp .ge 27, 3) := rfl
theorem hg184_7 : pi_fetch mc_184 7 = some (.aload_n 0, 1) := rfl
theorem hg184_8 : pi_fetch mc_184 8 = some (.getfield 43, 3) := rfl
theorem hg184_11 : pi_fetch mc_184 11 = some (.iload_n 1, 1) := rfl
theorem hg184_12 : pi_fetch mc_184 12 = some (.iload_n 3, 1) := rfl
theorem hg184_13 : pi_fetch mc_184 13 = some (.iadd, 1) := rfl
theorem hg184_14 : pi_fetch mc_184 14 = some (.laload, 1) := rfl
theorem hg184_15 : pi_fetch mc_184 15 = some (.aload_n 0, 1) := rfl
theorem hg184_16 : pi_fetch mc_184 16 = some (.getfield 165, 3) := rfl
theorem hg184_19 : pi_fetch mc_184 19 = some (.lcmp, 1) := rfl
theorem hg184_20 : pi_fetch mc_184 20 = some (.ifCond .ne 5, 3) := rfl
theorem hg184_23 : pi_fetch mc_184 23 = some (.iload_n 3, 1) := rfl
theorem hg184_24 : pi_fetch mc_184 24 = some (.ireturn, 1) := rfl
theorem hg184_25 : pi_fetch mc_184 25 = some (.iinc 3 1, 3) := rfl
theorem hg184_28 : pi_fetch mc_184 28 = some (.goto (-26), 3) := rfl
theorem hg184_31 : pi_fetch mc_184 31 = some (.iconst (-1), 1) := rfl
theorem hg184_32 : pi_fetch mc_184 32 = some (.ireturn, 1) := rfl
theorem hg186_0 : pi_fetch mc_186 0 = some (.aload_n 0, 1) := rfl
theorem hg186_1 : pi_fetch mc_186 1 = some (.invokevirtual 195, 3) := rfl
theorem hg186_4 : pi_fetch mc_186 4 = some (.ifCond .ne 9, 3) := rfl
theorem hg186_7 : pi_fetch mc_186 7 = some (.aload_n 0, 1) := rfl
theorem hg186_8 : pi_fetch mc_186 8 = some (.iconst 1, 1) := rfl
theorem hg186_9 : pi_fetch mc_186 9 = some (.invokevirtual 178, 3) := rfl
theorem hg186_12 : pi_fetch mc_186 12 = some (.ireturn, 1) := rfl
theorem hg186_13 : pi_fetch mc_186 13 = some (.aload_n 0, 1) := rfl
theorem hg186_14 : pi_fetch mc_186 14 = some (.aload_n 0, 1) := rfl
theorem hg186_15 : pi_fetch mc_186 15 = some (.iload_n 1, 1) := rfl
theorem hg186_16 : pi_fetch mc_186 16 = some (.iload_n 2, 1) := rfl
theorem hg186_17 : pi_fetch mc_186 17 = some (.invokevirtual 199, 3) := rfl
theorem hg186_20 : pi_fetch mc_186 20 = some (.putfield 188, 3) := rfl
theorem hg186_23 : pi_fetch mc_186 23 = some (.aload_n 0, 1) := rfl
theorem hg186_24 : pi_fetch mc_186 24 = some (.getfield 188, 3) := rfl
theorem hg186_27 : pi_fetch mc_186 27 = some (.ifCond .ge 11, 3) := rfl
theorem hg186_30 : pi_fetch mc_186 30 = some (.aload_n 0, 1) := rfl
theorem hg186_31 : pi_fetch mc_186 31 = some (.iconst 3, 1) := rfl
theorem hg186_32 : pi_fetch mc_186 32 = some (.invokevirtual 178, 3) := rfl
theorem hg186_35 : pi_fetch mc_186 35 = some (.ifCond .eq 7, 3) := rfl
theorem hg186_38 : pi_fetch mc_186 38 = some (.iconst 1, 1) := rfl
theorem hg186_39 : pi_fetch mc_186 39 = some (.goto 4, 3) := rfl
theorem hg186_42 : pi_fetch mc_186 42 = some (.iconst 0, 1) := rfl
theorem hg186_43 : pi_fetch mc_186 43 = some (.ireturn, 1) := rfl
theorem hg187_0 : pi_fetch mc_187 0 = some (.aload_n 0, 1) := rfl
theorem hg187_1 : pi_fetch mc_187 1 = some (.iload_n 1, 1) := rfl
theorem hg187_2 : pi_fetch mc_187 2 = some (.iload_n 2, 1) := rfl
theorem hg187_3 : pi_fetch mc_187 3 = some (.invokevirtual 203, 3) := rfl
theorem hg187_6 : pi_fetch mc_187 6 = some (.ifCond .ne 5, 3) := rfl
theorem hg187_9 : pi_fetch mc_187 9 = some (.iconst 0, 1) := rfl
theorem hg187_10 : pi_fetch mc_187 10 = some (.ireturn, 1) := rfl
theorem hg187_11 : pi_fetch mc_187 11 = some (.aload_n 0, 1) := rfl
theorem hg187_12 : pi_fetch mc_187 12 = some (.invokevirtual 181, 3) := rfl
theorem hg187_15 : pi_fetch mc_187 15 = some (.iconst 1, 1) := rfl
theorem hg187_16 : pi_fetch mc_187 16 = some (.ireturn, 1) := rfl
theorem hg185_0 : pi_fetch mc_185 0 = some (.aload_n 0, 1) := rfl
theorem hg185_1 : pi_fetch mc_185 1 = some (.invokevirtual 195, 3) := rfl
theorem hg185_4 : pi_fetch mc_185 4 = some (.ifCond .ne 9, 3) := rfl
theorem hg185_7 : pi_fetch mc_185 7 = some (.aload_n 0, 1) := rfl
theorem hg185_8 : pi_fetch mc_185 8 = some (.iconst 1, 1) := rfl
theorem hg185_9 : pi_fetch mc_185 9 = some (.invokevirtual 178, 3) := rfl
theorem hg185_12 : pi_fetch mc_185 12 = some (.ireturn, 1) := rfl
theorem hg185_13 : pi_fetch mc_185 13 = some (.aload_n 0, 1) := rfl
theorem hg185_14 : pi_fetch mc_185 14 = some (.bipush 27, 2) := rfl
theorem hg185_16 : pi_fetch mc_185 16 = some (.aload_n 0, 1) := rfl
theorem hg185_17 : pi_fetch mc_185 17 = some (.getfield 37, 3) := rfl
theorem hg185_20 : pi_fetch mc_185 20 = some (.iconst 0, 1) := rfl
theorem hg185_21 : pi_fetch mc_185 21 = some (.iaload, 1) := rfl
theorem hg185_22 : pi_fetch mc_185 22 = some (.invokevirtual 199, 3) := rfl
theorem hg185_25 : pi_fetch mc_185 25 = some (.ifCond .ge 48, 3) := rfl
theorem hg185_28 : pi_fetch mc_185 28 = some (.aload_n 0, 1) := rfl
theorem hg185_29 : pi_fetch mc_185 29 = some (.bipush 37, 2) := rfl
theorem hg185_31 : pi_fetch mc_185 31 = some (.aload_n 0, 1) := rfl
theorem hg185_32 : pi_fetch mc_185 32 = some (.getfield 37, 3) := rfl
theorem hg185_35 : pi_fetch mc_185 35 = some (.iconst 2, 1) := rfl
theorem hg185_36 : pi_fetch mc_185 36 = some (.iaload, 1) := rfl
theorem hg185_37 : pi_fetch mc_185 37 = some (.invokevirtual 199, 3) := rfl
theorem hg185_40 : pi_fetch mc_185 40 = some (.ifCond .ge 33, 3) := rfl
theorem hg185_43 : pi_fetch mc_185 43 = some (.aload_n 0, 1) := rfl
theorem hg185_44 : pi_fetch mc_185 44 = some (.bipush 42, 2) := rfl
theorem hg185_46 : pi_fetch mc_185 46 = some (.aload_n 0, 1) := rfl
theorem hg185_47 : pi_fetch mc_185 47 = some (.getfield 37, 3) := rfl
theorem hg185_50 : pi_fetch mc_185 50 = some (.iconst 3, 1) := rfl
theorem hg185_51 : pi_fetch mc_185 51 = some (.iaload, 1) := rfl
theorem hg185_52 : pi_fetch mc_185 52 = some (.invokevirtual 199, 3) := rfl
theorem hg185_55 : pi_fetch mc_185 55 = some (.ifCond .ge 18, 3) := rfl
theorem hg185_58 : pi_fetch mc_185 58 = some (.aload_n 0, 1) := rfl
theorem hg185_59 : pi_fetch mc_185 59 = some (.bipush 48, 2) := rfl
theorem hg185_61 : pi_fetch mc_185 61 = some (.aload_n 0, 1) := rfl
theorem hg185_62 : pi_fetch mc_185 62 = some (.getfield 37, 3) := rfl
theorem hg185_65 : pi_fetch mc_185 65 = some (.iconst 4, 1) := rfl
theorem hg185_66 : pi_fetch mc_185 66 = some (.iaload, 1) := rfl
theorem hg185_67 : pi_fetch mc_185 67 = some (.invokevirtual 199, 3) := rfl
theorem hg185_70 : pi_fetch mc_185 70 = some (.ifCond .lt 9, 3) := rfl
theorem hg185_73 : pi_fetch mc_185 73 = some (.aload_n 0, 1) := rfl
theorem hg185_74 : pi_fetch mc_185 74 = some (.iconst 3, 1) := rfl
theorem hg185_75 : pi_fetch mc_185 75 = some (.invokevirtual 178, 3) := rfl
theorem hg185_78 : pi_fetch mc_185 78 = some (.ireturn, 1) := rfl
theorem hg185_79 : pi_fetch mc_185 79 = some (.aload_n 0, 1) := rfl
theorem hg185_80 : pi_fetch mc_185 80 = some (.getfield 43, 3) := rfl
theorem hg185_83 : pi_fetch mc_185 83 = some (.iload_n 1, 1) := rfl
theorem hg185_84 : pi_fetch mc_185 84 = some (.aload_n 0, 1) := rfl
theorem hg185_85 : pi_fetch mc_185 85 = some (.getfield 165, 3) := rfl
theorem hg185_88 : pi_fetch mc_185 88 = some (.lastore, 1) := rfl
theorem hg185_89 : pi_fetch mc_185 89 = some (.aload_n 0, 1) := rfl
theorem hg185_90 : pi_fetch mc_185 90 = some (.invokevirtual 181, 3) := rfl
theorem hg185_93 : pi_fetch mc_185 93 = some (.iconst 1, 1) := rfl
theorem hg185_94 : pi_fetch mc_185 94 = some (.ireturn, 1) := rfl
theorem sy_lsv {d pc a m n : Nat} {mi : pi_M} {Q : Option Value → pi_W → Prop} {lv : pi_L} {r : List Value} {w : pi_W} {j : Int32} {x : Int64} {S : List (Nat × Int × Int)} (hf : pi_fetch mi.2.2.2.2 pc = some (.lastore, 1)) (hC : af_Conf aw_Sh w) (hSh : aw_Sh[a]? = some (.inl (2, m, S))) (hj : j.toInt = (n : Int)) (hn : n < m) (h : ∀ w', af_Conf aw_Sh w' → wr1 w a n (.long x) w' → hq_F d mi Q (pc + 1, lv, r, w')) : hq_F d mi Q (pc, lv, .long x :: .int j :: .ref a :: r, w) := by
  obtain ⟨e, he, hoc⟩ := hC.at hSh
  have h2 : ∃ f, e = .inl (2, m, .inr (.inl f)) := hoc
  obtain ⟨f, rfl⟩ := h2
  obtain ⟨c1, c2⟩ := af_cl (x := j) (by omega)
  have e1 : j.toNatClampNeg = n := by omega
  have h0 : ¬ (j < 0 ∨ m ≤ n) := by
    rintro (q | q)
    · exact c1 q
    · omega
  have hC' : af_Conf aw_Sh (w.set a (.inl (2, m, .inr (.inl (vp_updL f n x))))) := hC.set hSh (by
    show af_okA 2 m S _
    unfold af_okA
    rw [if_pos rfl]
    exact ⟨_, rfl⟩)
  refine hq_F.st (s' := (pc + 1, lv, r, w.set a (.inl (2, m, .inr (.inl (vp_updL f n x)))))) hf rfl rfl rfl ?_ (h _ hC' ?_)
  · simp only [pi_step, he, e1, h0, if_true, if_false]
  · intro c i
    rw [af_wloc_set he]
    by_cases hc : c = a
    · subst hc
      rw [if_pos rfl]
      by_cases hi : i = n
      · subst hi
        rw [if_pos ⟨rfl, rfl⟩]
        simp [af_cloc, vp_updL, hn]
      · rw [if_neg (fun q => hi q.2)]
        unfold af_wloc
        rw [he]
        simp [af_cloc, vp_updL, hi]
    · rw [if_neg hc, if_neg (fun q => hc q.1)]
theorem mn_fl {d b n : Nat} {w : pi_W} {x z : Int32} (hC : af_Conf aw_Sh w) (hx : x = Int32.ofNat b) (hz : z.toInt = (n : Int)) (hbn : b + n ≤ 54) : ∀ (m i : Nat) {lv : pi_L}, i + m = n → pi_get lv 0 = some (.ref 61) → pi_get lv 1 = some (.int x) → pi_get lv 2 = some (.int z) → pi_get lv 3 = some (.int (Int32.ofNat i)) → hq_F d sm184 (fun r w' => w' = w ∧ ∃ v : Int32, r = some (.int v) ∧ v.toInt = tq_fi (fun k => decide (gl w 66 (b + k) = gl w 61 17)) (n - i) i) (2, lv, [], w) := by
  intro m
  induction m with
  | zero =>
    intro i lv hm g0 g1 g2 g3
    have ti : (Int32.ofNat i).toInt = (i : Int) := hn_t (by omega)
    have kc0 : ((Int32.ofInt (-1))).toInt = (-1) := by decide
    have kz := sy_z0
    refine hq_F.st (s' := (3, _, _, _)) hg184_2 rfl rfl rfl (hs_iln g3) ?_
    refine hq_F.st (s' := (4, _, _, _)) hg184_3 rfl rfl rfl (hs_iln g2) ?_
    refine hq_F.st (s' := (31, _, _, _)) hg184_4 rfl rfl rfl (hs_ic (ci_ge (by omega)) rfl) ?_
    refine hq_F.st (s' := (32, _, _, _)) hg184_31 rfl rfl rfl rfl ?_
    refine hq_F.en hg184_32 rfl rfl ?_
    exact ⟨rfl, _, rfl, by rw [show (n - i) = 0 by omega]; show (Int32.ofInt (-1)).toInt = -1; decide⟩
  | succ m ih =>
    intro i lv hm g0 g1 g2 g3
    have ti : (Int32.ofNat i).toInt = (i : Int) := hn_t (by omega)
    have kz := sy_z0
    refine hq_F.st (s' := (3, _, _, _)) hg184_2 rfl rfl rfl (hs_iln g3) ?_
    refine hq_F.st (s' := (4, _, _, _)) hg184_3 rfl rfl rfl (hs_iln g2) ?_
    refine hq_F.st (s' := (7, _, _, _)) hg184_4 rfl rfl rfl (hs_icn (t := 31) (ci_gen (by omega)) rfl) ?_
    refine hq_F.st (s' := (8, _, _, _)) hg184_7 rfl rfl rfl (hs_al g0) ?_
    refine hq_F.st (s' := (11, _, _, _)) hg184_8 rfl rfl rfl (hq_gf hC sh_61 sk_11_43 (hq_ref hC sh_61 (b := 66) rfl)) ?_
    refine hq_F.st (s' := (12, _, _, _)) hg184_11 rfl rfl rfl (hs_iln g1) ?_
    refine hq_F.st (s' := (13, _, _, _)) hg184_12 rfl rfl rfl (hs_iln g3) ?_
    refine hq_F.st (s' := (14, _, _, _)) hg184_13 rfl rfl rfl rfl ?_
    rw [hn_k (n := i) hx]
    refine hq_F.st (s' := (15, _, _, _)) hg184_14 rfl rfl rfl (sy_la hC sh_66 (n := b + i) (hn_t (by omega)) (by omega)) ?_
    refine hq_F.st (s' := (16, _, _, _)) hg184_15 rfl rfl rfl (hs_al g0) ?_
    refine hq_F.st (s' := (19, _, _, _)) hg184_16 rfl rfl rfl (hq_gf hC sh_61 sk_11_165 (sy_vl hC sh_61 rfl)) ?_
    refine hq_F.st (s' := (20, _, _, _)) hg184_19 rfl rfl rfl rfl ?_
    by_cases b20 : ¬ ((lg_cmp (gl w 66 (b + i)) (gl w 61 17))).toInt = 0
    · skip
      refine hq_F.st (s' := (25, _, _, _)) hg184_20 rfl rfl rfl (hs_if (ci_ne (by omega)) rfl) ?_
      refine hq_F.st (s' := (28, _, _, _)) hg184_25 rfl rfl rfl (hs_inc g3 (by decide)) ?_
      refine hq_F.st (s' := (2, _, _, _)) hg184_28 rfl rfl rfl rfl ?_
      rw [show (n - i) = (n - (i + 1)) + 1 by omega, tq_fi, if_neg (by rw [decide_eq_true_eq, ← lg_cmp0]; omega)]
      exact ih (i + 1) (by omega) (hg_nr g0 (by decide)) (hg_ne g1 (by decide)) (hg_ne g2 (by decide)) (by rw [← hn_s]; exact (pi_get_set _ _ _))
    · skip
      refine hq_F.st (s' := (23, _, _, _)) hg184_20 rfl rfl rfl (hs_ifn (t := 25) (ci_nen (by omega)) rfl) ?_
      refine hq_F.st (s' := (24, _, _, _)) hg184_23 rfl rfl rfl (hs_iln g3) ?_
      refine hq_F.en hg184_24 rfl (pi_ri _) ?_
      refine ⟨rfl, _, rfl, ?_⟩
      rw [show (n - i) = (n - (i + 1)) + 1 by omega, tq_fi, if_pos (by rw [decide_eq_true_eq, ← lg_cmp0]; omega)]
      exact ti
theorem mn_f {d off s : Nat} {w : pi_W} {NT : List nt_E} {u : List Nat} {x z : Int32} (hC : af_Conf aw_Sh w) (hN : NM w off NT) (ho : nt_ok NT) (hu : nt_w u) (hw : gl w 61 17 = Int64.ofNat (tq_c256 u)) (hx : x = Int32.ofNat (off + nt_b s)) (hz : z.toInt = (nt_c s NT : Int)) (hbn : off + nt_b s + nt_c s NT ≤ 54) : hq_F d sm184 (fun r w' => w' = w ∧ ∃ v : Int32, r = some (.int v) ∧ v.toInt = nt_f NT s u) (0, lv_args 0 [.ref 61, .int x, .int z], [], w) := by
  have g0 : pi_get (lv_args 0 [.ref 61, .int x, .int z]) 0 = some (.ref 61) := rfl
  have g1 : pi_get (lv_args 0 [.ref 61, .int x, .int z]) 1 = some (.int x) := rfl
  have g2 : pi_get (lv_args 0 [.ref 61, .int x, .int z]) 2 = some (.int z) := rfl
  refine hq_F.st (s' := (1, _, _, _)) hg184_0 rfl rfl rfl rfl ?_
  refine hq_F.st (s' := (2, _, _, _)) hg184_1 rfl rfl rfl rfl ?_
  refine (mn_fl hC hx hz hbn (nt_c s NT) 0 (by omega) (hg_nr g0 (by decide)) (hg_ne g1 (by decide)) (hg_ne g2 (by decide)) (pi_get_set _ _ _)).imp ?_
  rintro r w' ⟨q1, v, q2, q3⟩
  refine ⟨q1, v, q2, ?_⟩
  rw [q3, Nat.sub_zero, hw]
  exact nt_fi (f := fun k => gl w 66 (off + nt_b s + k)) ho hu (fun e he hs => by rw [← hs]; exact hN e he)
theorem mn_la {d B M off s : Nat} {tp : Nat → Nat} {w : pi_W} {t : tq_T} {NT : List nt_E} {x z : Int32} (h : MT tp B M w t) (hN : NM w off NT) (ho : nt_ok NT) (hx : x = Int32.ofNat (off + nt_b s)) (hz : z.toInt = (nt_c s NT : Int)) (hbn : off + nt_b s + nt_c s NT ≤ 54) : hq_F (d + 1) sm186 (fun r w' => (r = some (.int 1) ∧ (t.1 = 2 ∧ tq_kx t.2.2.2.1 = -1) ∧ ¬ nt_f NT s t.2.2.2.1 = -1 ∧ MT tp B M w' t ∧ af_Fr [(61, 18, 19)] w w' ∧ (gv w' 61 18).toInt = nt_f NT s t.2.2.2.1) ∨ (r = some (.int 0) ∧ MT tp B M w' t ∧ af_Fr [(61, 15, 17), (61, 18, 19)] w w' ∧ ((¬ (t.1 = 2 ∧ tq_kx t.2.2.2.1 = -1) ∧ FM w' 1 t.2.1) ∨ ((t.1 = 2 ∧ tq_kx t.2.2.2.1 = -1) ∧ nt_f NT s t.2.2.2.1 = -1 ∧ FM w' 3 t.2.1)))) (0, lv_args 0 [.ref 61, .int x, .int z], [], w) := by
  obtain ⟨hC, hP, hM, hV, ⟨f1, f2, f3, f4, f6⟩, hW1, hW2, hW3⟩ := id h
  have hm := tq_mk_c hW2 f1
  have g0 : pi_get (lv_args 0 [.ref 61, .int x, .int z]) 0 = some (.ref 61) := rfl
  have g1 : pi_get (lv_args 0 [.ref 61, .int x, .int z]) 1 = some (.int x) := rfl
  have g2 : pi_get (lv_args 0 [.ref 61, .int x, .int z]) 2 = some (.int z) := rfl
  have kc0 : ((0 : Int32)).toInt = 0 := by decide
  have kc1 : ((1 : Int32)).toInt = 1 := by decide
  have kc2 : ((Int32.ofInt 0)).toInt = 0 := by decide
  have kc3 : ((Int32.ofInt 1)).toInt = 1 := by decide
  have kc4 : ((Int32.ofInt 3)).toInt = 3 := by decide
  have kz := sy_z0
  refine hq_F.st (s' := (1, _, _, _)) hg186_0 rfl rfl rfl (hs_al g0) ?_
  refine hq_F.call hg186_1 rfl rfl si_11_195 (by decide) (by decide) sz_181 (sy_argsV hC sh_61 rfl rfl rfl (Nat.le_of_ble_eq_true rfl) rfl (Nat.le_of_ble_eq_true rfl) rfl (by decide)) (mt_isN h) (fun _ _ q => by rw [q.1]) ?_
  rintro r1 w ⟨rfl, rfl⟩
  try dsimp only
  by_cases hs : t.1 = 2 ∧ tq_kx t.2.2.2.1 = -1
  · rw [decide_eq_true hs, show tq_b true = (1 : Int32) from rfl]
    refine hq_F.st (s' := (13, _, _, _)) hg186_4 rfl rfl rfl (hs_if (ci_ne (by omega)) rfl) ?_
    have h2 := hs.1
    have hu : nt_w t.2.2.2.1 := hW3 h2
    have hr := nt_f_r (s := s) (u := t.2.2.2.1) ho
    refine hq_F.st (s' := (14, _, _, _)) hg186_13 rfl rfl rfl (hs_al g0) ?_
    refine hq_F.st (s' := (15, _, _, _)) hg186_14 rfl rfl rfl (hs_al g0) ?_
    refine hq_F.st (s' := (16, _, _, _)) hg186_15 rfl rfl rfl (hs_iln g1) ?_
    refine hq_F.st (s' := (17, _, _, _)) hg186_16 rfl rfl rfl (hs_iln g2) ?_
    refine hq_F.call hg186_17 rfl rfl si_11_199 (by decide) (by decide) sz_184 (sy_argsV hC sh_61 rfl rfl rfl (Nat.le_of_ble_eq_true rfl) rfl (Nat.le_of_ble_eq_true rfl) rfl (by decide)) (mn_f hC hN ho hu (f4 h2) hx hz hbn) (fun _ _ q => by rw [q.1]) ?_
    rintro r17 w ⟨rfl, v, rfl, hv⟩
    try dsimp only
    refine sy_pf hg186_20 hC sh_61 sk_11_188 (lo := -2147483648) (hi := 2147483647) rfl (af_i32 _) rfl rfl rfl (fun w1 hC1 hw1 => ?_)
    refine hq_F.st (s' := (24, _, _, _)) hg186_23 rfl rfl rfl (hs_al g0) ?_
    refine hq_F.st (s' := (27, _, _, _)) hg186_24 rfl rfl rfl (hq_gf hC1 sh_61 sk_11_188 (sy_v hC1 (by decide) rfl)) ?_
    have q24 : (gv w1 61 18).toInt = (v).toInt := by rw [wpv hw1, if_pos ⟨rfl, rfl⟩]
    by_cases b27 : 0 ≤ ((gv w1 61 18)).toInt
    · skip
      refine hq_F.st (s' := (38, _, _, _)) hg186_27 rfl rfl rfl (hs_if (ci_ge (by omega)) rfl) ?_
      refine hq_F.st (s' := (39, _, _, _)) hg186_38 rfl rfl rfl rfl ?_
      refine hq_F.st (s' := (43, _, _, _)) hg186_39 rfl rfl rfl rfl ?_
      refine hq_F.en hg186_43 rfl rfl ?_
      exact Or.inl ⟨rfl, hs, by omega, h.fr hC1 (wpF hw1) (by decide), wpF hw1, by rw [wpv hw1, if_pos ⟨rfl, rfl⟩]; exact hv⟩
    · skip
      refine hq_F.st (s' := (30, _, _, _)) hg186_27 rfl rfl rfl (hs_ifn (t := 38) (ci_gen (by omega)) rfl) ?_
      refine hq_F.st (s' := (31, _, _, _)) hg186_30 rfl rfl rfl (hs_al g0) ?_
      refine hq_F.st (s' := (32, _, _, _)) hg186_31 rfl rfl rfl rfl ?_
      refine hq_F.call hg186_32 rfl rfl si_11_178 (by decide) (by decide) sz_177 (sy_argsV hC1 sh_61 rfl rfl rfl (Nat.le_of_ble_eq_true rfl) rfl (Nat.le_of_ble_eq_true rfl) rfl (by decide)) (mt_bad (h.fr hC1 (wpF hw1) (by decide)) ((Int32.ofInt 3))) (fun _ _ q => by rw [q.2.1.1.1, hC1.1]) ?_
      rintro r32 w9 ⟨rfl, k1, k2, k3, k4⟩
      try dsimp only
      refine hq_F.st (s' := (42, _, _, _)) hg186_35 rfl rfl rfl (hs_if (ci_eq (by omega)) rfl) ?_
      refine hq_F.st (s' := (43, _, _, _)) hg186_42 rfl rfl rfl rfl ?_
      refine hq_F.en hg186_43 rfl rfl ?_
      exact Or.inr ⟨rfl, k1, ((wpF hw1).cov (by decide)).tr (k2.cov (by decide)), Or.inr ⟨hs, by omega, by rw [k3]; decide, k4⟩⟩
  · rw [decide_eq_false hs, show tq_b false = (0 : Int32) from rfl]
    refine hq_F.st (s' := (7, _, _, _)) hg186_4 rfl rfl rfl (hs_ifn (t := 13) (ci_nen (by omega)) rfl) ?_
    refine hq_F.st (s' := (8, _, _, _)) hg186_7 rfl rfl rfl (hs_al g0) ?_
    refine hq_F.st (s' := (9, _, _, _)) hg186_8 rfl rfl rfl rfl ?_
    refine hq_F.call hg186_9 rfl rfl si_11_178 (by decide) (by decide) sz_177 (sy_argsV hC sh_61 rfl rfl rfl (Nat.le_of_ble_eq_true rfl) rfl (Nat.le_of_ble_eq_true rfl) rfl (by decide)) (mt_bad h ((Int32.ofInt 1))) (fun _ _ q => by rw [q.2.1.1.1, hC.1]) ?_
    rintro r9 w9 ⟨rfl, k1, k2, k3, k4⟩
    try dsimp only
    refine hq_F.en hg186_12 rfl rfl ?_
    exact Or.inr ⟨rfl, k1, k2.cov (by decide), Or.inl ⟨hs, by rw [k3]; decide, k4⟩⟩
theorem mn_tk {d B M off s : Nat} {tp : Nat → Nat} {w : pi_W} {t : tq_T} {NT : List nt_E} {x z : Int32} (h : MT tp B M w t) (hN : NM w off NT) (ho : nt_ok NT) (hx : x = Int32.ofNat (off + nt_b s)) (hz : z.toInt = (nt_c s NT : Int)) (hbn : off + nt_b s + nt_c s NT ≤ 54) : hq_F (d + 2) sm187 (fun r w' => (r = some (.int 1) ∧ (t.1 = 2 ∧ tq_kx t.2.2.2.1 = -1) ∧ ¬ nt_f NT s t.2.2.2.1 = -1 ∧ MT tp B M w' (tq_nx tp B M t) ∧ af_Fr [(61, 4, 5), (61, 11, 15), (61, 17, 19)] w w' ∧ (gv w' 61 18).toInt = nt_f NT s t.2.2.2.1) ∨ (r = some (.int 0) ∧ MT tp B M w' t ∧ af_Fr [(61, 15, 17), (61, 18, 19)] w w' ∧ ((¬ (t.1 = 2 ∧ tq_kx t.2.2.2.1 = -1) ∧ FM w' 1 t.2.1) ∨ ((t.1 = 2 ∧ tq_kx t.2.2.2.1 = -1) ∧ nt_f NT s t.2.2.2.1 = -1 ∧ FM w' 3 t.2.1)))) (0, lv_args 0 [.ref 61, .int x, .int z], [], w) := by
  obtain ⟨hC, hP, hM, hV, ⟨f1, f2, f3, f4, f6⟩, hW1, hW2, hW3⟩ := id h
  have hm := tq_mk_c hW2 f1
  have g0 : pi_get (lv_args 0 [.ref 61, .int x, .int z]) 0 = some (.ref 61) := rfl
  have g1 : pi_get (lv_args 0 [.ref 61, .int x, .int z]) 1 = some (.int x) := rfl
  have g2 : pi_get (lv_args 0 [.ref 61, .int x, .int z]) 2 = some (.int z) := rfl
  have kc0 : ((0 : Int32)).toInt = 0 := by decide
  have kc1 : ((1 : Int32)).toInt = 1 := by decide
  have kc2 : ((Int32.ofInt 0)).toInt = 0 := by decide
  have kc3 : ((Int32.ofInt 1)).toInt = 1 := by decide
  have kz := sy_z0
  refine hq_F.st (s' := (1, _, _, _)) hg187_0 rfl rfl rfl (hs_al g0) ?_
  refine hq_F.st (s' := (2, _, _, _)) hg187_1 rfl rfl rfl (hs_iln g1) ?_
  refine hq_F.st (s' := (3, _, _, _)) hg187_2 rfl rfl rfl (hs_iln g2) ?_
  refine hq_F.call hg187_3 rfl rfl si_11_203 (by decide) (by decide) sz_186 (sy_argsV hC sh_61 rfl rfl rfl (Nat.le_of_ble_eq_true rfl) rfl (Nat.le_of_ble_eq_true rfl) rfl (by decide)) (mn_la (d := d) h hN ho hx hz hbn) (fun r w' q => by rcases q with q | q; rw [q.2.2.2.1.1.1, hC.1]; rw [q.2.1.1.1, hC.1]) ?_
  rintro r3 w7 q
  try dsimp only
  rcases q with ⟨rfl, q1, q2, q3, q4, q5⟩ | ⟨rfl, q1, q2, q3⟩
  · skip
    refine hq_F.st (s' := (11, _, _, _)) hg187_6 rfl rfl rfl (hs_if (ci_ne (by omega)) rfl) ?_
    refine hq_F.st (s' := (12, _, _, _)) hg187_11 rfl rfl rfl (hs_al g0) ?_
    refine hq_F.call hg187_12 rfl rfl si_11_181 (by decide) (by decide) sz_176 (sy_argsV q3.1 sh_61 rfl rfl rfl (Nat.le_of_ble_eq_true rfl) rfl (Nat.le_of_ble_eq_true rfl) rfl (by decide)) (mt_adv (d := d) q3 (by omega)) (fun _ _ q => by rw [q.2.1.1.1, q3.1.1]) ?_
    rintro r12 w8 ⟨rfl, k1, k2⟩
    try dsimp only
    refine hq_F.st (s' := (16, _, _, _)) hg187_15 rfl rfl rfl rfl ?_
    refine hq_F.en hg187_16 rfl rfl ?_
    exact Or.inl ⟨rfl, q1, q2, k1, (q4.cov (by decide)).tr (k2.cov (by decide)), by rw [gv_eq (k2 61 18 (by decide))]; exact q5⟩
  · skip
    refine hq_F.st (s' := (9, _, _, _)) hg187_6 rfl rfl rfl (hs_ifn (t := 11) (ci_nen (by omega)) rfl) ?_
    refine hq_F.st (s' := (10, _, _, _)) hg187_9 rfl rfl rfl rfl ?_
    refine hq_F.en hg187_10 rfl rfl ?_
    exact Or.inr ⟨rfl, q1, q2, q3⟩
