/-! ===== the model: bitOf, puts, readRoad; by program ===== -/
theorem si_11_191 : pi_look pi_iT 11 191 = some (2, 182, 2, 1453) := rfl
theorem si_11_220 : pi_look pi_iT 11 220 = some (2, 187, 2, 1434) := rfl
theorem si_11_229 : pi_look pi_iT 11 229 = some (0, 168, 2, 1442) := rfl
def sm168 : pi_M := (11, 2, (some .boolean), false, mc_168)
def sm183 : pi_M := (11, 4, (some .boolean), false, mc_183)
def sm189 : pi_M := (11, 2, (some .boolean), false, mc_189)
set_option maxRecDepth 100000 in
theorem sz_168 : pi_mt[168]? = some (mn_168, prog_13_method_8_code, (11, 2, (some .boolean), false, mc_168)) := rfl
set_option maxRecDepth 100000 in
theorem sz_183 : pi_mt[183]? = some (mn_183, prog_13_method_23_code, (11, 4, (some .boolean), false, mc_183)) := rfl
set_option maxRecDepth 100000 in
theorem sz_189 : pi_mt[189]? = some (mn_189, prog_13_method_29_code, (11, 2, (some .boolean), false, mc_189)) := rfl
theorem hg168_0 : pi_fetch mc_168 0 = some (.iload_n 0, 1) := rfl
theorem hg168_1 : pi_fetch mc_168 1 = some (.iload_n 1, 1) := rfl
theorem hg168_2 : pi_fetch mc_168 2 = some (.ishr, 1) := rfl
theorem hg168_3 : pi_fetch mc_168 3 = some (.iconst 1, 1) := rfl
theorem hg168_4 : pi_fetch mc_168 4 = some (.iand, 1) := rfl
theorem hg168_5 : pi_fetch mc_168 5 = some (.iconst 1, 1) := rfl
theorem hg168_6 : pi_fetch mc_168 6 = some (.if_icmp .ne 7, 3) := rfl
theorem hg168_9 : pi_fetch mc_168 9 = some (.iconst 1, 1) := rfl
theorem hg168_10 : pi_fetch mc_168 10 = some (.goto 4, 3) := rfl
theorem hg168_13 : pi_fetch mc_168 13 = some (.iconst 0, 1) := rfl
theorem hg168_14 : pi_fetch mc_168 14 = some (.ireturn, 1) := rfl
theorem hg183_0 : pi_fetch mc_183 0 = some (.aload_n 0, 1) := rfl
theorem hg183_1 : pi_fetch mc_183 1 = some (.iload_n 2, 1) := rfl
theorem hg183_2 : pi_fetch mc_183 2 = some (.iload_n 3, 1) := rfl
theorem hg183_3 : pi_fetch mc_183 3 = some (.invokevirtual 191, 3) := rfl
theorem hg183_6 : pi_fetch mc_183 6 = some (.ifCond .ne 5, 3) := rfl
theorem hg183_9 : pi_fetch mc_183 9 = some (.iconst 0, 1) := rfl
theorem hg183_10 : pi_fetch mc_183 10 = some (.ireturn, 1) := rfl
theorem hg183_11 : pi_fetch mc_183 11 = some (.aload_n 0, 1) := rfl
theorem hg183_12 : pi_fetch mc_183 12 = some (.getfield 37, 3) := rfl
theorem hg183_15 : pi_fetch mc_183 15 = some (.iload_n 1, 1) := rfl
theorem hg183_16 : pi_fetch mc_183 16 = some (.aload_n 0, 1) := rfl
theorem hg183_17 : pi_fetch mc_183 17 = some (.getfield 188, 3) := rfl
theorem hg183_20 : pi_fetch mc_183 20 = some (.iastore, 1) := rfl
theorem hg183_21 : pi_fetch mc_183 21 = some (.iconst 1, 1) := rfl
theorem hg183_22 : pi_fetch mc_183 22 = some (.ireturn, 1) := rfl
theorem hg189_0 : pi_fetch mc_189 0 = some (.aload_n 0, 1) := rfl
theorem hg189_1 : pi_fetch mc_189 1 = some (.getfield 37, 3) := rfl
theorem hg189_4 : pi_fetch mc_189 4 = some (.iconst 1, 1) := rfl
theorem hg189_5 : pi_fetch mc_189 5 = some (.iaload, 1) := rfl
theorem hg189_6 : pi_fetch mc_189 6 = some (.bipush 16, 2) := rfl
theorem hg189_8 : pi_fetch mc_189 8 = some (.if_icmp .ne 9, 3) := rfl
theorem hg189_11 : pi_fetch mc_189 11 = some (.aload_n 0, 1) := rfl
theorem hg189_12 : pi_fetch mc_189 12 = some (.iconst 4, 1) := rfl
theorem hg189_13 : pi_fetch mc_189 13 = some (.invokevirtual 178, 3) := rfl
theorem hg189_16 : pi_fetch mc_189 16 = some (.ireturn, 1) := rfl
theorem hg189_17 : pi_fetch mc_189 17 = some (.aload_n 0, 1) := rfl
theorem hg189_18 : pi_fetch mc_189 18 = some (.invokevirtual 181, 3) := rfl
theorem hg189_21 : pi_fetch mc_189 21 = some (.aload_n 0, 1) := rfl
theorem hg189_22 : pi_fetch mc_189 22 = some (.bipush 27, 2) := rfl
theorem hg189_24 : pi_fetch mc_189 24 = some (.aload_n 0, 1) := rfl
theorem hg189_25 : pi_fetch mc_189 25 = some (.getfield 37, 3) := rfl
theorem hg189_28 : pi_fetch mc_189 28 = some (.iconst 0, 1) := rfl
theorem hg189_29 : pi_fetch mc_189 29 = some (.iaload, 1) := rfl
theorem hg189_30 : pi_fetch mc_189 30 = some (.invokevirtual 220, 3) := rfl
theorem hg189_33 : pi_fetch mc_189 33 = some (.ifCond .ne 5, 3) := rfl
theorem hg189_36 : pi_fetch mc_189 36 = some (.iconst 0, 1) := rfl
theorem hg189_37 : pi_fetch mc_189 37 = some (.ireturn, 1) := rfl
theorem hg189_38 : pi_fetch mc_189 38 = some (.aload_n 0, 1) := rfl
theorem hg189_39 : pi_fetch mc_189 39 = some (.getfield 188, 3) := rfl
theorem hg189_42 : pi_fetch mc_189 42 = some (.istore_n 1, 1) := rfl
theorem hg189_43 : pi_fetch mc_189 43 = some (.aload_n 0, 1) := rfl
theorem hg189_44 : pi_fetch mc_189 44 = some (.bipush 27, 2) := rfl
theorem hg189_46 : pi_fetch mc_189 46 = some (.aload_n 0, 1) := rfl
theorem hg189_47 : pi_fetch mc_189 47 = some (.getfield 37, 3) := rfl
theorem hg189_50 : pi_fetch mc_189 50 = some (.iconst 0, 1) := rfl
theorem hg189_51 : pi_fetch mc_189 51 = some (.iaload, 1) := rfl
theorem hg189_52 : pi_fetch mc_189 52 = some (.invokevirtual 203, 3) := rfl
theorem hg189_55 : pi_fetch mc_189 55 = some (.ifCond .ne 5, 3) := rfl
theorem hg189_58 : pi_fetch mc_189 58 = some (.iconst 0, 1) := rfl
theorem hg189_59 : pi_fetch mc_189 59 = some (.ireturn, 1) := rfl
theorem hg189_60 : pi_fetch mc_189 60 = some (.iload_n 1, 1) := rfl
theorem hg189_61 : pi_fetch mc_189 61 = some (.aload_n 0, 1) := rfl
theorem hg189_62 : pi_fetch mc_189 62 = some (.getfield 188, 3) := rfl
theorem hg189_65 : pi_fetch mc_189 65 = some (.if_icmp .eq 21, 3) := rfl
theorem hg189_68 : pi_fetch mc_189 68 = some (.aload_n 0, 1) := rfl
theorem hg189_69 : pi_fetch mc_189 69 = some (.getfield 37, 3) := rfl
theorem hg189_72 : pi_fetch mc_189 72 = some (.iconst 5, 1) := rfl
theorem hg189_73 : pi_fetch mc_189 73 = some (.iload_n 1, 1) := rfl
theorem hg189_74 : pi_fetch mc_189 74 = some (.iadd, 1) := rfl
theorem hg189_75 : pi_fetch mc_189 75 = some (.iaload, 1) := rfl
theorem hg189_76 : pi_fetch mc_189 76 = some (.aload_n 0, 1) := rfl
theorem hg189_77 : pi_fetch mc_189 77 = some (.getfield 188, 3) := rfl
theorem hg189_80 : pi_fetch mc_189 80 = some (.invokestatic 229, 3) := rfl
theorem hg189_83 : pi_fetch mc_189 83 = some (.ifCond .eq 9, 3) := rfl
theorem hg189_86 : pi_fetch mc_189 86 = some (.aload_n 0, 1) := rfl
theorem hg189_87 : pi_fetch mc_189 87 = some (.iconst 3, 1) := rfl
theorem hg189_88 : pi_fetch mc_189 88 = some (.invokevirtual 178, 3) := rfl
theorem hg189_91 : pi_fetch mc_189 91 = some (.ireturn, 1) := rfl
theorem hg189_92 : pi_fetch mc_189 92 = some (.aload_n 0, 1) := rfl
theorem hg189_93 : pi_fetch mc_189 93 = some (.getfield 37, 3) := rfl
theorem hg189_96 : pi_fetch mc_189 96 = some (.iconst 5, 1) := rfl
theorem hg189_97 : pi_fetch mc_189 97 = some (.iload_n 1, 1) := rfl
theorem hg189_98 : pi_fetch mc_189 98 = some (.iadd, 1) := rfl
theorem hg189_99 : pi_fetch mc_189 99 = some (.dup2, 1) := rfl
theorem hg189_100 : pi_fetch mc_189 100 = some (.iaload, 1) := rfl
theorem hg189_101 : pi_fetch mc_189 101 = some (.iconst 1, 1) := rfl
theorem hg189_102 : pi_fetch mc_189 102 = some (.aload_n 0, 1) := rfl
theorem hg189_103 : pi_fetch mc_189 103 = some (.getfield 188, 3) := rfl
theorem hg189_106 : pi_fetch mc_189 106 = some (.ishl, 1) := rfl
theorem hg189_107 : pi_fetch mc_189 107 = some (.ior, 1) := rfl
theorem hg189_108 : pi_fetch mc_189 108 = some (.iastore, 1) := rfl
theorem hg189_109 : pi_fetch mc_189 109 = some (.aload_n 0, 1) := rfl
theorem hg189_110 : pi_fetch mc_189 110 = some (.getfield 37, 3) := rfl
theorem hg189_113 : pi_fetch mc_189 113 = some (.iconst 5, 1) := rfl
theorem hg189_114 : pi_fetch mc_189 114 = some (.aload_n 0, 1) := rfl
theorem hg189_115 : pi_fetch mc_189 115 = some (.getfield 188, 3) := rfl
theorem hg189_118 : pi_fetch mc_189 118 = some (.iadd, 1) := rfl
theorem hg189_119 : pi_fetch mc_189 119 = some (.dup2, 1) := rfl
theorem hg189_120 : pi_fetch mc_189 120 = some (.iaload, 1) := rfl
theorem hg189_121 : pi_fetch mc_189 121 = some (.iconst 1, 1) := rfl
theorem hg189_122 : pi_fetch mc_189 122 = some (.iload_n 1, 1) := rfl
theorem hg189_123 : pi_fetch mc_189 123 = some (.ishl, 1) := rfl
theorem hg189_124 : pi_fetch mc_189 124 = some (.ior, 1) := rfl
theorem hg189_125 : pi_fetch mc_189 125 = some (.iastore, 1) := rfl
theorem hg189_126 : pi_fetch mc_189 126 = some (.aload_n 0, 1) := rfl
theorem hg189_127 : pi_fetch mc_189 127 = some (.getfield 37, 3) := rfl
theorem hg189_130 : pi_fetch mc_189 130 = some (.iconst 1, 1) := rfl
theorem hg189_131 : pi_fetch mc_189 131 = some (.dup2, 1) := rfl
theorem hg189_132 : pi_fetch mc_189 132 = some (.iaload, 1) := rfl
theorem hg189_133 : pi_fetch mc_189 133 = some (.iconst 1, 1) := rfl
theorem hg189_134 : pi_fetch mc_189 134 = some (.iadd, 1) := rfl
theorem hg189_135 : pi_fetch mc_189 135 = some (.iastore, 1) := rfl
theorem hg189_136 : pi_fetch mc_189 136 = some (.aload_n 0, 1) := rfl
theorem hg189_137 : pi_fetch mc_189 137 = some (.invokevirtual 181, 3) := rfl
theorem hg189_140 : pi_fetch mc_189 140 = some (.iconst 1, 1) := rfl
theorem hg189_141 : pi_fetch mc_189 141 = some (.ireturn, 1) := rfl
theorem ml_w64 {w w' : pi_W} {j : Nat} {x : Value} (hw : wr1 w 64 j x w') (hj : j < 115) : af_Fr ml_N w w' := hq_fr (wpF hw) (fun c i hc => by
  have hq := hq_cov1.mp hc
  unfold ml_N af_cov
  simp only [List.any_cons, List.any_nil, Bool.or_false, Bool.or_eq_true, Bool.and_eq_true, beq_iff_eq, Nat.ble_eq, Nat.blt_eq]
  omega)
theorem hv_15 : ((Int8.ofInt 15).toInt32) = Int32.ofNat 15 := by decide
theorem hv_21 : ((Int8.ofInt 21).toInt32) = Int32.ofNat 21 := by decide
theorem hv_27 : ((Int8.ofInt 27).toInt32) = Int32.ofNat 27 := by decide
theorem hv_33 : ((Int8.ofInt 33).toInt32) = Int32.ofNat 33 := by decide
theorem hv_39 : ((Int8.ofInt 39).toInt32) = Int32.ofNat 39 := by decide
theorem hv_42 : ((Int8.ofInt 42).toInt32) = Int32.ofNat 42 := by decide
theorem hv_45 : ((Int8.ofInt 45).toInt32) = Int32.ofNat 45 := by decide
theorem hv_48 : ((Int8.ofInt 48).toInt32) = Int32.ofNat 48 := by decide
theorem hv_51 : ((Int8.ofInt 51).toInt32) = Int32.ofNat 51 := by decide
theorem hv_99 : ((Int8.ofInt 99).toInt32) = Int32.ofNat 99 := by decide
theorem hv_105 : ((Int8.ofInt 105).toInt32) = Int32.ofNat 105 := by decide
theorem hv_5 : Int32.ofInt 5 = Int32.ofNat 5 := by decide
theorem ml_bit {d k : Nat} {w : pi_W} {x : Int32} : hq_F d sm168 (fun r w' => w' = w ∧ r = some (.int (tq_b (ls_bit x k)))) (0, lv_args 0 [.int x, .int (Int32.ofNat k)], [], w) := by
  have g0 : pi_get (lv_args 0 [.int x, .int (Int32.ofNat k)]) 0 = some (.int x) := rfl
  have g1 : pi_get (lv_args 0 [.int x, .int (Int32.ofNat k)]) 1 = some (.int (Int32.ofNat k)) := rfl
  have kc0 : ((Int32.ofInt 0)).toInt = 0 := by decide
  have kc1 : ((Int32.ofInt 1)).toInt = 1 := by decide
  have kz := sy_z0
  refine hq_F.st (s' := (1, _, _, _)) hg168_0 rfl rfl rfl (hs_iln g0) ?_
  refine hq_F.st (s' := (2, _, _, _)) hg168_1 rfl rfl rfl (hs_iln g1) ?_
  refine hq_F.st (s' := (3, _, _, _)) hg168_2 rfl rfl rfl rfl ?_
  refine hq_F.st (s' := (4, _, _, _)) hg168_3 rfl rfl rfl rfl ?_
  refine hq_F.st (s' := (5, _, _, _)) hg168_4 rfl rfl rfl rfl ?_
  refine hq_F.st (s' := (6, _, _, _)) hg168_5 rfl rfl rfl rfl ?_
  by_cases b6 : ¬ (((x >>> ((Int32.ofNat k) &&& 31)) &&& (Int32.ofInt 1))).toInt = 1
  · skip
    refine hq_F.st (s' := (13, _, _, _)) hg168_6 rfl rfl rfl (hs_ic (ci_ne (by omega)) rfl) ?_
    refine hq_F.st (s' := (14, _, _, _)) hg168_13 rfl rfl rfl rfl ?_
    refine hq_F.en hg168_14 rfl rfl ?_
    exact ⟨rfl, by rw [show ls_bit x k = false from decide_eq_false (fun q => b6 (sy_one.mpr q))]; rfl⟩
  · skip
    refine hq_F.st (s' := (9, _, _, _)) hg168_6 rfl rfl rfl (hs_icn (t := 13) (ci_nen (by omega)) rfl) ?_
    refine hq_F.st (s' := (10, _, _, _)) hg168_9 rfl rfl rfl rfl ?_
    refine hq_F.st (s' := (14, _, _, _)) hg168_10 rfl rfl rfl rfl ?_
    refine hq_F.en hg168_14 rfl rfl ?_
    exact ⟨rfl, by rw [show ls_bit x k = true from decide_eq_true (sy_one.mp (Decidable.not_not.mp b6))]; rfl⟩
theorem ml_puts {d B M n : Nat} {tp : Nat → Nat} {w : pi_W} {t : tq_T} {x lo hi : Int32} (h : MT tp B M w t) (hx : x.toInt = (n : Int)) (hn : n < 115) (hr : ∀ v : Int32, lo.toInt ≤ v.toInt → v.toInt ≤ hi.toInt → ∀ q, af_seg sf_64 n = some q → q.1 ≤ v.toInt ∧ v.toInt ≤ q.2) : hq_F (d + 3) sm183 (fun r w' => (r = some (.int 1) ∧ t.1 = 3 ∧ (lo.toInt ≤ (t.2.2.1 : Int) ∧ (t.2.2.1 : Int) ≤ hi.toInt) ∧ MT tp B M w' (tq_nx tp B M t) ∧ ∃ w1 v, af_Fr [(61, 4, 5), (61, 11, 15), (61, 17, 19)] w w1 ∧ v.toInt = (t.2.2.1 : Int) ∧ wr1 w1 64 n (.int v) w') ∨ (r = some (.int 0) ∧ MT tp B M w' t ∧ af_Fr [(61, 15, 17)] w w' ∧ ¬ (t.1 = 3 ∧ lo.toInt ≤ (t.2.2.1 : Int) ∧ (t.2.2.1 : Int) ≤ hi.toInt) ∧ FM w' (if t.1 = 3 then 2 else 1) t.2.1)) (0, lv_args 0 [.ref 61, .int x, .int lo, .int hi], [], w) := by
  have g0 : pi_get (lv_args 0 [.ref 61, .int x, .int lo, .int hi]) 0 = some (.ref 61) := rfl
  have g1 : pi_get (lv_args 0 [.ref 61, .int x, .int lo, .int hi]) 1 = some (.int x) := rfl
  have g2 : pi_get (lv_args 0 [.ref 61, .int x, .int lo, .int hi]) 2 = some (.int lo) := rfl
  have g3 : pi_get (lv_args 0 [.ref 61, .int x, .int lo, .int hi]) 3 = some (.int hi) := rfl
  have kc0 : ((0 : Int32)).toInt = 0 := by decide
  have kc1 : ((1 : Int32)).toInt = 1 := by decide
  have kc2 : ((Int32.ofInt 0)).toInt = 0 := by decide
  have kc3 : ((Int32.ofInt 1)).toInt = 1 := by decide
  have kz := sy_z0
  refine hq_F.st (s' := (1, _, _, _)) hg183_0 rfl rfl rfl (hs_al g0) ?_
  refine hq_F.st (s' := (2, _, _, _)) hg183_1 rfl rfl rfl (hs_iln g2) ?_
  refine hq_F.st (s' := (3, _, _, _)) hg183_2 rfl rfl rfl (hs_iln g3) ?_
  refine hq_F.call hg183_3 rfl rfl si_11_191 (by decide) (by decide) sz_182 (sy_argsV h.1 sh_61 rfl rfl rfl (Nat.le_of_ble_eq_true rfl) rfl (Nat.le_of_ble_eq_true rfl) rfl (by decide)) (mt_num (d := d) h lo hi) (fun r w' q => by rcases q with ⟨_, _, _, q, _⟩ | ⟨_, q, _⟩; rw [q.1.1, h.1.1]; rw [q.1.1, h.1.1]) ?_
  rintro r3 w1 q
  try dsimp only
  rcases q with ⟨rfl, n1, r1, h1, F1, e1⟩ | ⟨rfl, h1, F1, r1, q⟩
  · skip
    refine hq_F.st (s' := (11, _, _, _)) hg183_6 rfl rfl rfl (hs_if (ci_ne (by omega)) rfl) ?_
    refine hq_F.st (s' := (12, _, _, _)) hg183_11 rfl rfl rfl (hs_al g0) ?_
    refine hq_F.st (s' := (15, _, _, _)) hg183_12 rfl rfl rfl (hq_gf h1.1 sh_61 sk_11_37 (hq_ref h1.1 sh_61 (b := 64) rfl)) ?_
    refine hq_F.st (s' := (16, _, _, _)) hg183_15 rfl rfl rfl (hs_iln g1) ?_
    refine hq_F.st (s' := (17, _, _, _)) hg183_16 rfl rfl rfl (hs_al g0) ?_
    refine hq_F.st (s' := (20, _, _, _)) hg183_17 rfl rfl rfl (hq_gf h1.1 sh_61 sk_11_188 (sy_v h1.1 (by decide) rfl)) ?_
    refine sy_isv hg183_20 h1.1 sh_64 (n := n) hx (by omega) (hr _ (by omega) (by omega)) (fun w2 hC2 hw2 => ?_)
    refine hq_F.st (s' := (22, _, _, _)) hg183_21 rfl rfl rfl rfl ?_
    refine hq_F.en hg183_22 rfl rfl ?_
    exact Or.inl ⟨rfl, n1, r1, h1.fr hC2 (wpF hw2) rfl, w1, gv w1 61 18, F1, e1, hw2⟩
  · skip
    refine hq_F.st (s' := (9, _, _, _)) hg183_6 rfl rfl rfl (hs_ifn (t := 11) (ci_nen (by omega)) rfl) ?_
    refine hq_F.st (s' := (10, _, _, _)) hg183_9 rfl rfl rfl rfl ?_
    refine hq_F.en hg183_10 rfl rfl ?_
    exact Or.inr ⟨rfl, h1, F1, r1, q⟩
theorem ml_road {d B M : Nat} {tp : Nat → Nat} {w : pi_W} {σ : ls_S} (hO : MO tp B M w σ) (hJ : ls_J σ) (h2t : 2 ≤ σ.1.1) : hq_F (d + 3) sm189 (ml_P tp B M (ls_b (ls_more tp B M σ.2.2.1 16 σ) (ls_road tp B M)) w) (0, lv_args 0 [.ref 61], [], w) := by
  obtain ⟨t, A, nr, NT⟩ := σ
  obtain ⟨h, hL⟩ := hO
  obtain ⟨⟨ho, ⟨m0, m2, m3, m4⟩, mr, i3, i7⟩, j8⟩ := id hJ
  dsimp only at *
  have hL : MLx w A nr NT NT := hL
  have g0 : pi_get (lv_args 0 [.ref 61]) 0 = some (.ref 61) := rfl
  have kc0 : (((Int8.ofInt 16).toInt32)).toInt = 16 := by decide
  have kc1 : (((Int8.ofInt 27).toInt32)).toInt = 27 := by decide
  have kc2 : ((0 : Int32)).toInt = 0 := by decide
  have kc3 : ((1 : Int32)).toInt = 1 := by decide
  have kc4 : ((Int32.ofInt 0)).toInt = 0 := by decide
  have kc5 : ((Int32.ofInt 1)).toInt = 1 := by decide
  have kc6 : ((Int32.ofInt 3)).toInt = 3 := by decide
  have kc7 : ((Int32.ofInt 4)).toInt = 4 := by decide
  have kc8 : ((Int32.ofInt 5)).toInt = 5 := by decide
  have kz := sy_z0
  refine hq_F.st (s' := (1, _, _, _)) hg189_0 rfl rfl rfl (hs_al g0) ?_
  refine hq_F.st (s' := (4, _, _, _)) hg189_1 rfl rfl rfl (hq_gf h.1 sh_61 sk_11_37 (hq_ref h.1 sh_61 (b := 64) rfl)) ?_
  refine hq_F.st (s' := (5, _, _, _)) hg189_4 rfl rfl rfl rfl ?_
  refine hq_F.st (s' := (6, _, _, _)) hg189_5 rfl rfl rfl (sy_iav h.1 sh_64 (n := 1) (by decide) (by decide)) ?_
  refine hq_F.st (s' := (8, _, _, _)) hg189_6 rfl rfl rfl rfl ?_
  have hr1 := hL.2.2.1
  by_cases b8 : ¬ ((gv w 64 (1))).toInt = 16
  · skip
    refine hq_F.st (s' := (17, _, _, _)) hg189_8 rfl rfl rfl (hs_ic (ci_ne (by omega)) rfl) ?_
    refine hq_F.st (s' := (18, _, _, _)) hg189_17 rfl rfl rfl (hs_al g0) ?_
    refine hq_F.call hg189_18 rfl rfl si_11_181 (by decide) (by decide) sz_176 (sy_argsV h.1 sh_61 rfl rfl rfl (Nat.le_of_ble_eq_true rfl) rfl (Nat.le_of_ble_eq_true rfl) rfl (by decide)) (mt_adv (d := d + 1) h h2t) (fun _ _ q => by rw [q.2.1.1.1, h.1.1]) ?_
    rintro r18 w1 ⟨rfl, h1, F1⟩
    try dsimp only
    have hL1 := hL.fr F1 (by decide) (by decide)
    refine hq_F.st (s' := (22, _, _, _)) hg189_21 rfl rfl rfl (hs_al g0) ?_
    refine hq_F.st (s' := (24, _, _, _)) hg189_22 rfl rfl rfl rfl ?_
    refine hq_F.st (s' := (25, _, _, _)) hg189_24 rfl rfl rfl (hs_al g0) ?_
    refine hq_F.st (s' := (28, _, _, _)) hg189_25 rfl rfl rfl (hq_gf h1.1 sh_61 sk_11_37 (hq_ref h1.1 sh_61 (b := 64) rfl)) ?_
    refine hq_F.st (s' := (29, _, _, _)) hg189_28 rfl rfl rfl rfl ?_
    refine hq_F.st (s' := (30, _, _, _)) hg189_29 rfl rfl rfl (sy_iav h1.1 sh_64 (n := 0) (by decide) (by decide)) ?_
    refine hq_F.call hg189_30 rfl rfl si_11_220 (by decide) (by decide) sz_187 (sy_argsV h1.1 sh_61 rfl rfl rfl (Nat.le_of_ble_eq_true rfl) rfl (Nat.le_of_ble_eq_true rfl) rfl (by decide)) (mn_tk (d := d) (off := 27) (s := 0) h1 hL1.1 ho (by decide) (hL1.2.1 0 (by omega)) (by show 27 + 0 + nt_c 0 NT ≤ 54; omega)) (fun r w' q => by rcases q with ⟨_, _, _, q, _⟩ | ⟨_, q, _⟩; rw [q.1.1, h1.1.1]; rw [q.1.1, h1.1.1]) ?_
    rintro r30 w2 q
    try dsimp only
    rcases q with ⟨rfl, n2, f2, h2, F2, g2⟩ | ⟨rfl, h2, F2, q⟩
    · obtain ⟨a, ha, ea, la⟩ := ls_look_in ho (by omega) n2 g2 f2
      have ta : (Int32.ofNat a).toInt = (a : Int) := hn_t (by omega)
      have hL2 := hL1.fr F2 (by decide) (by decide)
      refine hq_F.st (s' := (38, _, _, _)) hg189_33 rfl rfl rfl (hs_if (ci_ne (by omega)) rfl) ?_
      refine hq_F.st (s' := (39, _, _, _)) hg189_38 rfl rfl rfl (hs_al g0) ?_
      refine hq_F.st (s' := (42, _, _, _)) hg189_39 rfl rfl rfl (hq_gf h2.1 sh_61 sk_11_188 (sy_v h2.1 (by decide) rfl)) ?_
      rw [show gv w2 61 18 = Int32.ofNat a from by exact ea]
      refine hq_F.st (s' := (43, _, _, _)) hg189_42 rfl rfl rfl rfl ?_
      refine hq_F.st (s' := (44, _, _, _)) hg189_43 rfl rfl rfl (hs_al (hg_nr g0 (by decide))) ?_
      refine hq_F.st (s' := (46, _, _, _)) hg189_44 rfl rfl rfl rfl ?_
      refine hq_F.st (s' := (47, _, _, _)) hg189_46 rfl rfl rfl (hs_al (hg_nr g0 (by decide))) ?_
      refine hq_F.st (s' := (50, _, _, _)) hg189_47 rfl rfl rfl (hq_gf h2.1 sh_61 sk_11_37 (hq_ref h2.1 sh_61 (b := 64) rfl)) ?_
      refine hq_F.st (s' := (51, _, _, _)) hg189_50 rfl rfl rfl rfl ?_
      refine hq_F.st (s' := (52, _, _, _)) hg189_51 rfl rfl rfl (sy_iav h2.1 sh_64 (n := 0) (by decide) (by decide)) ?_
      refine hq_F.call hg189_52 rfl rfl si_11_203 (by decide) (by decide) sz_186 (sy_argsV h2.1 sh_61 rfl rfl rfl (Nat.le_of_ble_eq_true rfl) rfl (Nat.le_of_ble_eq_true rfl) rfl (by decide)) (mn_la (d := d + 1) (off := 27) (s := 0) h2 hL2.1 ho (by decide) (hL2.2.1 0 (by omega)) (by show 27 + 0 + nt_c 0 NT ≤ 54; omega)) (fun r w' q => by rcases q with ⟨_, _, _, q, _⟩ | ⟨_, q, _⟩; rw [q.1.1, h2.1.1]; rw [q.1.1, h2.1.1]) ?_
      rintro r52 w3 q
      try dsimp only
      rcases q with ⟨rfl, n3, f3, h3, F3, g3⟩ | ⟨rfl, h3, F3, q⟩
      · obtain ⟨b, hb, eb, lb⟩ := ls_look_in ho (by omega) n3 g3 f3
        have tb : (Int32.ofNat b).toInt = (b : Int) := hn_t (by omega)
        have hL3 := hL2.fr F3 (by decide) (by decide)
        refine hq_F.st (s' := (60, _, _, _)) hg189_55 rfl rfl rfl (hs_if (ci_ne (by omega)) rfl) ?_
        refine hq_F.st (s' := (61, _, _, _)) hg189_60 rfl rfl rfl (hs_iln (pi_get_set _ _ _)) ?_
        refine hq_F.st (s' := (62, _, _, _)) hg189_61 rfl rfl rfl (hs_al (hg_nr g0 (by decide))) ?_
        refine hq_F.st (s' := (65, _, _, _)) hg189_62 rfl rfl rfl (hq_gf h3.1 sh_61 sk_11_188 (sy_v h3.1 (by decide) rfl)) ?_
        rw [show gv w3 61 18 = Int32.ofNat b from by exact eb]
        by_cases b65 : ((Int32.ofNat a)).toInt = ((Int32.ofNat b)).toInt
        · skip
          refine hq_F.st (s' := (86, _, _, _)) hg189_65 rfl rfl rfl (hs_ic (ci_eq (by omega)) rfl) ?_
          refine hq_F.st (s' := (87, _, _, _)) hg189_86 rfl rfl rfl (hs_al (hg_nr g0 (by decide))) ?_
          refine hq_F.st (s' := (88, _, _, _)) hg189_87 rfl rfl rfl rfl ?_
          refine hq_F.call hg189_88 rfl rfl si_11_178 (by decide) (by decide) sz_177 (sy_argsV h3.1 sh_61 rfl rfl rfl (Nat.le_of_ble_eq_true rfl) rfl (Nat.le_of_ble_eq_true rfl) rfl (by decide)) (mt_bad h3 ((Int32.ofInt 3))) (fun _ _ q => by rw [q.2.1.1.1, h3.1.1]) ?_
          rintro r88 w9 ⟨rfl, k1, k2, k3, k4⟩
          try dsimp only
          refine hq_F.en hg189_91 rfl rfl ?_
          exact ⟨k1.1, ((F1.cov (by decide)).tr ((F2.cov (by decide)).tr (F3.cov (by decide)))).tr (k2.cov (by decide)), Or.inr ⟨rfl, 3, (tq_nx tp B M (tq_nx tp B M t)).2.1, by show ls_b (ls_more tp B M nr 16 (t, A, nr, NT)) _ = _; rw [show ls_more tp B M nr 16 (t, A, nr, NT) = .inr ((tq_nx tp B M t), A, nr, NT) from if_pos (by omega)]; rw [ls_br]; show ls_b (ls_look 0 (tq_nx tp B M t) NT) _ = _; rw [la, ls_br]; show ls_b (ls_look 0 (tq_nx tp B M (tq_nx tp B M t)) NT) _ = _; rw [lb, ls_br]; exact if_pos (Or.inl (by omega)), by rw [k3]; decide, k4⟩⟩
        · skip
          refine hq_F.st (s' := (68, _, _, _)) hg189_65 rfl rfl rfl (hs_icn (t := 86) (ci_eqn (by omega)) rfl) ?_
          refine hq_F.st (s' := (69, _, _, _)) hg189_68 rfl rfl rfl (hs_al (hg_nr g0 (by decide))) ?_
          refine hq_F.st (s' := (72, _, _, _)) hg189_69 rfl rfl rfl (hq_gf h3.1 sh_61 sk_11_37 (hq_ref h3.1 sh_61 (b := 64) rfl)) ?_
          refine hq_F.st (s' := (73, _, _, _)) hg189_72 rfl rfl rfl rfl ?_
          refine hq_F.st (s' := (74, _, _, _)) hg189_73 rfl rfl rfl (hs_iln (pi_get_set _ _ _)) ?_
          refine hq_F.st (s' := (75, _, _, _)) hg189_74 rfl rfl rfl rfl ?_
          refine hq_F.st (s' := (76, _, _, _)) hg189_75 rfl rfl rfl (sy_iav h3.1 sh_64 (n := 5 + a) (by rw [hn_k (n := a) hv_5]; exact hn_t (by omega)) (by omega)) ?_
          rw [show gv w3 64 (5 + a) = A 0 a from (hL3.2.2.2.get (c := 0) (k := a) (by decide) (by show a < 10; omega))]
          refine hq_F.st (s' := (77, _, _, _)) hg189_76 rfl rfl rfl (hs_al (hg_nr g0 (by decide))) ?_
          refine hq_F.st (s' := (80, _, _, _)) hg189_77 rfl rfl rfl (hq_gf h3.1 sh_61 sk_11_188 (sy_v h3.1 (by decide) rfl)) ?_
          rw [show gv w3 61 18 = Int32.ofNat b from by exact eb]
          refine hq_F.call hg189_80 rfl rfl si_11_229 (by decide) (by decide) sz_168 (sy_argsS rfl rfl rfl (Nat.le_of_ble_eq_true rfl) (by decide) rfl (Nat.le_of_ble_eq_true rfl) (by decide)) (ml_bit (k := b)) (fun _ _ q => by rw [q.1]) ?_
          rintro r80 w3 ⟨rfl, rfl⟩
          try dsimp only
          cases hbit : ls_bit (A 0 a) b
          · rw [show tq_b false = (0 : Int32) from rfl]
            refine hq_F.st (s' := (92, _, _, _)) hg189_83 rfl rfl rfl (hs_if (ci_eq (by omega)) rfl) ?_
            refine hq_F.st (s' := (93, _, _, _)) hg189_92 rfl rfl rfl (hs_al (hg_nr g0 (by decide))) ?_
            refine hq_F.st (s' := (96, _, _, _)) hg189_93 rfl rfl rfl (hq_gf h3.1 sh_61 sk_11_37 (hq_ref h3.1 sh_61 (b := 64) rfl)) ?_
            refine hq_F.st (s' := (97, _, _, _)) hg189_96 rfl rfl rfl rfl ?_
            refine hq_F.st (s' := (98, _, _, _)) hg189_97 rfl rfl rfl (hs_iln (pi_get_set _ _ _)) ?_
            refine hq_F.st (s' := (99, _, _, _)) hg189_98 rfl rfl rfl rfl ?_
            refine hq_F.st (s' := (100, _, _, _)) hg189_99 rfl rfl rfl rfl ?_
            refine hq_F.st (s' := (101, _, _, _)) hg189_100 rfl rfl rfl (sy_iav h3.1 sh_64 (n := 5 + a) (by rw [hn_k (n := a) hv_5]; exact hn_t (by omega)) (by omega)) ?_
            rw [show gv w3 64 (5 + a) = A 0 a from (hL3.2.2.2.get (c := 0) (k := a) (by decide) (by show a < 10; omega))]
            refine hq_F.st (s' := (102, _, _, _)) hg189_101 rfl rfl rfl rfl ?_
            refine hq_F.st (s' := (103, _, _, _)) hg189_102 rfl rfl rfl (hs_al (hg_nr g0 (by decide))) ?_
            refine hq_F.st (s' := (106, _, _, _)) hg189_103 rfl rfl rfl (hq_gf h3.1 sh_61 sk_11_188 (sy_v h3.1 (by decide) rfl)) ?_
            rw [show gv w3 61 18 = Int32.ofNat b from by exact eb]
            refine hq_F.st (s' := (107, _, _, _)) hg189_106 rfl rfl rfl rfl ?_
            refine hq_F.st (s' := (108, _, _, _)) hg189_107 rfl rfl rfl rfl ?_
            refine sy_isv hg189_108 h3.1 sh_64 (n := 5 + a) (by rw [hn_k (n := a) hv_5]; exact hn_t (by omega)) (by omega) (sy_full (sn_5 _ (by omega) (by omega))) (fun w4 hC4 hw4 => ?_)
            have hT4 := h3.fr hC4 (wpF hw4) rfl
            have hL4 := hL3.put (c0 := 0) (k0 := a) (by decide) (by show a < 10; omega) hw4
            refine hq_F.st (s' := (110, _, _, _)) hg189_109 rfl rfl rfl (hs_al (hg_nr g0 (by decide))) ?_
            refine hq_F.st (s' := (113, _, _, _)) hg189_110 rfl rfl rfl (hq_gf hC4 sh_61 sk_11_37 (hq_ref hC4 sh_61 (b := 64) rfl)) ?_
            refine hq_F.st (s' := (114, _, _, _)) hg189_113 rfl rfl rfl rfl ?_
            refine hq_F.st (s' := (115, _, _, _)) hg189_114 rfl rfl rfl (hs_al (hg_nr g0 (by decide))) ?_
            refine hq_F.st (s' := (118, _, _, _)) hg189_115 rfl rfl rfl (hq_gf hC4 sh_61 sk_11_188 (sy_v hC4 (by decide) rfl)) ?_
            rw [show gv w4 61 18 = Int32.ofNat b from by rw [wpv hw4, if_neg (by omega)]; exact eb]
            refine hq_F.st (s' := (119, _, _, _)) hg189_118 rfl rfl rfl rfl ?_
            refine hq_F.st (s' := (120, _, _, _)) hg189_119 rfl rfl rfl rfl ?_
            refine hq_F.st (s' := (121, _, _, _)) hg189_120 rfl rfl rfl (sy_iav hC4 sh_64 (n := 5 + b) (by rw [hn_k (n := b) hv_5]; exact hn_t (by omega)) (by omega)) ?_
            rw [show gv w4 64 (5 + b) = (ld_u A 0 a (ls_or (A 0 a) b)) 0 b from (hL4.2.2.2.get (c := 0) (k := b) (by decide) (by show b < 10; omega))]
            refine hq_F.st (s' := (122, _, _, _)) hg189_121 rfl rfl rfl rfl ?_
            refine hq_F.st (s' := (123, _, _, _)) hg189_122 rfl rfl rfl (hs_iln (pi_get_set _ _ _)) ?_
            refine hq_F.st (s' := (124, _, _, _)) hg189_123 rfl rfl rfl rfl ?_
            refine hq_F.st (s' := (125, _, _, _)) hg189_124 rfl rfl rfl rfl ?_
            refine sy_isv hg189_125 hC4 sh_64 (n := 5 + b) (by rw [hn_k (n := b) hv_5]; exact hn_t (by omega)) (by omega) (sy_full (sn_5 _ (by omega) (by omega))) (fun w5 hC5 hw5 => ?_)
            have hT5 := hT4.fr hC5 (wpF hw5) rfl
            have hL5 := hL4.put (c0 := 0) (k0 := b) (by decide) (by show b < 10; omega) hw5
            refine hq_F.st (s' := (127, _, _, _)) hg189_126 rfl rfl rfl (hs_al (hg_nr g0 (by decide))) ?_
            refine hq_F.st (s' := (130, _, _, _)) hg189_127 rfl rfl rfl (hq_gf hC5 sh_61 sk_11_37 (hq_ref hC5 sh_61 (b := 64) rfl)) ?_
            refine hq_F.st (s' := (131, _, _, _)) hg189_130 rfl rfl rfl rfl ?_
            refine hq_F.st (s' := (132, _, _, _)) hg189_131 rfl rfl rfl rfl ?_
            refine hq_F.st (s' := (133, _, _, _)) hg189_132 rfl rfl rfl (sy_iav hC5 sh_64 (n := 1) (by decide) (by decide)) ?_
            rw [show gv w5 64 (1) = Int32.ofNat nr from (hn_e hL5.2.2.1 (by omega))]
            refine hq_F.st (s' := (134, _, _, _)) hg189_133 rfl rfl rfl rfl ?_
            refine hq_F.st (s' := (135, _, _, _)) hg189_134 rfl rfl rfl rfl ?_
            rw [hn_s]
            have tr : (Int32.ofNat (nr + 1)).toInt = ((nr + 1 : Nat) : Int) := hn_t (by omega)
            refine sy_isv hg189_135 hC5 sh_64 (n := 1) (by decide) (by decide) (sy_sr sn_1 (by omega) (by omega)) (fun w6 hC6 hw6 => ?_)
            have hT6 := hT5.fr hC6 (wpF hw6) rfl
            have hL6 := hL5.road hw6 tr
            refine hq_F.st (s' := (137, _, _, _)) hg189_136 rfl rfl rfl (hs_al (hg_nr g0 (by decide))) ?_
            refine hq_F.call hg189_137 rfl rfl si_11_181 (by decide) (by decide) sz_176 (sy_argsV hC6 sh_61 rfl rfl rfl (Nat.le_of_ble_eq_true rfl) rfl (Nat.le_of_ble_eq_true rfl) rfl (by decide)) (mt_adv (d := d + 1) hT6 (by have := n3.1; omega)) (fun _ _ q => by rw [q.2.1.1.1, hC6.1]) ?_
            rintro r137 w7 ⟨rfl, h7, F7⟩
            try dsimp only
            refine hq_F.st (s' := (141, _, _, _)) hg189_140 rfl rfl rfl rfl ?_
            refine hq_F.en hg189_141 rfl rfl ?_
            exact ⟨h7.1, ((F1.cov (by decide)).tr ((F2.cov (by decide)).tr (F3.cov (by decide)))).tr ((ml_w64 hw4 (by omega)).tr ((ml_w64 hw5 (by omega)).tr ((ml_w64 hw6 (by omega)).tr (F7.cov (by decide))))), Or.inl ⟨rfl, (tq_nx tp B M (tq_nx tp B M (tq_nx tp B M t)), ld_u (ld_u A 0 a (ls_or (A 0 a) b)) 0 b (ls_or ((ld_u A 0 a (ls_or (A 0 a) b)) 0 b) a), nr + 1, NT), by show ls_b (ls_more tp B M nr 16 (t, A, nr, NT)) _ = _; rw [show ls_more tp B M nr 16 (t, A, nr, NT) = .inr ((tq_nx tp B M t), A, nr, NT) from if_pos (by omega)]; rw [ls_br]; show ls_b (ls_look 0 (tq_nx tp B M t) NT) _ = _; rw [la, ls_br]; show ls_b (ls_look 0 (tq_nx tp B M (tq_nx tp B M t)) NT) _ = _; rw [lb, ls_br]; exact if_neg (by rintro (q | q); omega; rw [hbit] at q; cases q), h7, hL6.fr F7 (by decide) (by decide)⟩⟩
          · rw [show tq_b true = (1 : Int32) from rfl]
            refine hq_F.st (s' := (86, _, _, _)) hg189_83 rfl rfl rfl (hs_ifn (t := 92) (ci_eqn (by omega)) rfl) ?_
            refine hq_F.st (s' := (87, _, _, _)) hg189_86 rfl rfl rfl (hs_al (hg_nr g0 (by decide))) ?_
            refine hq_F.st (s' := (88, _, _, _)) hg189_87 rfl rfl rfl rfl ?_
            refine hq_F.call hg189_88 rfl rfl si_11_178 (by decide) (by decide) sz_177 (sy_argsV h3.1 sh_61 rfl rfl rfl (Nat.le_of_ble_eq_true rfl) rfl (Nat.le_of_ble_eq_true rfl) rfl (by decide)) (mt_bad h3 ((Int32.ofInt 3))) (fun _ _ q => by rw [q.2.1.1.1, h3.1.1]) ?_
            rintro r88 w9 ⟨rfl, k1, k2, k3, k4⟩
            try dsimp only
            refine hq_F.en hg189_91 rfl rfl ?_
            exact ⟨k1.1, ((F1.cov (by decide)).tr ((F2.cov (by decide)).tr (F3.cov (by decide)))).tr (k2.cov (by decide)), Or.inr ⟨rfl, 3, (tq_nx tp B M (tq_nx tp B M t)).2.1, by show ls_b (ls_more tp B M nr 16 (t, A, nr, NT)) _ = _; rw [show ls_more tp B M nr 16 (t, A, nr, NT) = .inr ((tq_nx tp B M t), A, nr, NT) from if_pos (by omega)]; rw [ls_br]; show ls_b (ls_look 0 (tq_nx tp B M t) NT) _ = _; rw [la, ls_br]; show ls_b (ls_look 0 (tq_nx tp B M (tq_nx tp B M t)) NT) _ = _; rw [lb, ls_br]; exact if_pos (Or.inr hbit), by rw [k3]; decide, k4⟩⟩
      · skip
        refine hq_F.st (s' := (58, _, _, _)) hg189_55 rfl rfl rfl (hs_ifn (t := 60) (ci_nen (by omega)) rfl) ?_
        refine hq_F.st (s' := (59, _, _, _)) hg189_58 rfl rfl rfl rfl ?_
        refine hq_F.en hg189_59 rfl rfl ?_
        rcases q with ⟨q1, q2⟩ | ⟨q1, q2, q3⟩
        · exact ⟨h3.1, ((F1.cov (by decide)).tr ((F2.cov (by decide)).tr (F3.cov (by decide)))), Or.inr ⟨rfl, 1, (tq_nx tp B M (tq_nx tp B M t)).2.1, by show ls_b (ls_more tp B M nr 16 (t, A, nr, NT)) _ = _; rw [show ls_more tp B M nr 16 (t, A, nr, NT) = .inr ((tq_nx tp B M t), A, nr, NT) from if_pos (by omega)]; rw [ls_br]; show ls_b (ls_look 0 (tq_nx tp B M t) NT) _ = _; rw [la, ls_br]; show ls_b (ls_look 0 (tq_nx tp B M (tq_nx tp B M t)) NT) _ = _; rw [ls_look_1 q1]; rfl, q2⟩⟩
        · exact ⟨h3.1, ((F1.cov (by decide)).tr ((F2.cov (by decide)).tr (F3.cov (by decide)))), Or.inr ⟨rfl, 3, (tq_nx tp B M (tq_nx tp B M t)).2.1, by show ls_b (ls_more tp B M nr 16 (t, A, nr, NT)) _ = _; rw [show ls_more tp B M nr 16 (t, A, nr, NT) = .inr ((tq_nx tp B M t), A, nr, NT) from if_pos (by omega)]; rw [ls_br]; show ls_b (ls_look 0 (tq_nx tp B M t) NT) _ = _; rw [la, ls_br]; show ls_b (ls_look 0 (tq_nx tp B M (tq_nx tp B M t)) NT) _ = _; rw [ls_look_3 q1 q2]; rfl, q3⟩⟩
    · skip
      refine hq_F.st (s' := (36, _, _, _)) hg189_33 rfl rfl rfl (hs_ifn (t := 38) (ci_nen (by omega)) rfl) ?_
      refine hq_F.st (s' := (37, _, _, _)) hg189_36 rfl rfl rfl rfl ?_
      refine hq_F.en hg189_37 rfl rfl ?_
      rcases q with ⟨q1, q2⟩ | ⟨q1, q2, q3⟩
      · exact ⟨h2.1, (F1.cov (by decide)).tr (F2.cov (by decide)), Or.inr ⟨rfl, 1, (tq_nx tp B M t).2.1, by show ls_b (ls_more tp B M nr 16 (t, A, nr, NT)) _ = _; rw [show ls_more tp B M nr 16 (t, A, nr, NT) = .inr ((tq_nx tp B M t), A, nr, NT) from if_pos (by omega)]; rw [ls_br]; show ls_b (ls_look 0 (tq_nx tp B M t) NT) _ = _; rw [ls_look_1 q1]; rfl, q2⟩⟩
      · exact ⟨h2.1, (F1.cov (by decide)).tr (F2.cov (by decide)), Or.inr ⟨rfl, 3, (tq_nx tp B M t).2.1, by show ls_b (ls_more tp B M nr 16 (t, A, nr, NT)) _ = _; rw [show ls_more tp B M nr 16 (t, A, nr, NT) = .inr ((tq_nx tp B M t), A, nr, NT) from if_pos (by omega)]; rw [ls_br]; show ls_b (ls_look 0 (tq_nx tp B M t) NT) _ = _; rw [ls_look_3 q1 q2]; rfl, q3⟩⟩
  · skip
    refine hq_F.st (s' := (11, _, _, _)) hg189_8 rfl rfl rfl (hs_icn (t := 17) (ci_nen (by omega)) rfl) ?_
    refine hq_F.st (s' := (12, _, _, _)) hg189_11 rfl rfl rfl (hs_al g0) ?_
    refine hq_F.st (s' := (13, _, _, _)) hg189_12 rfl rfl rfl rfl ?_
    refine hq_F.call hg189_13 rfl rfl si_11_178 (by decide) (by decide) sz_177 (sy_argsV h.1 sh_61 rfl rfl rfl (Nat.le_of_ble_eq_true rfl) rfl (Nat.le_of_ble_eq_true rfl) rfl (by decide)) (mt_bad h ((Int32.ofInt 4))) (fun _ _ q => by rw [q.2.1.1.1, h.1.1]) ?_
    rintro r13 w9 ⟨rfl, k1, k2, k3, k4⟩
    try dsimp only
    refine hq_F.en hg189_16 rfl rfl ?_
    exact ⟨k1.1, k2.cov (by decide), Or.inr ⟨rfl, 4, t.2.1, by show ls_b (ls_more tp B M nr 16 (t, A, nr, NT)) _ = _; rw [show ls_more tp B M nr 16 (t, A, nr, NT) = .inl (4, t.2.1) from if_neg (by omega)]; rfl, by rw [k3]; decide, k4⟩⟩
