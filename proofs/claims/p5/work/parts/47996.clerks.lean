/-! ===== clerks on both sides; by program ===== -/
theorem si_10_148 : pi_look pi_iT 10 148 = some (2, 152, 2, 672) := rfl
theorem si_10_270 : pi_look pi_iT 10 270 = some (2, 19, 1, 968) := rfl
theorem si_11_286 : pi_look pi_iT 11 286 = some (2, 197, 1, 1509) := rfl
def sm142 : pi_M := (10, 2, (some .int), false, mc_142)
def sm152 : pi_M := (10, 3, (some .boolean), false, mc_152)
def sm19 : pi_M := (2, 6, (some .int), false, mc_19)
def sm197 : pi_M := (11, 2, (some .boolean), false, mc_197)
def sm248 : pi_M := (11, 5, (some .int), false, mc_248)
set_option maxRecDepth 100000 in
theorem sz_142 : pi_mt[142]? = some (mn_142, prog_1_method_34_code, (10, 2, (some .int), false, mc_142)) := rfl
set_option maxRecDepth 100000 in
theorem sz_152 : pi_mt[152]? = some (mn_152, prog_1_method_44_code, (10, 3, (some .boolean), false, mc_152)) := rfl
set_option maxRecDepth 100000 in
theorem sz_19 : pi_mt[19]? = some (mn_19, prog_4_method_11_code, (2, 6, (some .int), false, mc_19)) := rfl
set_option maxRecDepth 100000 in
theorem sz_197 : pi_mt[197]? = some (mn_197, prog_13_method_37_code, (11, 2, (some .boolean), false, mc_197)) := rfl
set_option maxRecDepth 100000 in
theorem sz_248 : pi_mt[248]? = some (mn_248, prog_13_method_88_code, (11, 5, (some .int), false, mc_248)) := rfl
theorem hj142_0 : pi_fetch mc_142 0 = some (.aload_n 0, 1) := rfl
theorem hj142_1 : pi_fetch mc_142 1 = some (.iconst 4, 1) := rfl
theorem hj142_2 : pi_fetch mc_142 2 = some (.iload_n 1, 1) := rfl
theorem hj142_3 : pi_fetch mc_142 3 = some (.invokevirtual 148, 3) := rfl
theorem hj142_6 : pi_fetch mc_142 6 = some (.ifCond .eq 14, 3) := rfl
theorem hj142_9 : pi_fetch mc_142 9 = some (.aload_n 0, 1) := rfl
theorem hj142_10 : pi_fetch mc_142 10 = some (.getfield 19, 3) := rfl
theorem hj142_13 : pi_fetch mc_142 13 = some (.iload_n 1, 1) := rfl
theorem hj142_14 : pi_fetch mc_142 14 = some (.invokevirtual 270, 3) := rfl
theorem hj142_17 : pi_fetch mc_142 17 = some (.goto 4, 3) := rfl
theorem hj142_20 : pi_fetch mc_142 20 = some (.iconst (-1), 1) := rfl
theorem hj142_21 : pi_fetch mc_142 21 = some (.ireturn, 1) := rfl
theorem hj19_0 : pi_fetch mc_19 0 = some (.iconst 0, 1) := rfl
theorem hj19_1 : pi_fetch mc_19 1 = some (.istore_n 2, 1) := rfl
theorem hj19_2 : pi_fetch mc_19 2 = some (.iconst 0, 1) := rfl
theorem hj19_3 : pi_fetch mc_19 3 = some (.istore_n 3, 1) := rfl
theorem hj19_4 : pi_fetch mc_19 4 = some (.iload_n 3, 1) := rfl
theorem hj19_5 : pi_fetch mc_19 5 = some (.bipush 6, 2) := rfl
theorem hj19_7 : pi_fetch mc_19 7 = some (.if_icmp .ge 74, 3) := rfl
theorem hj19_10 : pi_fetch mc_19 10 = some (.iconst 0, 1) := rfl
theorem hj19_11 : pi_fetch mc_19 11 = some (.istore 4, 2) := rfl
theorem hj19_13 : pi_fetch mc_19 13 = some (.iload 4, 2) := rfl
theorem hj19_15 : pi_fetch mc_19 15 = some (.aload_n 0, 1) := rfl
theorem hj19_16 : pi_fetch mc_19 16 = some (.getfield 11, 3) := rfl
theorem hj19_19 : pi_fetch mc_19 19 = some (.iconst 4, 1) := rfl
theorem hj19_20 : pi_fetch mc_19 20 = some (.invokestatic 35, 3) := rfl
theorem hj19_23 : pi_fetch mc_19 23 = some (.if_icmp .ge 52, 3) := rfl
theorem hj19_26 : pi_fetch mc_19 26 = some (.aload_n 0, 1) := rfl
theorem hj19_27 : pi_fetch mc_19 27 = some (.getfield 11, 3) := rfl
theorem hj19_30 : pi_fetch mc_19 30 = some (.bipush 56, 2) := rfl
theorem hj19_32 : pi_fetch mc_19 32 = some (.iload 4, 2) := rfl
theorem hj19_34 : pi_fetch mc_19 34 = some (.iadd, 1) := rfl
theorem hj19_35 : pi_fetch mc_19 35 = some (.invokestatic 35, 3) := rfl
theorem hj19_38 : pi_fetch mc_19 38 = some (.istore 5, 2) := rfl
theorem hj19_40 : pi_fetch mc_19 40 = some (.iload 5, 2) := rfl
theorem hj19_42 : pi_fetch mc_19 42 = some (.iload_n 1, 1) := rfl
theorem hj19_43 : pi_fetch mc_19 43 = some (.if_icmp .eq 19, 3) := rfl
theorem hj19_46 : pi_fetch mc_19 46 = some (.iload 5, 2) := rfl
theorem hj19_48 : pi_fetch mc_19 48 = some (.iconst (-1), 1) := rfl
theorem hj19_49 : pi_fetch mc_19 49 = some (.if_icmp .eq 20, 3) := rfl
theorem hj19_52 : pi_fetch mc_19 52 = some (.iload_n 2, 1) := rfl
theorem hj19_53 : pi_fetch mc_19 53 = some (.iload 5, 2) := rfl
theorem hj19_55 : pi_fetch mc_19 55 = some (.ishr, 1) := rfl
theorem hj19_56 : pi_fetch mc_19 56 = some (.iconst 1, 1) := rfl
theorem hj19_57 : pi_fetch mc_19 57 = some (.iand, 1) := rfl
theorem hj19_58 : pi_fetch mc_19 58 = some (.iconst 1, 1) := rfl
theorem hj19_59 : pi_fetch mc_19 59 = some (.if_icmp .ne 10, 3) := rfl
theorem hj19_62 : pi_fetch mc_19 62 = some (.iload_n 2, 1) := rfl
theorem hj19_63 : pi_fetch mc_19 63 = some (.iconst 1, 1) := rfl
theorem hj19_64 : pi_fetch mc_19 64 = some (.iload 4, 2) := rfl
theorem hj19_66 : pi_fetch mc_19 66 = some (.ishl, 1) := rfl
theorem hj19_67 : pi_fetch mc_19 67 = some (.ior, 1) := rfl
theorem hj19_68 : pi_fetch mc_19 68 = some (.istore_n 2, 1) := rfl
theorem hj19_69 : pi_fetch mc_19 69 = some (.iinc 4 1, 3) := rfl
theorem hj19_72 : pi_fetch mc_19 72 = some (.goto (-59), 3) := rfl
theorem hj19_75 : pi_fetch mc_19 75 = some (.iinc 3 1, 3) := rfl
theorem hj19_78 : pi_fetch mc_19 78 = some (.goto (-74), 3) := rfl
theorem hj19_81 : pi_fetch mc_19 81 = some (.iload_n 2, 1) := rfl
theorem hj19_82 : pi_fetch mc_19 82 = some (.ireturn, 1) := rfl
theorem hj152_0 : pi_fetch mc_152 0 = some (.iload_n 2, 1) := rfl
theorem hj152_1 : pi_fetch mc_152 1 = some (.ifCond .lt 22, 3) := rfl
theorem hj152_4 : pi_fetch mc_152 4 = some (.iload_n 2, 1) := rfl
theorem hj152_5 : pi_fetch mc_152 5 = some (.aload_n 0, 1) := rfl
theorem hj152_6 : pi_fetch mc_152 6 = some (.getfield 19, 3) := rfl
theorem hj152_9 : pi_fetch mc_152 9 = some (.getfield 37, 3) := rfl
theorem hj152_12 : pi_fetch mc_152 12 = some (.iload_n 1, 1) := rfl
theorem hj152_13 : pi_fetch mc_152 13 = some (.invokestatic 152, 3) := rfl
theorem hj152_16 : pi_fetch mc_152 16 = some (.if_icmp .ge 7, 3) := rfl
theorem hj152_19 : pi_fetch mc_152 19 = some (.iconst 1, 1) := rfl
theorem hj152_20 : pi_fetch mc_152 20 = some (.goto 4, 3) := rfl
theorem hj152_23 : pi_fetch mc_152 23 = some (.iconst 0, 1) := rfl
theorem hj152_24 : pi_fetch mc_152 24 = some (.ireturn, 1) := rfl
theorem hj248_0 : pi_fetch mc_248 0 = some (.aload_n 0, 1) := rfl
theorem hj248_1 : pi_fetch mc_248 1 = some (.iconst 0, 1) := rfl
theorem hj248_2 : pi_fetch mc_248 2 = some (.putfield 1, 3) := rfl
theorem hj248_5 : pi_fetch mc_248 5 = some (.aload_n 0, 1) := rfl
theorem hj248_6 : pi_fetch mc_248 6 = some (.iload_n 1, 1) := rfl
theorem hj248_7 : pi_fetch mc_248 7 = some (.invokevirtual 286, 3) := rfl
theorem hj248_10 : pi_fetch mc_248 10 = some (.ifCond .ne 5, 3) := rfl
theorem hj248_13 : pi_fetch mc_248 13 = some (.iconst (-1), 1) := rfl
theorem hj248_14 : pi_fetch mc_248 14 = some (.ireturn, 1) := rfl
theorem hj248_15 : pi_fetch mc_248 15 = some (.iconst 0, 1) := rfl
theorem hj248_16 : pi_fetch mc_248 16 = some (.istore_n 2, 1) := rfl
theorem hj248_17 : pi_fetch mc_248 17 = some (.iconst 0, 1) := rfl
theorem hj248_18 : pi_fetch mc_248 18 = some (.istore_n 3, 1) := rfl
theorem hj248_19 : pi_fetch mc_248 19 = some (.iload_n 3, 1) := rfl
theorem hj248_20 : pi_fetch mc_248 20 = some (.bipush 6, 2) := rfl
theorem hj248_22 : pi_fetch mc_248 22 = some (.if_icmp .ge 84, 3) := rfl
theorem hj248_25 : pi_fetch mc_248 25 = some (.iconst 0, 1) := rfl
theorem hj248_26 : pi_fetch mc_248 26 = some (.istore 4, 2) := rfl
theorem hj248_28 : pi_fetch mc_248 28 = some (.iload 4, 2) := rfl
theorem hj248_30 : pi_fetch mc_248 30 = some (.aload_n 0, 1) := rfl
theorem hj248_31 : pi_fetch mc_248 31 = some (.getfield 33, 3) := rfl
theorem hj248_34 : pi_fetch mc_248 34 = some (.iconst 4, 1) := rfl
theorem hj248_35 : pi_fetch mc_248 35 = some (.iaload, 1) := rfl
theorem hj248_36 : pi_fetch mc_248 36 = some (.if_icmp .ge 64, 3) := rfl
theorem hj248_39 : pi_fetch mc_248 39 = some (.aload_n 0, 1) := rfl
theorem hj248_40 : pi_fetch mc_248 40 = some (.getfield 33, 3) := rfl
theorem hj248_43 : pi_fetch mc_248 43 = some (.bipush 99, 2) := rfl
theorem hj248_45 : pi_fetch mc_248 45 = some (.iload 4, 2) := rfl
theorem hj248_47 : pi_fetch mc_248 47 = some (.iadd, 1) := rfl
theorem hj248_48 : pi_fetch mc_248 48 = some (.iaload, 1) := rfl
theorem hj248_49 : pi_fetch mc_248 49 = some (.iload_n 1, 1) := rfl
theorem hj248_50 : pi_fetch mc_248 50 = some (.iconst 1, 1) := rfl
theorem hj248_51 : pi_fetch mc_248 51 = some (.iadd, 1) := rfl
theorem hj248_52 : pi_fetch mc_248 52 = some (.if_icmp .eq 35, 3) := rfl
theorem hj248_55 : pi_fetch mc_248 55 = some (.aload_n 0, 1) := rfl
theorem hj248_56 : pi_fetch mc_248 56 = some (.getfield 33, 3) := rfl
theorem hj248_59 : pi_fetch mc_248 59 = some (.bipush 99, 2) := rfl
theorem hj248_61 : pi_fetch mc_248 61 = some (.iload 4, 2) := rfl
theorem hj248_63 : pi_fetch mc_248 63 = some (.iadd, 1) := rfl
theorem hj248_64 : pi_fetch mc_248 64 = some (.iaload, 1) := rfl
theorem hj248_65 : pi_fetch mc_248 65 = some (.ifCond .le 29, 3) := rfl
theorem hj248_68 : pi_fetch mc_248 68 = some (.iload_n 2, 1) := rfl
theorem hj248_69 : pi_fetch mc_248 69 = some (.aload_n 0, 1) := rfl
theorem hj248_70 : pi_fetch mc_248 70 = some (.getfield 33, 3) := rfl
theorem hj248_73 : pi_fetch mc_248 73 = some (.bipush 99, 2) := rfl
theorem hj248_75 : pi_fetch mc_248 75 = some (.iload 4, 2) := rfl
theorem hj248_77 : pi_fetch mc_248 77 = some (.iadd, 1) := rfl
theorem hj248_78 : pi_fetch mc_248 78 = some (.iaload, 1) := rfl
theorem hj248_79 : pi_fetch mc_248 79 = some (.iconst 1, 1) := rfl
theorem hj248_80 : pi_fetch mc_248 80 = some (.isub, 1) := rfl
theorem hj248_81 : pi_fetch mc_248 81 = some (.invokestatic 229, 3) := rfl
theorem hj248_84 : pi_fetch mc_248 84 = some (.ifCond .eq 10, 3) := rfl
theorem hj248_87 : pi_fetch mc_248 87 = some (.iload_n 2, 1) := rfl
theorem hj248_88 : pi_fetch mc_248 88 = some (.iconst 1, 1) := rfl
theorem hj248_89 : pi_fetch mc_248 89 = some (.iload 4, 2) := rfl
theorem hj248_91 : pi_fetch mc_248 91 = some (.ishl, 1) := rfl
theorem hj248_92 : pi_fetch mc_248 92 = some (.ior, 1) := rfl
theorem hj248_93 : pi_fetch mc_248 93 = some (.istore_n 2, 1) := rfl
theorem hj248_94 : pi_fetch mc_248 94 = some (.iinc 4 1, 3) := rfl
theorem hj248_97 : pi_fetch mc_248 97 = some (.goto (-69), 3) := rfl
theorem hj248_100 : pi_fetch mc_248 100 = some (.iinc 3 1, 3) := rfl
theorem hj248_103 : pi_fetch mc_248 103 = some (.goto (-84), 3) := rfl
theorem hj248_106 : pi_fetch mc_248 106 = some (.iload_n 2, 1) := rfl
theorem hj248_107 : pi_fetch mc_248 107 = some (.ireturn, 1) := rfl
theorem hj197_0 : pi_fetch mc_197 0 = some (.iload_n 1, 1) := rfl
theorem hj197_1 : pi_fetch mc_197 1 = some (.iconst 0, 1) := rfl
theorem hj197_2 : pi_fetch mc_197 2 = some (.aload_n 0, 1) := rfl
theorem hj197_3 : pi_fetch mc_197 3 = some (.getfield 33, 3) := rfl
theorem hj197_6 : pi_fetch mc_197 6 = some (.iconst 4, 1) := rfl
theorem hj197_7 : pi_fetch mc_197 7 = some (.iaload, 1) := rfl
theorem hj197_8 : pi_fetch mc_197 8 = some (.iconst 1, 1) := rfl
theorem hj197_9 : pi_fetch mc_197 9 = some (.isub, 1) := rfl
theorem hj197_10 : pi_fetch mc_197 10 = some (.invokestatic 184, 3) := rfl
theorem hj197_13 : pi_fetch mc_197 13 = some (.ireturn, 1) := rfl
def ls_bt (x y : Int32) : Bool := decide ((x >>> (y &&& 31)) &&& 1 = 1)
def ck_step (r : Nat → Int32) (m s : Int32) (k : Nat) : Int32 := if r k - 1 = m ∨ (¬ r k = 0 ∧ ls_bt s (r k - 1) = true) then ls_or s k else s
def ck_row (r : Nat → Int32) (m : Int32) : Nat → Nat → Int32 → Int32
  | 0, _, s => s
  | n + 1, k, s => ck_row r m n (k + 1) (ck_step r m s k)
def ck_all (r : Nat → Int32) (m : Int32) (nm : Nat) : Nat → Int32 → Int32
  | 0, s => s
  | f + 1, s => ck_all r m nm f (ck_row r m nm 0 s)
def ck_ans (A : ld_A) (n4 : Nat) (x : Int32) : Int32 := if 0 ≤ x.toInt ∧ x.toInt < (n4 : Int) then ck_all (A 7) x n4 6 (Int32.ofInt 0) else Int32.ofInt (-1)
theorem hn_m1 : ∀ n, n < 11 → (Int32.ofNat n - Int32.ofInt 1).toInt = (n : Int) - 1 := by decide
theorem ml_bt {d : Nat} {w : pi_W} {x y : Int32} : hq_F d sm168 (fun r w' => w' = w ∧ r = some (.int (tq_b (ls_bt x y)))) (0, lv_args 0 [.int x, .int y], [], w) := by
  have g0 : pi_get (lv_args 0 [.int x, .int y]) 0 = some (.int x) := rfl
  have g1 : pi_get (lv_args 0 [.int x, .int y]) 1 = some (.int y) := rfl
  have kc0 : ((Int32.ofInt 0)).toInt = 0 := by decide
  have kc1 : ((Int32.ofInt 1)).toInt = 1 := by decide
  have kz := sy_z0
  refine hq_F.st (s' := (1, _, _, _)) hg168_0 rfl rfl rfl (hs_iln g0) ?_
  refine hq_F.st (s' := (2, _, _, _)) hg168_1 rfl rfl rfl (hs_iln g1) ?_
  refine hq_F.st (s' := (3, _, _, _)) hg168_2 rfl rfl rfl rfl ?_
  refine hq_F.st (s' := (4, _, _, _)) hg168_3 rfl rfl rfl rfl ?_
  refine hq_F.st (s' := (5, _, _, _)) hg168_4 rfl rfl rfl rfl ?_
  refine hq_F.st (s' := (6, _, _, _)) hg168_5 rfl rfl rfl rfl ?_
  by_cases b6 : ¬ (((x >>> (y &&& 31)) &&& (Int32.ofInt 1))).toInt = 1
  · skip
    refine hq_F.st (s' := (13, _, _, _)) hg168_6 rfl rfl rfl (hs_ic (ci_ne (by omega)) rfl) ?_
    refine hq_F.st (s' := (14, _, _, _)) hg168_13 rfl rfl rfl rfl ?_
    refine hq_F.en hg168_14 rfl rfl ?_
    exact ⟨rfl, by rw [show ls_bt x y = false from decide_eq_false (fun q => b6 (sy_one.mpr q))]; rfl⟩
  · skip
    refine hq_F.st (s' := (9, _, _, _)) hg168_6 rfl rfl rfl (hs_icn (t := 13) (ci_nen (by omega)) rfl) ?_
    refine hq_F.st (s' := (10, _, _, _)) hg168_9 rfl rfl rfl rfl ?_
    refine hq_F.st (s' := (14, _, _, _)) hg168_10 rfl rfl rfl rfl ?_
    refine hq_F.en hg168_14 rfl rfl ?_
    exact ⟨rfl, by rw [show ls_bt x y = true from decide_eq_true (sy_one.mp (Decidable.not_not.mp b6))]; rfl⟩
theorem ck_cin {d nr : Nat} {A : ld_A} {NT : List nt_E} {w : pi_W} {m x3 F : Int32} {Q : Option Value → pi_W → Prop} (hC : af_Conf aw_Sh w) (hL : CL w 5 6 A nr NT) (h6 : nt_c 4 NT ≤ 6) (hQ : ∀ lv : pi_L, pi_get lv 0 = some (.ref 4) → pi_get lv 1 = some (.int m) → pi_get lv 2 = some (.int F) → pi_get lv 3 = some (.int x3) → hq_F (d + 1) sm19 Q (75, lv, [], w)) : ∀ (n k : Nat) (s : Int32) {lv : pi_L}, k + n = nt_c 4 NT → ck_row (A 7) m n k s = F → pi_get lv 0 = some (.ref 4) → pi_get lv 1 = some (.int m) → pi_get lv 2 = some (.int s) → pi_get lv 3 = some (.int x3) → pi_get lv 4 = some (.int (Int32.ofNat k)) → hq_F (d + 1) sm19 Q (13, lv, [], w) := by
  intro n
  have tn : (Int32.ofNat (nt_c 4 NT)).toInt = (nt_c 4 NT : Int) := hn_t (by omega)
  induction n with
  | zero =>
    intro k s lv hk hF g0 g1 g2 g3 g4
    have tk : (Int32.ofNat k).toInt = (k : Int) := hn_t (by omega)
    have hF : s = F := hF
    have kc0 : ((Int32.ofInt 4)).toInt = 4 := by decide
    have kz := sy_z0
    refine hq_F.st (s' := (15, _, _, _)) hj19_13 rfl rfl rfl (hs_il g4) ?_
    refine hq_F.st (s' := (16, _, _, _)) hj19_15 rfl rfl rfl (hs_al g0) ?_
    refine hq_F.st (s' := (19, _, _, _)) hj19_16 rfl rfl rfl (hq_gf hC sh_4 sk_2_11 (hq_ref hC sh_4 (b := 5) rfl)) ?_
    refine hq_F.st (s' := (20, _, _, _)) hj19_19 rfl rfl rfl rfl ?_
    rw [hi_4]
    refine hq_F.call hj19_20 rfl rfl si_2_35 (by decide) (by decide) sz_159 (sy_argsS rfl rfl rfl (Nat.le_of_ble_eq_true rfl) (by decide) rfl (Nat.le_of_ble_eq_true rfl) (by decide)) (ca_at hC sh_5 (j := 4) (by omega) (by omega)) (fun _ _ q => by rw [q.1]) ?_
    rintro r20 w ⟨rfl, rfl⟩
    try dsimp only
    rw [show gv w 5 (4) = Int32.ofNat (nt_c 4 NT) from (hn_e (hL.2.1 4 (by omega)) (by omega))]
    refine hq_F.st (s' := (75, _, _, _)) hj19_23 rfl rfl rfl (hs_ic (ci_ge (by omega)) rfl) ?_
    exact hQ _ g0 g1 (by rw [← hF]; exact g2) g3
  | succ n ih =>
    intro k s lv hk hF g0 g1 g2 g3 g4
    have tk : (Int32.ofNat k).toInt = (k : Int) := hn_t (by omega)
    have kc0 : (((Int8.ofInt 56).toInt32)).toInt = 56 := by decide
    have kc1 : ((Int32.ofInt (-1))).toInt = (-1) := by decide
    have kc2 : ((Int32.ofInt 1)).toInt = 1 := by decide
    have kc3 : ((Int32.ofInt 4)).toInt = 4 := by decide
    have kz := sy_z0
    refine hq_F.st (s' := (15, _, _, _)) hj19_13 rfl rfl rfl (hs_il g4) ?_
    refine hq_F.st (s' := (16, _, _, _)) hj19_15 rfl rfl rfl (hs_al g0) ?_
    refine hq_F.st (s' := (19, _, _, _)) hj19_16 rfl rfl rfl (hq_gf hC sh_4 sk_2_11 (hq_ref hC sh_4 (b := 5) rfl)) ?_
    refine hq_F.st (s' := (20, _, _, _)) hj19_19 rfl rfl rfl rfl ?_
    rw [hi_4]
    refine hq_F.call hj19_20 rfl rfl si_2_35 (by decide) (by decide) sz_159 (sy_argsS rfl rfl rfl (Nat.le_of_ble_eq_true rfl) (by decide) rfl (Nat.le_of_ble_eq_true rfl) (by decide)) (ca_at hC sh_5 (j := 4) (by omega) (by omega)) (fun _ _ q => by rw [q.1]) ?_
    rintro r20 w ⟨rfl, rfl⟩
    try dsimp only
    rw [show gv w 5 (4) = Int32.ofNat (nt_c 4 NT) from (hn_e (hL.2.1 4 (by omega)) (by omega))]
    refine hq_F.st (s' := (26, _, _, _)) hj19_23 rfl rfl rfl (hs_icn (t := 75) (ci_gen (by omega)) rfl) ?_
    refine hq_F.st (s' := (27, _, _, _)) hj19_26 rfl rfl rfl (hs_al g0) ?_
    refine hq_F.st (s' := (30, _, _, _)) hj19_27 rfl rfl rfl (hq_gf hC sh_4 sk_2_11 (hq_ref hC sh_4 (b := 5) rfl)) ?_
    refine hq_F.st (s' := (32, _, _, _)) hj19_30 rfl rfl rfl rfl ?_
    refine hq_F.st (s' := (34, _, _, _)) hj19_32 rfl rfl rfl (hs_il g4) ?_
    refine hq_F.st (s' := (35, _, _, _)) hj19_34 rfl rfl rfl rfl ?_
    rw [hn_k (n := k) hm_56]
    refine hq_F.call hj19_35 rfl rfl si_2_35 (by decide) (by decide) sz_159 (sy_argsS rfl rfl rfl (Nat.le_of_ble_eq_true rfl) (by decide) rfl (Nat.le_of_ble_eq_true rfl) (by decide)) (ca_at hC sh_5 (j := 56 + k) (by omega) (by omega)) (fun _ _ q => by rw [q.1]) ?_
    rintro r35 w ⟨rfl, rfl⟩
    try dsimp only
    rw [show gv w 5 (56 + k) = A 7 k - 1 from (hL.2.2.2 7 k (by decide) (by show k < 6; omega) (fun q => absurd q (by decide)) (fun _ => by omega))]
    refine hq_F.st (s' := (40, _, _, _)) hj19_38 rfl rfl rfl (sy_is (by decide)) ?_
    refine hq_F.st (s' := (42, _, _, _)) hj19_40 rfl rfl rfl (hs_il (pi_get_set _ _ _)) ?_
    refine hq_F.st (s' := (43, _, _, _)) hj19_42 rfl rfl rfl (hs_iln (hg_ne g1 (by decide))) ?_
    by_cases b43 : ((A 7 k - 1)).toInt = (m).toInt
    · skip
      refine hq_F.st (s' := (62, _, _, _)) hj19_43 rfl rfl rfl (hs_ic (ci_eq (by omega)) rfl) ?_
      refine hq_F.st (s' := (63, _, _, _)) hj19_62 rfl rfl rfl (hs_iln (hg_ne g2 (by decide))) ?_
      refine hq_F.st (s' := (64, _, _, _)) hj19_63 rfl rfl rfl rfl ?_
      refine hq_F.st (s' := (66, _, _, _)) hj19_64 rfl rfl rfl (hs_il (hg_ne g4 (by decide))) ?_
      refine hq_F.st (s' := (67, _, _, _)) hj19_66 rfl rfl rfl rfl ?_
      refine hq_F.st (s' := (68, _, _, _)) hj19_67 rfl rfl rfl rfl ?_
      refine hq_F.st (s' := (69, _, _, _)) hj19_68 rfl rfl rfl rfl ?_
      refine hq_F.st (s' := (72, _, _, _)) hj19_69 rfl rfl rfl (hs_inc (hg_ne (hg_ne g4 (by decide)) (by decide)) (by decide)) ?_
      refine hq_F.st (s' := (13, _, _, _)) hj19_72 rfl rfl rfl rfl ?_
      have hs : ck_step (A 7) m s k = ls_or s k := if_pos (Or.inl (Int32.toInt_inj.mp b43))
      refine ih (k + 1) _ (by omega) (by rw [← hF, ck_row, hs]; rfl) (hg_nr (hg_nr (hg_nr g0 (by decide)) (by decide)) (by decide)) (hg_ne (hg_ne (hg_ne g1 (by decide)) (by decide)) (by decide)) (hg_ne (pi_get_set _ _ _) (by decide)) (hg_ne (hg_ne (hg_ne g3 (by decide)) (by decide)) (by decide)) (by rw [← hn_s]; exact (pi_get_set _ _ _))
    · skip
      refine hq_F.st (s' := (46, _, _, _)) hj19_43 rfl rfl rfl (hs_icn (t := 62) (ci_eqn (by omega)) rfl) ?_
      refine hq_F.st (s' := (48, _, _, _)) hj19_46 rfl rfl rfl (hs_il (pi_get_set _ _ _)) ?_
      refine hq_F.st (s' := (49, _, _, _)) hj19_48 rfl rfl rfl rfl ?_
      by_cases b49 : ((A 7 k - 1)).toInt = (-1)
      · skip
        refine hq_F.st (s' := (69, _, _, _)) hj19_49 rfl rfl rfl (hs_ic (ci_eq (by omega)) rfl) ?_
        refine hq_F.st (s' := (72, _, _, _)) hj19_69 rfl rfl rfl (hs_inc (hg_ne g4 (by decide)) (by decide)) ?_
        refine hq_F.st (s' := (13, _, _, _)) hj19_72 rfl rfl rfl rfl ?_
        have hs : ck_step (A 7) m s k = s := if_neg (by rintro (q | q); exact b43 (by rw [q]); exact q.1 (sy_m1.mp b49))
        refine ih (k + 1) _ (by omega) (by rw [← hF, ck_row, hs]) (hg_nr (hg_nr g0 (by decide)) (by decide)) (hg_ne (hg_ne g1 (by decide)) (by decide)) (hg_ne (hg_ne g2 (by decide)) (by decide)) (hg_ne (hg_ne g3 (by decide)) (by decide)) (by rw [← hn_s]; exact (pi_get_set _ _ _))
      · skip
        refine hq_F.st (s' := (52, _, _, _)) hj19_49 rfl rfl rfl (hs_icn (t := 69) (ci_eqn (by omega)) rfl) ?_
        refine hq_F.st (s' := (53, _, _, _)) hj19_52 rfl rfl rfl (hs_iln (hg_ne g2 (by decide))) ?_
        refine hq_F.st (s' := (55, _, _, _)) hj19_53 rfl rfl rfl (hs_il (pi_get_set _ _ _)) ?_
        refine hq_F.st (s' := (56, _, _, _)) hj19_55 rfl rfl rfl rfl ?_
        refine hq_F.st (s' := (57, _, _, _)) hj19_56 rfl rfl rfl rfl ?_
        refine hq_F.st (s' := (58, _, _, _)) hj19_57 rfl rfl rfl rfl ?_
        refine hq_F.st (s' := (59, _, _, _)) hj19_58 rfl rfl rfl rfl ?_
        by_cases b59 : ¬ (((s >>> ((A 7 k - 1) &&& 31)) &&& (Int32.ofInt 1))).toInt = 1
        · skip
          refine hq_F.st (s' := (69, _, _, _)) hj19_59 rfl rfl rfl (hs_ic (ci_ne (by omega)) rfl) ?_
          refine hq_F.st (s' := (72, _, _, _)) hj19_69 rfl rfl rfl (hs_inc (hg_ne g4 (by decide)) (by decide)) ?_
          refine hq_F.st (s' := (13, _, _, _)) hj19_72 rfl rfl rfl rfl ?_
          have hs : ck_step (A 7) m s k = s := if_neg (by rintro (q | q); exact b43 (by rw [q]); exact b59 (sy_one.mpr (of_decide_eq_true q.2)))
          refine ih (k + 1) _ (by omega) (by rw [← hF, ck_row, hs]) (hg_nr (hg_nr g0 (by decide)) (by decide)) (hg_ne (hg_ne g1 (by decide)) (by decide)) (hg_ne (hg_ne g2 (by decide)) (by decide)) (hg_ne (hg_ne g3 (by decide)) (by decide)) (by rw [← hn_s]; exact (pi_get_set _ _ _))
        · skip
          refine hq_F.st (s' := (62, _, _, _)) hj19_59 rfl rfl rfl (hs_icn (t := 69) (ci_nen (by omega)) rfl) ?_
          refine hq_F.st (s' := (63, _, _, _)) hj19_62 rfl rfl rfl (hs_iln (hg_ne g2 (by decide))) ?_
          refine hq_F.st (s' := (64, _, _, _)) hj19_63 rfl rfl rfl rfl ?_
          refine hq_F.st (s' := (66, _, _, _)) hj19_64 rfl rfl rfl (hs_il (hg_ne g4 (by decide))) ?_
          refine hq_F.st (s' := (67, _, _, _)) hj19_66 rfl rfl rfl rfl ?_
          refine hq_F.st (s' := (68, _, _, _)) hj19_67 rfl rfl rfl rfl ?_
          refine hq_F.st (s' := (69, _, _, _)) hj19_68 rfl rfl rfl rfl ?_
          refine hq_F.st (s' := (72, _, _, _)) hj19_69 rfl rfl rfl (hs_inc (hg_ne (hg_ne g4 (by decide)) (by decide)) (by decide)) ?_
          refine hq_F.st (s' := (13, _, _, _)) hj19_72 rfl rfl rfl rfl ?_
          have hs : ck_step (A 7) m s k = ls_or s k := if_pos (Or.inr ⟨fun q => b49 (sy_m1.mpr q), decide_eq_true (sy_one.mp (Decidable.not_not.mp b59))⟩)
          refine ih (k + 1) _ (by omega) (by rw [← hF, ck_row, hs]; rfl) (hg_nr (hg_nr (hg_nr g0 (by decide)) (by decide)) (by decide)) (hg_ne (hg_ne (hg_ne g1 (by decide)) (by decide)) (by decide)) (hg_ne (pi_get_set _ _ _) (by decide)) (hg_ne (hg_ne (hg_ne g3 (by decide)) (by decide)) (by decide)) (by rw [← hn_s]; exact (pi_get_set _ _ _))
theorem ck_cout {d nr : Nat} {A : ld_A} {NT : List nt_E} {w : pi_W} {m F : Int32} (hC : af_Conf aw_Sh w) (hL : CL w 5 6 A nr NT) (h6 : nt_c 4 NT ≤ 6) : ∀ (f i : Nat) (s : Int32) {lv : pi_L}, i + f = 6 → ck_all (A 7) m (nt_c 4 NT) f s = F → pi_get lv 0 = some (.ref 4) → pi_get lv 1 = some (.int m) → pi_get lv 2 = some (.int s) → pi_get lv 3 = some (.int (Int32.ofNat i)) → hq_F (d + 1) sm19 (fun r w' => w' = w ∧ r = some (.int F)) (4, lv, [], w) := by
  intro f
  induction f with
  | zero =>
    intro i s lv hi hF g0 g1 g2 g3
    have ti : (Int32.ofNat i).toInt = (i : Int) := hn_t (by omega)
    have kc0 : (((Int8.ofInt 6).toInt32)).toInt = 6 := by decide
    have kz := sy_z0
    refine hq_F.st (s' := (5, _, _, _)) hj19_4 rfl rfl rfl (hs_iln g3) ?_
    refine hq_F.st (s' := (7, _, _, _)) hj19_5 rfl rfl rfl rfl ?_
    refine hq_F.st (s' := (81, _, _, _)) hj19_7 rfl rfl rfl (hs_ic (ci_ge (by omega)) rfl) ?_
    refine hq_F.st (s' := (82, _, _, _)) hj19_81 rfl rfl rfl (hs_iln g2) ?_
    refine hq_F.en hj19_82 rfl (pi_ri _) ?_
    exact ⟨rfl, by rw [← hF]; rfl⟩
  | succ f ih =>
    intro i s lv hi hF g0 g1 g2 g3
    have ti : (Int32.ofNat i).toInt = (i : Int) := hn_t (by omega)
    have kc0 : (((Int8.ofInt 6).toInt32)).toInt = 6 := by decide
    have kc1 : ((Int32.ofInt 0)).toInt = 0 := by decide
    have kz := sy_z0
    refine hq_F.st (s' := (5, _, _, _)) hj19_4 rfl rfl rfl (hs_iln g3) ?_
    refine hq_F.st (s' := (7, _, _, _)) hj19_5 rfl rfl rfl rfl ?_
    refine hq_F.st (s' := (10, _, _, _)) hj19_7 rfl rfl rfl (hs_icn (t := 81) (ci_gen (by omega)) rfl) ?_
    refine hq_F.st (s' := (11, _, _, _)) hj19_10 rfl rfl rfl rfl ?_
    refine hq_F.st (s' := (13, _, _, _)) hj19_11 rfl rfl rfl (sy_is (by decide)) ?_
    refine ck_cin hC hL h6 (fun lv2 p0 p1 p2 p3 => ?_) (nt_c 4 NT) 0 s (by omega) rfl (hg_nr g0 (by decide)) (hg_ne g1 (by decide)) (hg_ne g2 (by decide)) (hg_ne g3 (by decide)) (pi_get_set _ _ _)
    refine hq_F.st (s' := (78, _, _, _)) hj19_75 rfl rfl rfl (hs_inc p3 (by decide)) ?_
    refine hq_F.st (s' := (4, _, _, _)) hj19_78 rfl rfl rfl rfl ?_
    exact ih (i + 1) _ (by omega) (by rw [← hF, ck_all]) (hg_nr p0 (by decide)) (hg_ne p1 (by decide)) (hg_ne p2 (by decide)) (by rw [← hn_s]; exact pi_get_set _ _ _)
theorem ck_of {d nr : Nat} {A : ld_A} {NT : List nt_E} {w : pi_W} {m : Int32} (hC : af_Conf aw_Sh w) (hL : CL w 5 6 A nr NT) (h6 : nt_c 4 NT ≤ 6) : hq_F (d + 1) sm19 (fun r w' => w' = w ∧ r = some (.int (ck_all (A 7) m (nt_c 4 NT) 6 (Int32.ofInt 0)))) (0, lv_args 0 [.ref 4, .int m], [], w) := by
  have g0 : pi_get (lv_args 0 [.ref 4, .int m]) 0 = some (.ref 4) := rfl
  have g1 : pi_get (lv_args 0 [.ref 4, .int m]) 1 = some (.int m) := rfl
  have kc0 : ((Int32.ofInt 0)).toInt = 0 := by decide
  have kz := sy_z0
  refine hq_F.st (s' := (1, _, _, _)) hj19_0 rfl rfl rfl rfl ?_
  refine hq_F.st (s' := (2, _, _, _)) hj19_1 rfl rfl rfl rfl ?_
  refine hq_F.st (s' := (3, _, _, _)) hj19_2 rfl rfl rfl rfl ?_
  refine hq_F.st (s' := (4, _, _, _)) hj19_3 rfl rfl rfl rfl ?_
  exact ck_cout hC hL h6 6 0 _ (by omega) rfl (hg_nr (hg_nr g0 (by decide)) (by decide)) (hg_ne (hg_ne g1 (by decide)) (by decide)) (hg_ne (pi_get_set _ _ _) (by decide)) (pi_get_set _ _ _)
theorem ci_one {d k n : Nat} {w : pi_W} {y : Int32} (hC : af_Conf aw_Sh w) (hk5 : k < 5) (hn : n < 1000) (hk : gv w 5 k = Int32.ofNat n) : hq_F (d + 1) sm152 (fun r w' => w' = w ∧ r = some (.int (tq_b (decide (0 ≤ y.toInt ∧ y.toInt < (n : Int)))))) (0, lv_args 0 [.ref 0, .int (Int32.ofNat k), .int y], [], w) := by
  have tn : (Int32.ofNat n).toInt = (n : Int) := hn_t hn
  have g0 : pi_get (lv_args 0 [.ref 0, .int (Int32.ofNat k), .int y]) 0 = some (.ref 0) := rfl
  have g1 : pi_get (lv_args 0 [.ref 0, .int (Int32.ofNat k), .int y]) 1 = some (.int (Int32.ofNat k)) := rfl
  have g2 : pi_get (lv_args 0 [.ref 0, .int (Int32.ofNat k), .int y]) 2 = some (.int y) := rfl
  have kc0 : ((Int32.ofInt 0)).toInt = 0 := by decide
  have kc1 : ((Int32.ofInt 1)).toInt = 1 := by decide
  have kz := sy_z0
  refine hq_F.st (s' := (1, _, _, _)) hj152_0 rfl rfl rfl (hs_iln g2) ?_
  by_cases b1 : (y).toInt < 0
  · skip
    refine hq_F.st (s' := (23, _, _, _)) hj152_1 rfl rfl rfl (hs_if (ci_lt (by omega)) rfl) ?_
    refine hq_F.st (s' := (24, _, _, _)) hj152_23 rfl rfl rfl rfl ?_
    refine hq_F.en hj152_24 rfl rfl ?_
    exact ⟨rfl, by rw [show decide (0 ≤ y.toInt ∧ y.toInt < (n : Int)) = false from decide_eq_false (by omega)]; rfl⟩
  · skip
    refine hq_F.st (s' := (4, _, _, _)) hj152_1 rfl rfl rfl (hs_ifn (t := 23) (ci_ltn (by omega)) rfl) ?_
    refine hq_F.st (s' := (5, _, _, _)) hj152_4 rfl rfl rfl (hs_iln g2) ?_
    refine hq_F.st (s' := (6, _, _, _)) hj152_5 rfl rfl rfl (hs_al g0) ?_
    refine hq_F.st (s' := (9, _, _, _)) hj152_6 rfl rfl rfl (hq_gf hC sh_0 sk_10_19 (hq_ref hC sh_0 (b := 4) rfl)) ?_
    refine hq_F.st (s' := (12, _, _, _)) hj152_9 rfl rfl rfl (hq_gf hC sh_4 sk_10_37 (hq_ref hC sh_4 (b := 5) rfl)) ?_
    refine hq_F.st (s' := (13, _, _, _)) hj152_12 rfl rfl rfl (hs_iln g1) ?_
    refine hq_F.call hj152_13 rfl rfl si_10_152 (by decide) (by decide) sz_159 (sy_argsS rfl rfl rfl (Nat.le_of_ble_eq_true rfl) (by decide) rfl (Nat.le_of_ble_eq_true rfl) (by decide)) (ca_at hC sh_5 (j := k) (by omega) (by omega)) (fun _ _ q => by rw [q.1]) ?_
    rintro r13 w ⟨rfl, rfl⟩
    try dsimp only
    rw [hk]
    by_cases b16 : ((Int32.ofNat n)).toInt ≤ (y).toInt
    · skip
      refine hq_F.st (s' := (23, _, _, _)) hj152_16 rfl rfl rfl (hs_ic (ci_ge (by omega)) rfl) ?_
      refine hq_F.st (s' := (24, _, _, _)) hj152_23 rfl rfl rfl rfl ?_
      refine hq_F.en hj152_24 rfl rfl ?_
      exact ⟨rfl, by rw [show decide (0 ≤ y.toInt ∧ y.toInt < (n : Int)) = false from decide_eq_false (by omega)]; rfl⟩
    · skip
      refine hq_F.st (s' := (19, _, _, _)) hj152_16 rfl rfl rfl (hs_icn (t := 23) (ci_gen (by omega)) rfl) ?_
      refine hq_F.st (s' := (20, _, _, _)) hj152_19 rfl rfl rfl rfl ?_
      refine hq_F.st (s' := (24, _, _, _)) hj152_20 rfl rfl rfl rfl ?_
      refine hq_F.en hj152_24 rfl rfl ?_
      exact ⟨rfl, by rw [show decide (0 ≤ y.toInt ∧ y.toInt < (n : Int)) = true from decide_eq_true (by omega)]; rfl⟩
theorem cx_clerks {d nr : Nat} {A : ld_A} {NT : List nt_E} {w : pi_W} {x : Int32} (hC : af_Conf aw_Sh w) (hL : CL w 5 6 A nr NT) (h6 : nt_c 4 NT ≤ 6) : hq_F (d + 2) sm142 (fun r _ => r = some (.int (ck_ans A (nt_c 4 NT) x))) (0, lv_args 0 [.ref 0, .int x], [], w) := by
  have g0 : pi_get (lv_args 0 [.ref 0, .int x]) 0 = some (.ref 0) := rfl
  have g1 : pi_get (lv_args 0 [.ref 0, .int x]) 1 = some (.int x) := rfl
  have kc0 : ((0 : Int32)).toInt = 0 := by decide
  have kc1 : ((1 : Int32)).toInt = 1 := by decide
  have kc2 : ((Int32.ofInt (-1))).toInt = (-1) := by decide
  have kc3 : ((Int32.ofInt 4)).toInt = 4 := by decide
  have kz := sy_z0
  refine hq_F.st (s' := (1, _, _, _)) hj142_0 rfl rfl rfl (hs_al g0) ?_
  refine hq_F.st (s' := (2, _, _, _)) hj142_1 rfl rfl rfl rfl ?_
  refine hq_F.st (s' := (3, _, _, _)) hj142_2 rfl rfl rfl (hs_iln g1) ?_
  rw [hi_4]
  refine hq_F.call hj142_3 rfl rfl si_10_148 (by decide) (by decide) sz_152 (sy_argsV hC sh_0 rfl rfl rfl (Nat.le_of_ble_eq_true rfl) rfl (Nat.le_of_ble_eq_true rfl) rfl (by decide)) (ci_one (d := d) (k := 4) (n := nt_c 4 NT) hC (by decide) (by omega) (hn_e (hL.2.1 4 (by omega)) (by omega))) (fun _ _ q => by rw [q.1]) ?_
  rintro r3 w ⟨rfl, rfl⟩
  try dsimp only
  by_cases hx : 0 ≤ x.toInt ∧ x.toInt < (nt_c 4 NT : Int)
  · rw [decide_eq_true hx, show tq_b true = (1 : Int32) from rfl]
    refine hq_F.st (s' := (9, _, _, _)) hj142_6 rfl rfl rfl (hs_ifn (t := 20) (ci_eqn (by omega)) rfl) ?_
    refine hq_F.st (s' := (10, _, _, _)) hj142_9 rfl rfl rfl (hs_al g0) ?_
    refine hq_F.st (s' := (13, _, _, _)) hj142_10 rfl rfl rfl (hq_gf hC sh_0 sk_10_19 (hq_ref hC sh_0 (b := 4) rfl)) ?_
    refine hq_F.st (s' := (14, _, _, _)) hj142_13 rfl rfl rfl (hs_iln g1) ?_
    refine hq_F.call hj142_14 rfl rfl si_10_270 (by decide) (by decide) sz_19 (sy_argsV hC sh_4 rfl rfl rfl (Nat.le_of_ble_eq_true rfl) rfl (Nat.le_of_ble_eq_true rfl) rfl (by decide)) (ck_of (d := d) hC hL h6) (fun _ _ q => by rw [q.1]) ?_
    rintro r14 w ⟨rfl, rfl⟩
    try dsimp only
    refine hq_F.st (s' := (21, _, _, _)) hj142_17 rfl rfl rfl rfl ?_
    refine hq_F.en hj142_21 rfl (pi_ri _) ?_
    exact congrArg (fun v => some (Value.int v)) (if_pos hx).symm
  · rw [decide_eq_false hx, show tq_b false = (0 : Int32) from rfl]
    refine hq_F.st (s' := (20, _, _, _)) hj142_6 rfl rfl rfl (hs_if (ci_eq (by omega)) rfl) ?_
    refine hq_F.st (s' := (21, _, _, _)) hj142_20 rfl rfl rfl rfl ?_
    refine hq_F.en hj142_21 rfl rfl ?_
    exact congrArg (fun v => some (Value.int v)) (if_neg hx).symm
theorem sb_639 : ∀ k, k < 105 → 99 ≤ k → af_bnd aw_Sh 63 k = some (0, 6) := by decide +kernel
theorem MS.four {w : pi_W} {A : ld_A} {nr : Nat} {NT : List nt_E} (h : MS w 63 0 66 0 A nr NT) (h6 : nt_c 4 NT ≤ 6) : gv w 63 4 = Int32.ofNat (nt_c 4 NT) := hn_e (by have := h.2.1 4 (by omega); rw [Nat.zero_add] at this; exact this) (by omega)
theorem MS.fr {w w' : pi_W} {A : ld_A} {nr : Nat} {NT : List nt_E} {N : af_M} (h : MS w 63 0 66 0 A nr NT) (hF : af_Fr N w w') (h1 : ∀ e ∈ N, e.1 ≠ 63) (h2 : ∀ e ∈ N, e.1 ≠ 66) : MS w' 63 0 66 0 A nr NT := by
  obtain ⟨a, b, c, d⟩ := h
  exact ⟨fun e he => by rw [gl_eq (hq_cell hF h2)]; exact a e he, fun s hs => by rw [gv_eq (hq_cell hF h1)]; exact b s hs, by rw [gv_eq (hq_cell hF h1)]; exact c, fun c' k q1 q2 => by rw [gv_eq (hq_cell hF h1)]; exact d c' k q1 q2⟩
theorem ck_min {d nr : Nat} {A : ld_A} {NT : List nt_E} {w : pi_W} {m x3 F : Int32} {Q : Option Value → pi_W → Prop} (hC : af_Conf aw_Sh w) (hL : MS w 63 0 66 0 A nr NT) (h6 : nt_c 4 NT ≤ 6) (hQ : ∀ lv : pi_L, pi_get lv 0 = some (.ref 61) → pi_get lv 1 = some (.int m) → pi_get lv 2 = some (.int F) → pi_get lv 3 = some (.int x3) → hq_F (d + 1) sm248 Q (100, lv, [], w)) : ∀ (n k : Nat) (s : Int32) {lv : pi_L}, k + n = nt_c 4 NT → ck_row (A 7) m n k s = F → pi_get lv 0 = some (.ref 61) → pi_get lv 1 = some (.int m) → pi_get lv 2 = some (.int s) → pi_get lv 3 = some (.int x3) → pi_get lv 4 = some (.int (Int32.ofNat k)) → hq_F (d + 1) sm248 Q (28, lv, [], w) := by
  intro n
  have tn : (Int32.ofNat (nt_c 4 NT)).toInt = (nt_c 4 NT : Int) := hn_t (by omega)
  induction n with
  | zero =>
    intro k s lv hk hF g0 g1 g2 g3 g4
    have tk : (Int32.ofNat k).toInt = (k : Int) := hn_t (by omega)
    have hF : s = F := hF
    have kc0 : ((Int32.ofInt 4)).toInt = 4 := by decide
    have kz := sy_z0
    refine hq_F.st (s' := (30, _, _, _)) hj248_28 rfl rfl rfl (hs_il g4) ?_
    refine hq_F.st (s' := (31, _, _, _)) hj248_30 rfl rfl rfl (hs_al g0) ?_
    refine hq_F.st (s' := (34, _, _, _)) hj248_31 rfl rfl rfl (hq_gf hC sh_61 sk_11_33 (hq_ref hC sh_61 (b := 63) rfl)) ?_
    refine hq_F.st (s' := (35, _, _, _)) hj248_34 rfl rfl rfl rfl ?_
    refine hq_F.st (s' := (36, _, _, _)) hj248_35 rfl rfl rfl (sy_iav hC hq_s63 (n := 4) (by decide) (by omega)) ?_
    rw [show gv w 63 (4) = Int32.ofNat (nt_c 4 NT) from (hL.four h6)]
    refine hq_F.st (s' := (100, _, _, _)) hj248_36 rfl rfl rfl (hs_ic (ci_ge (by omega)) rfl) ?_
    exact hQ _ g0 g1 (by rw [← hF]; exact g2) g3
  | succ n ih =>
    intro k s lv hk hF g0 g1 g2 g3 g4
    have tk : (Int32.ofNat k).toInt = (k : Int) := hn_t (by omega)
    have kc0 : (((Int8.ofInt 99).toInt32)).toInt = 99 := by decide
    have kc1 : ((0 : Int32)).toInt = 0 := by decide
    have kc2 : ((1 : Int32)).toInt = 1 := by decide
    have kc3 : ((Int32.ofInt 1)).toInt = 1 := by decide
    have kc4 : ((Int32.ofInt 4)).toInt = 4 := by decide
    have kz := sy_z0
    refine hq_F.st (s' := (30, _, _, _)) hj248_28 rfl rfl rfl (hs_il g4) ?_
    refine hq_F.st (s' := (31, _, _, _)) hj248_30 rfl rfl rfl (hs_al g0) ?_
    refine hq_F.st (s' := (34, _, _, _)) hj248_31 rfl rfl rfl (hq_gf hC sh_61 sk_11_33 (hq_ref hC sh_61 (b := 63) rfl)) ?_
    refine hq_F.st (s' := (35, _, _, _)) hj248_34 rfl rfl rfl rfl ?_
    refine hq_F.st (s' := (36, _, _, _)) hj248_35 rfl rfl rfl (sy_iav hC hq_s63 (n := 4) (by decide) (by omega)) ?_
    rw [show gv w 63 (4) = Int32.ofNat (nt_c 4 NT) from (hL.four h6)]
    refine hq_F.st (s' := (39, _, _, _)) hj248_36 rfl rfl rfl (hs_icn (t := 100) (ci_gen (by omega)) rfl) ?_
    have h7 : gv w 63 (99 + k) = A 7 k := hL.2.2.2.get (c := 7) (k := k) (by decide) (by show k < 6; omega)
    have hb7 := sy_b hC (c := 63) (by decide) (sb_639 (99 + k) (by omega) (by omega))
    rw [h7] at hb7
    refine hq_F.st (s' := (40, _, _, _)) hj248_39 rfl rfl rfl (hs_al g0) ?_
    refine hq_F.st (s' := (43, _, _, _)) hj248_40 rfl rfl rfl (hq_gf hC sh_61 sk_11_33 (hq_ref hC sh_61 (b := 63) rfl)) ?_
    refine hq_F.st (s' := (45, _, _, _)) hj248_43 rfl rfl rfl rfl ?_
    refine hq_F.st (s' := (47, _, _, _)) hj248_45 rfl rfl rfl (hs_il g4) ?_
    refine hq_F.st (s' := (48, _, _, _)) hj248_47 rfl rfl rfl rfl ?_
    refine hq_F.st (s' := (49, _, _, _)) hj248_48 rfl rfl rfl (sy_iav hC hq_s63 (n := 99 + k) (by rw [hn_k (n := k) hv_99]; exact hn_t (by omega)) (by omega)) ?_
    rw [show gv w 63 (99 + k) = A 7 k from h7]
    refine hq_F.st (s' := (50, _, _, _)) hj248_49 rfl rfl rfl (hs_iln g1) ?_
    refine hq_F.st (s' := (51, _, _, _)) hj248_50 rfl rfl rfl rfl ?_
    refine hq_F.st (s' := (52, _, _, _)) hj248_51 rfl rfl rfl rfl ?_
    by_cases b52 : ((A 7 k)).toInt = ((m + (Int32.ofInt 1))).toInt
    · skip
      refine hq_F.st (s' := (87, _, _, _)) hj248_52 rfl rfl rfl (hs_ic (ci_eq (by omega)) rfl) ?_
      refine hq_F.st (s' := (88, _, _, _)) hj248_87 rfl rfl rfl (hs_iln g2) ?_
      refine hq_F.st (s' := (89, _, _, _)) hj248_88 rfl rfl rfl rfl ?_
      refine hq_F.st (s' := (91, _, _, _)) hj248_89 rfl rfl rfl (hs_il g4) ?_
      refine hq_F.st (s' := (92, _, _, _)) hj248_91 rfl rfl rfl rfl ?_
      refine hq_F.st (s' := (93, _, _, _)) hj248_92 rfl rfl rfl rfl ?_
      refine hq_F.st (s' := (94, _, _, _)) hj248_93 rfl rfl rfl rfl ?_
      refine hq_F.st (s' := (97, _, _, _)) hj248_94 rfl rfl rfl (hs_inc (hg_ne g4 (by decide)) (by decide)) ?_
      refine hq_F.st (s' := (28, _, _, _)) hj248_97 rfl rfl rfl rfl ?_
      have hs : ck_step (A 7) m s k = ls_or s k := if_pos (Or.inl (by rw [Int32.toInt_inj.mp b52]; exact Int32.add_sub_cancel _ _))
      refine ih (k + 1) _ (by omega) (by rw [← hF, ck_row, hs]; rfl) (hg_nr (hg_nr g0 (by decide)) (by decide)) (hg_ne (hg_ne g1 (by decide)) (by decide)) (hg_ne (pi_get_set _ _ _) (by decide)) (hg_ne (hg_ne g3 (by decide)) (by decide)) (by rw [← hn_s]; exact (pi_get_set _ _ _))
    · skip
      refine hq_F.st (s' := (55, _, _, _)) hj248_52 rfl rfl rfl (hs_icn (t := 87) (ci_eqn (by omega)) rfl) ?_
      refine hq_F.st (s' := (56, _, _, _)) hj248_55 rfl rfl rfl (hs_al g0) ?_
      refine hq_F.st (s' := (59, _, _, _)) hj248_56 rfl rfl rfl (hq_gf hC sh_61 sk_11_33 (hq_ref hC sh_61 (b := 63) rfl)) ?_
      refine hq_F.st (s' := (61, _, _, _)) hj248_59 rfl rfl rfl rfl ?_
      refine hq_F.st (s' := (63, _, _, _)) hj248_61 rfl rfl rfl (hs_il g4) ?_
      refine hq_F.st (s' := (64, _, _, _)) hj248_63 rfl rfl rfl rfl ?_
      refine hq_F.st (s' := (65, _, _, _)) hj248_64 rfl rfl rfl (sy_iav hC hq_s63 (n := 99 + k) (by rw [hn_k (n := k) hv_99]; exact hn_t (by omega)) (by omega)) ?_
      rw [show gv w 63 (99 + k) = A 7 k from h7]
      by_cases b65 : ((A 7 k)).toInt ≤ 0
      · skip
        refine hq_F.st (s' := (94, _, _, _)) hj248_65 rfl rfl rfl (hs_if (ci_le (by omega)) rfl) ?_
        refine hq_F.st (s' := (97, _, _, _)) hj248_94 rfl rfl rfl (hs_inc g4 (by decide)) ?_
        refine hq_F.st (s' := (28, _, _, _)) hj248_97 rfl rfl rfl rfl ?_
        have hne : ¬ A 7 k - 1 = m := fun q => b52 (by rw [← q]; exact congrArg Int32.toInt (Int32.sub_add_cancel _ _).symm)
        have hs : ck_step (A 7) m s k = s := if_neg (by rintro (q | q); exact hne q; exact q.1 (sy_zz (by omega)))
        refine ih (k + 1) _ (by omega) (by rw [← hF, ck_row, hs]) (hg_nr g0 (by decide)) (hg_ne g1 (by decide)) (hg_ne g2 (by decide)) (hg_ne g3 (by decide)) (by rw [← hn_s]; exact (pi_get_set _ _ _))
      · skip
        refine hq_F.st (s' := (68, _, _, _)) hj248_65 rfl rfl rfl (hs_ifn (t := 94) (ci_len (by omega)) rfl) ?_
        refine hq_F.st (s' := (69, _, _, _)) hj248_68 rfl rfl rfl (hs_iln g2) ?_
        refine hq_F.st (s' := (70, _, _, _)) hj248_69 rfl rfl rfl (hs_al g0) ?_
        refine hq_F.st (s' := (73, _, _, _)) hj248_70 rfl rfl rfl (hq_gf hC sh_61 sk_11_33 (hq_ref hC sh_61 (b := 63) rfl)) ?_
        refine hq_F.st (s' := (75, _, _, _)) hj248_73 rfl rfl rfl rfl ?_
        refine hq_F.st (s' := (77, _, _, _)) hj248_75 rfl rfl rfl (hs_il g4) ?_
        refine hq_F.st (s' := (78, _, _, _)) hj248_77 rfl rfl rfl rfl ?_
        refine hq_F.st (s' := (79, _, _, _)) hj248_78 rfl rfl rfl (sy_iav hC hq_s63 (n := 99 + k) (by rw [hn_k (n := k) hv_99]; exact hn_t (by omega)) (by omega)) ?_
        rw [show gv w 63 (99 + k) = A 7 k from h7]
        refine hq_F.st (s' := (80, _, _, _)) hj248_79 rfl rfl rfl rfl ?_
        refine hq_F.st (s' := (81, _, _, _)) hj248_80 rfl rfl rfl rfl ?_
        refine hq_F.call hj248_81 rfl rfl si_11_229 (by decide) (by decide) sz_168 (sy_argsS rfl rfl rfl (Nat.le_of_ble_eq_true rfl) (by decide) rfl (Nat.le_of_ble_eq_true rfl) (by decide)) ml_bt (fun _ _ q => by rw [q.1]) ?_
        rintro r81 w ⟨rfl, rfl⟩
        try dsimp only
        cases hbt : ls_bt s (A 7 k - Int32.ofInt 1)
        · rw [show tq_b false = (0 : Int32) from rfl]
          refine hq_F.st (s' := (94, _, _, _)) hj248_84 rfl rfl rfl (hs_if (ci_eq (by omega)) rfl) ?_
          refine hq_F.st (s' := (97, _, _, _)) hj248_94 rfl rfl rfl (hs_inc g4 (by decide)) ?_
          refine hq_F.st (s' := (28, _, _, _)) hj248_97 rfl rfl rfl rfl ?_
          have hne : ¬ A 7 k - 1 = m := fun q => b52 (by rw [← q]; exact congrArg Int32.toInt (Int32.sub_add_cancel _ _).symm)
          have hs : ck_step (A 7) m s k = s := if_neg (by rintro (q | q); exact hne q; have q2 := hbt.symm.trans q.2; cases q2)
          refine ih (k + 1) _ (by omega) (by rw [← hF, ck_row, hs]) (hg_nr g0 (by decide)) (hg_ne g1 (by decide)) (hg_ne g2 (by decide)) (hg_ne g3 (by decide)) (by rw [← hn_s]; exact (pi_get_set _ _ _))
        · rw [show tq_b true = (1 : Int32) from rfl]
          refine hq_F.st (s' := (87, _, _, _)) hj248_84 rfl rfl rfl (hs_ifn (t := 94) (ci_eqn (by omega)) rfl) ?_
          refine hq_F.st (s' := (88, _, _, _)) hj248_87 rfl rfl rfl (hs_iln g2) ?_
          refine hq_F.st (s' := (89, _, _, _)) hj248_88 rfl rfl rfl rfl ?_
          refine hq_F.st (s' := (91, _, _, _)) hj248_89 rfl rfl rfl (hs_il g4) ?_
          refine hq_F.st (s' := (92, _, _, _)) hj248_91 rfl rfl rfl rfl ?_
          refine hq_F.st (s' := (93, _, _, _)) hj248_92 rfl rfl rfl rfl ?_
          refine hq_F.st (s' := (94, _, _, _)) hj248_93 rfl rfl rfl rfl ?_
          refine hq_F.st (s' := (97, _, _, _)) hj248_94 rfl rfl rfl (hs_inc (hg_ne g4 (by decide)) (by decide)) ?_
          refine hq_F.st (s' := (28, _, _, _)) hj248_97 rfl rfl rfl rfl ?_
          have hne : ¬ A 7 k - 1 = m := fun q => b52 (by rw [← q]; exact congrArg Int32.toInt (Int32.sub_add_cancel _ _).symm)
          have hs : ck_step (A 7) m s k = ls_or s k := if_pos (Or.inr ⟨fun q => by rw [q] at b65; exact b65 (by decide), hbt⟩)
          refine ih (k + 1) _ (by omega) (by rw [← hF, ck_row, hs]; rfl) (hg_nr (hg_nr g0 (by decide)) (by decide)) (hg_ne (hg_ne g1 (by decide)) (by decide)) (hg_ne (pi_get_set _ _ _) (by decide)) (hg_ne (hg_ne g3 (by decide)) (by decide)) (by rw [← hn_s]; exact (pi_get_set _ _ _))
theorem ck_mout {d nr : Nat} {A : ld_A} {NT : List nt_E} {w : pi_W} {m F : Int32} (hC : af_Conf aw_Sh w) (hL : MS w 63 0 66 0 A nr NT) (h6 : nt_c 4 NT ≤ 6) : ∀ (f i : Nat) (s : Int32) {lv : pi_L}, i + f = 6 → ck_all (A 7) m (nt_c 4 NT) f s = F → pi_get lv 0 = some (.ref 61) → pi_get lv 1 = some (.int m) → pi_get lv 2 = some (.int s) → pi_get lv 3 = some (.int (Int32.ofNat i)) → hq_F (d + 1) sm248 (fun r _ => r = some (.int F)) (19, lv, [], w) := by
  intro f
  induction f with
  | zero =>
    intro i s lv hi hF g0 g1 g2 g3
    have ti : (Int32.ofNat i).toInt = (i : Int) := hn_t (by omega)
    have hF : s = F := hF
    have kc0 : (((Int8.ofInt 6).toInt32)).toInt = 6 := by decide
    have kz := sy_z0
    refine hq_F.st (s' := (20, _, _, _)) hj248_19 rfl rfl rfl (hs_iln g3) ?_
    refine hq_F.st (s' := (22, _, _, _)) hj248_20 rfl rfl rfl rfl ?_
    refine hq_F.st (s' := (106, _, _, _)) hj248_22 rfl rfl rfl (hs_ic (ci_ge (by omega)) rfl) ?_
    refine hq_F.st (s' := (107, _, _, _)) hj248_106 rfl rfl rfl (hs_iln g2) ?_
    refine hq_F.en hj248_107 rfl (pi_ri _) ?_
    exact congrArg (fun v => some (Value.int v)) hF
  | succ f ih =>
    intro i s lv hi hF g0 g1 g2 g3
    have ti : (Int32.ofNat i).toInt = (i : Int) := hn_t (by omega)
    have kc0 : (((Int8.ofInt 6).toInt32)).toInt = 6 := by decide
    have kc1 : ((Int32.ofInt 0)).toInt = 0 := by decide
    have kz := sy_z0
    refine hq_F.st (s' := (20, _, _, _)) hj248_19 rfl rfl rfl (hs_iln g3) ?_
    refine hq_F.st (s' := (22, _, _, _)) hj248_20 rfl rfl rfl rfl ?_
    refine hq_F.st (s' := (25, _, _, _)) hj248_22 rfl rfl rfl (hs_icn (t := 106) (ci_gen (by omega)) rfl) ?_
    refine hq_F.st (s' := (26, _, _, _)) hj248_25 rfl rfl rfl rfl ?_
    refine hq_F.st (s' := (28, _, _, _)) hj248_26 rfl rfl rfl (sy_is (by decide)) ?_
    refine ck_min hC hL h6 (fun lv2 p0 p1 p2 p3 => ?_) (nt_c 4 NT) 0 s (by omega) rfl (hg_nr g0 (by decide)) (hg_ne g1 (by decide)) (hg_ne g2 (by decide)) (hg_ne g3 (by decide)) (pi_get_set _ _ _)
    refine hq_F.st (s' := (103, _, _, _)) hj248_100 rfl rfl rfl (hs_inc p3 (by decide)) ?_
    refine hq_F.st (s' := (19, _, _, _)) hj248_103 rfl rfl rfl rfl ?_
    exact ih (i + 1) _ (by omega) (by rw [← hF, ck_all]) (hg_nr p0 (by decide)) (hg_ne p1 (by decide)) (hg_ne p2 (by decide)) (by rw [← hn_s]; exact pi_get_set _ _ _)
theorem mi_man {d nr : Nat} {A : ld_A} {NT : List nt_E} {w : pi_W} {x : Int32} (hC : af_Conf aw_Sh w) (hL : MS w 63 0 66 0 A nr NT) (h6 : nt_c 4 NT ≤ 6) : hq_F (d + 1) sm197 (fun r w' => w' = w ∧ r = some (.int (tq_b (decide (0 ≤ x.toInt ∧ x.toInt < (nt_c 4 NT : Int)))))) (0, lv_args 0 [.ref 61, .int x], [], w) := by
  have g0 : pi_get (lv_args 0 [.ref 61, .int x]) 0 = some (.ref 61) := rfl
  have g1 : pi_get (lv_args 0 [.ref 61, .int x]) 1 = some (.int x) := rfl
  have kc0 : ((Int32.ofInt 0)).toInt = 0 := by decide
  have kc1 : ((Int32.ofInt 1)).toInt = 1 := by decide
  have kc2 : ((Int32.ofInt 4)).toInt = 4 := by decide
  have kz := sy_z0
  refine hq_F.st (s' := (1, _, _, _)) hj197_0 rfl rfl rfl (hs_iln g1) ?_
  refine hq_F.st (s' := (2, _, _, _)) hj197_1 rfl rfl rfl rfl ?_
  refine hq_F.st (s' := (3, _, _, _)) hj197_2 rfl rfl rfl (hs_al g0) ?_
  refine hq_F.st (s' := (6, _, _, _)) hj197_3 rfl rfl rfl (hq_gf hC sh_61 sk_11_33 (hq_ref hC sh_61 (b := 63) rfl)) ?_
  refine hq_F.st (s' := (7, _, _, _)) hj197_6 rfl rfl rfl rfl ?_
  refine hq_F.st (s' := (8, _, _, _)) hj197_7 rfl rfl rfl (sy_iav hC hq_s63 (n := 4) (by decide) (by omega)) ?_
  rw [show gv w 63 (4) = Int32.ofNat (nt_c 4 NT) from (hL.four h6)]
  refine hq_F.st (s' := (9, _, _, _)) hj197_8 rfl rfl rfl rfl ?_
  refine hq_F.st (s' := (10, _, _, _)) hj197_9 rfl rfl rfl rfl ?_
  refine hq_F.call hj197_10 rfl rfl si_11_184 (by decide) (by decide) sz_167 (sy_argsS rfl rfl rfl (Nat.le_of_ble_eq_true rfl) (by decide) rfl (Nat.le_of_ble_eq_true rfl) (by decide)) mt_in (fun _ _ q => by rw [q.1]) ?_
  rintro r10 w ⟨rfl, rfl⟩
  try dsimp only
  rw [show decide ((Int32.ofInt 0).toInt ≤ x.toInt ∧ x.toInt ≤ (Int32.ofNat (nt_c 4 NT) - Int32.ofInt 1).toInt) = decide (0 ≤ x.toInt ∧ x.toInt < (nt_c 4 NT : Int)) from decide_eq_decide.mpr (by rw [hn_m1 _ (by omega)]; omega)]
  refine hq_F.en hj197_13 rfl (sy_rb _) ?_
  exact ⟨rfl, rfl⟩
theorem mx_clerks {d nr : Nat} {A : ld_A} {NT : List nt_E} {w : pi_W} {x : Int32} (hC : af_Conf aw_Sh w) (hL : MS w 63 0 66 0 A nr NT) (h6 : nt_c 4 NT ≤ 6) : hq_F (d + 2) sm248 (fun r _ => r = some (.int (ck_ans A (nt_c 4 NT) x))) (0, lv_args 0 [.ref 61, .int x], [], w) := by
  have g0 : pi_get (lv_args 0 [.ref 61, .int x]) 0 = some (.ref 61) := rfl
  have g1 : pi_get (lv_args 0 [.ref 61, .int x]) 1 = some (.int x) := rfl
  have kc0 : ((0 : Int32)).toInt = 0 := by decide
  have kc1 : ((1 : Int32)).toInt = 1 := by decide
  have kc2 : ((Int32.ofInt (-1))).toInt = (-1) := by decide
  have kc3 : ((Int32.ofInt 0)).toInt = 0 := by decide
  have kz := sy_z0
  refine hq_F.st (s' := (1, _, _, _)) hj248_0 rfl rfl rfl (hs_al g0) ?_
  refine hq_F.st (s' := (2, _, _, _)) hj248_1 rfl rfl rfl rfl ?_
  refine sy_pf hj248_2 hC sh_61 sk_11_1 (lo := -2147483648) (hi := 2147483647) rfl (af_i32 _) rfl rfl rfl (fun w21 hC21 hw21 => ?_)
  refine hq_F.st (s' := (6, _, _, _)) hj248_5 rfl rfl rfl (hs_al g0) ?_
  refine hq_F.st (s' := (7, _, _, _)) hj248_6 rfl rfl rfl (hs_iln g1) ?_
  refine hq_F.call hj248_7 rfl rfl si_11_286 (by decide) (by decide) sz_197 (sy_argsV hC21 sh_61 rfl rfl rfl (Nat.le_of_ble_eq_true rfl) rfl (Nat.le_of_ble_eq_true rfl) rfl (by decide)) (mi_man (d := d) hC21 (hL.fr (wpF hw21) (by decide) (by decide)) h6) (fun _ _ q => by rw [q.1]) ?_
  rintro r7 w21 ⟨rfl, rfl⟩
  try dsimp only
  by_cases hx : 0 ≤ x.toInt ∧ x.toInt < (nt_c 4 NT : Int)
  · rw [decide_eq_true hx, show tq_b true = (1 : Int32) from rfl]
    refine hq_F.st (s' := (15, _, _, _)) hj248_10 rfl rfl rfl (hs_if (ci_ne (by omega)) rfl) ?_
    refine hq_F.st (s' := (16, _, _, _)) hj248_15 rfl rfl rfl rfl ?_
    refine hq_F.st (s' := (17, _, _, _)) hj248_16 rfl rfl rfl rfl ?_
    refine hq_F.st (s' := (18, _, _, _)) hj248_17 rfl rfl rfl rfl ?_
    refine hq_F.st (s' := (19, _, _, _)) hj248_18 rfl rfl rfl rfl ?_
    exact ck_mout (d := d + 1) hC21 (hL.fr (wpF hw21) (by decide) (by decide)) h6 6 0 _ (by omega) (if_pos hx).symm (hg_nr (hg_nr g0 (by decide)) (by decide)) (hg_ne (hg_ne g1 (by decide)) (by decide)) (hg_ne (pi_get_set _ _ _) (by decide)) (pi_get_set _ _ _)
  · rw [decide_eq_false hx, show tq_b false = (0 : Int32) from rfl]
    refine hq_F.st (s' := (13, _, _, _)) hj248_10 rfl rfl rfl (hs_ifn (t := 15) (ci_nen (by omega)) rfl) ?_
    refine hq_F.st (s' := (14, _, _, _)) hj248_13 rfl rfl rfl rfl ?_
    refine hq_F.en hj248_14 rfl rfl ?_
    exact congrArg (fun v => some (Value.int v)) (if_neg hx).symm
