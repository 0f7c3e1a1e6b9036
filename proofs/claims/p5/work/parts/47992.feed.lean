/-! ===== feed and the tapes; by program ===== -/
theorem si_10_121 : pi_look pi_iT 10 121 = some (2, 95, 1, 463) := rfl
theorem si_11_10 : pi_look pi_iT 11 10 = some (2, 164, 1, 1204) := rfl
def sm111 : pi_M := (10, 6, (some .int), false, mc_111)
def sm163 : pi_M := (11, 6, (some .int), false, mc_163)
def sm164 : pi_M := (11, 3, none, false, mc_164)
def sm95 : pi_M := (9, 3, none, false, mc_95)
set_option maxRecDepth 100000 in
theorem sz_111 : pi_mt[111]? = some (mn_111, prog_1_method_2_code, (10, 6, (some .int), false, mc_111)) := rfl
set_option maxRecDepth 100000 in
theorem sz_163 : pi_mt[163]? = some (mn_163, prog_13_method_3_code, (11, 6, (some .int), false, mc_163)) := rfl
set_option maxRecDepth 100000 in
theorem sz_164 : pi_mt[164]? = some (mn_164, prog_13_method_4_code, (11, 3, none, false, mc_164)) := rfl
set_option maxRecDepth 100000 in
theorem sz_95 : pi_mt[95]? = some (mn_95, prog_11_method_2_code, (9, 3, none, false, mc_95)) := rfl
theorem hj95_0 : pi_fetch mc_95 0 = some (.bipush 24, 2) := rfl
theorem hj95_2 : pi_fetch mc_95 2 = some (.istore_n 2, 1) := rfl
theorem hj95_3 : pi_fetch mc_95 3 = some (.iload_n 2, 1) := rfl
theorem hj95_4 : pi_fetch mc_95 4 = some (.ifCond .lt 51, 3) := rfl
theorem hj95_7 : pi_fetch mc_95 7 = some (.aload_n 0, 1) := rfl
theorem hj95_8 : pi_fetch mc_95 8 = some (.getfield 33, 3) := rfl
theorem hj95_11 : pi_fetch mc_95 11 = some (.ifCond .lt 38, 3) := rfl
theorem hj95_14 : pi_fetch mc_95 14 = some (.aload_n 0, 1) := rfl
theorem hj95_15 : pi_fetch mc_95 15 = some (.getfield 33, 3) := rfl
theorem hj95_18 : pi_fetch mc_95 18 = some (.aload_n 0, 1) := rfl
theorem hj95_19 : pi_fetch mc_95 19 = some (.getfield 9, 3) := rfl
theorem hj95_22 : pi_fetch mc_95 22 = some (.arraylength, 1) := rfl
theorem hj95_23 : pi_fetch mc_95 23 = some (.if_icmp .ge 26, 3) := rfl
theorem hj95_26 : pi_fetch mc_95 26 = some (.aload_n 0, 1) := rfl
theorem hj95_27 : pi_fetch mc_95 27 = some (.getfield 9, 3) := rfl
theorem hj95_30 : pi_fetch mc_95 30 = some (.aload_n 0, 1) := rfl
theorem hj95_31 : pi_fetch mc_95 31 = some (.getfield 33, 3) := rfl
theorem hj95_34 : pi_fetch mc_95 34 = some (.iload_n 1, 1) := rfl
theorem hj95_35 : pi_fetch mc_95 35 = some (.iload_n 2, 1) := rfl
theorem hj95_36 : pi_fetch mc_95 36 = some (.ishr, 1) := rfl
theorem hj95_37 : pi_fetch mc_95 37 = some (.i2b, 1) := rfl
theorem hj95_38 : pi_fetch mc_95 38 = some (.bastore, 1) := rfl
theorem hj95_39 : pi_fetch mc_95 39 = some (.aload_n 0, 1) := rfl
theorem hj95_40 : pi_fetch mc_95 40 = some (.dup, 1) := rfl
theorem hj95_41 : pi_fetch mc_95 41 = some (.getfield 33, 3) := rfl
theorem hj95_44 : pi_fetch mc_95 44 = some (.iconst 1, 1) := rfl
theorem hj95_45 : pi_fetch mc_95 45 = some (.iadd, 1) := rfl
theorem hj95_46 : pi_fetch mc_95 46 = some (.putfield 33, 3) := rfl
theorem hj95_49 : pi_fetch mc_95 49 = some (.iinc 2 (-8), 3) := rfl
theorem hj95_52 : pi_fetch mc_95 52 = some (.goto (-49), 3) := rfl
theorem hj95_55 : pi_fetch mc_95 55 = some (.return_, 1) := rfl
theorem hj111_0 : pi_fetch mc_111 0 = some (.aload_n 0, 1) := rfl
theorem hj111_1 : pi_fetch mc_111 1 = some (.getfield 12, 3) := rfl
theorem hj111_4 : pi_fetch mc_111 4 = some (.getfield 118, 3) := rfl
theorem hj111_7 : pi_fetch mc_111 7 = some (.bipush 20, 2) := rfl
theorem hj111_9 : pi_fetch mc_111 9 = some (.iadd, 1) := rfl
theorem hj111_10 : pi_fetch mc_111 10 = some (.sipush 940, 3) := rfl
theorem hj111_13 : pi_fetch mc_111 13 = some (.if_icmp .le 5, 3) := rfl
theorem hj111_16 : pi_fetch mc_111 16 = some (.iconst (-1), 1) := rfl
theorem hj111_17 : pi_fetch mc_111 17 = some (.ireturn, 1) := rfl
theorem hj111_18 : pi_fetch mc_111 18 = some (.aload_n 0, 1) := rfl
theorem hj111_19 : pi_fetch mc_111 19 = some (.getfield 12, 3) := rfl
theorem hj111_22 : pi_fetch mc_111 22 = some (.iload_n 1, 1) := rfl
theorem hj111_23 : pi_fetch mc_111 23 = some (.invokevirtual 121, 3) := rfl
theorem hj111_26 : pi_fetch mc_111 26 = some (.aload_n 0, 1) := rfl
theorem hj111_27 : pi_fetch mc_111 27 = some (.getfield 12, 3) := rfl
theorem hj111_30 : pi_fetch mc_111 30 = some (.iload_n 2, 1) := rfl
theorem hj111_31 : pi_fetch mc_111 31 = some (.invokevirtual 121, 3) := rfl
theorem hj111_34 : pi_fetch mc_111 34 = some (.aload_n 0, 1) := rfl
theorem hj111_35 : pi_fetch mc_111 35 = some (.getfield 12, 3) := rfl
theorem hj111_38 : pi_fetch mc_111 38 = some (.iload_n 3, 1) := rfl
theorem hj111_39 : pi_fetch mc_111 39 = some (.invokevirtual 121, 3) := rfl
theorem hj111_42 : pi_fetch mc_111 42 = some (.aload_n 0, 1) := rfl
theorem hj111_43 : pi_fetch mc_111 43 = some (.getfield 12, 3) := rfl
theorem hj111_46 : pi_fetch mc_111 46 = some (.iload 4, 2) := rfl
theorem hj111_48 : pi_fetch mc_111 48 = some (.invokevirtual 121, 3) := rfl
theorem hj111_51 : pi_fetch mc_111 51 = some (.aload_n 0, 1) := rfl
theorem hj111_52 : pi_fetch mc_111 52 = some (.getfield 12, 3) := rfl
theorem hj111_55 : pi_fetch mc_111 55 = some (.iload 5, 2) := rfl
theorem hj111_57 : pi_fetch mc_111 57 = some (.invokevirtual 121, 3) := rfl
theorem hj111_60 : pi_fetch mc_111 60 = some (.aload_n 0, 1) := rfl
theorem hj111_61 : pi_fetch mc_111 61 = some (.getfield 12, 3) := rfl
theorem hj111_64 : pi_fetch mc_111 64 = some (.getfield 118, 3) := rfl
theorem hj111_67 : pi_fetch mc_111 67 = some (.ireturn, 1) := rfl
theorem hj164_0 : pi_fetch mc_164 0 = some (.bipush 24, 2) := rfl
theorem hj164_2 : pi_fetch mc_164 2 = some (.istore_n 2, 1) := rfl
theorem hj164_3 : pi_fetch mc_164 3 = some (.iload_n 2, 1) := rfl
theorem hj164_4 : pi_fetch mc_164 4 = some (.ifCond .lt 32, 3) := rfl
theorem hj164_7 : pi_fetch mc_164 7 = some (.aload_n 0, 1) := rfl
theorem hj164_8 : pi_fetch mc_164 8 = some (.getfield 14, 3) := rfl
theorem hj164_11 : pi_fetch mc_164 11 = some (.aload_n 0, 1) := rfl
theorem hj164_12 : pi_fetch mc_164 12 = some (.getfield 7, 3) := rfl
theorem hj164_15 : pi_fetch mc_164 15 = some (.iload_n 1, 1) := rfl
theorem hj164_16 : pi_fetch mc_164 16 = some (.iload_n 2, 1) := rfl
theorem hj164_17 : pi_fetch mc_164 17 = some (.ishr, 1) := rfl
theorem hj164_18 : pi_fetch mc_164 18 = some (.i2b, 1) := rfl
theorem hj164_19 : pi_fetch mc_164 19 = some (.bastore, 1) := rfl
theorem hj164_20 : pi_fetch mc_164 20 = some (.aload_n 0, 1) := rfl
theorem hj164_21 : pi_fetch mc_164 21 = some (.dup, 1) := rfl
theorem hj164_22 : pi_fetch mc_164 22 = some (.getfield 7, 3) := rfl
theorem hj164_25 : pi_fetch mc_164 25 = some (.iconst 1, 1) := rfl
theorem hj164_26 : pi_fetch mc_164 26 = some (.iadd, 1) := rfl
theorem hj164_27 : pi_fetch mc_164 27 = some (.putfield 7, 3) := rfl
theorem hj164_30 : pi_fetch mc_164 30 = some (.iinc 2 (-8), 3) := rfl
theorem hj164_33 : pi_fetch mc_164 33 = some (.goto (-30), 3) := rfl
theorem hj164_36 : pi_fetch mc_164 36 = some (.return_, 1) := rfl
theorem hj163_0 : pi_fetch mc_163 0 = some (.aload_n 0, 1) := rfl
theorem hj163_1 : pi_fetch mc_163 1 = some (.iconst 0, 1) := rfl
theorem hj163_2 : pi_fetch mc_163 2 = some (.putfield 1, 3) := rfl
theorem hj163_5 : pi_fetch mc_163 5 = some (.aload_n 0, 1) := rfl
theorem hj163_6 : pi_fetch mc_163 6 = some (.getfield 7, 3) := rfl
theorem hj163_9 : pi_fetch mc_163 9 = some (.bipush 20, 2) := rfl
theorem hj163_11 : pi_fetch mc_163 11 = some (.iadd, 1) := rfl
theorem hj163_12 : pi_fetch mc_163 12 = some (.sipush 940, 3) := rfl
theorem hj163_15 : pi_fetch mc_163 15 = some (.if_icmp .le 5, 3) := rfl
theorem hj163_18 : pi_fetch mc_163 18 = some (.iconst (-1), 1) := rfl
theorem hj163_19 : pi_fetch mc_163 19 = some (.ireturn, 1) := rfl
theorem hj163_20 : pi_fetch mc_163 20 = some (.aload_n 0, 1) := rfl
theorem hj163_21 : pi_fetch mc_163 21 = some (.iload_n 1, 1) := rfl
theorem hj163_22 : pi_fetch mc_163 22 = some (.invokevirtual 10, 3) := rfl
theorem hj163_25 : pi_fetch mc_163 25 = some (.aload_n 0, 1) := rfl
theorem hj163_26 : pi_fetch mc_163 26 = some (.iload_n 2, 1) := rfl
theorem hj163_27 : pi_fetch mc_163 27 = some (.invokevirtual 10, 3) := rfl
theorem hj163_30 : pi_fetch mc_163 30 = some (.aload_n 0, 1) := rfl
theorem hj163_31 : pi_fetch mc_163 31 = some (.iload_n 3, 1) := rfl
theorem hj163_32 : pi_fetch mc_163 32 = some (.invokevirtual 10, 3) := rfl
theorem hj163_35 : pi_fetch mc_163 35 = some (.aload_n 0, 1) := rfl
theorem hj163_36 : pi_fetch mc_163 36 = some (.iload 4, 2) := rfl
theorem hj163_38 : pi_fetch mc_163 38 = some (.invokevirtual 10, 3) := rfl
theorem hj163_41 : pi_fetch mc_163 41 = some (.aload_n 0, 1) := rfl
theorem hj163_42 : pi_fetch mc_163 42 = some (.iload 5, 2) := rfl
theorem hj163_44 : pi_fetch mc_163 44 = some (.invokevirtual 10, 3) := rfl
theorem hj163_47 : pi_fetch mc_163 47 = some (.aload_n 0, 1) := rfl
theorem hj163_48 : pi_fetch mc_163 48 = some (.getfield 7, 3) := rfl
theorem hj163_51 : pi_fetch mc_163 51 = some (.ireturn, 1) := rfl
theorem sy_bsv {d pc a m n : Nat} {mi : pi_M} {Q : Option Value → pi_W → Prop} {lv : pi_L} {r : List Value} {w : pi_W} {x j : Int32} {S : List (Nat × Int × Int)} (hf : pi_fetch mi.2.2.2.2 pc = some (.bastore, 1)) (hC : af_Conf aw_Sh w) (hSh : aw_Sh[a]? = some (.inl (1, m, S))) (hj : j.toInt = (n : Int)) (hn : n < m) (hx : ∀ q, af_seg S n = some q → q.1 ≤ (vp_nar .byte x).toInt ∧ (vp_nar .byte x).toInt ≤ q.2) (h : ∀ w', af_Conf aw_Sh w' → wr1 w a n (.int (vp_nar .byte x)) w' → hq_F d mi Q (pc + 1, lv, r, w')) : hq_F d mi Q (pc, lv, .int x :: .int j :: .ref a :: r, w) := by
  obtain ⟨e, he, hoc⟩ := hC.at hSh
  obtain ⟨fn, rfl, hfn⟩ := af_okA.int (by decide) hoc
  obtain ⟨c1, c2⟩ := af_cl (x := j) (by omega)
  have e1 : j.toNatClampNeg = n := by omega
  have h0 : ¬ (j < 0 ∨ m ≤ n) := by rintro (q | q); exact c1 q; omega
  refine hq_F.st (s' := (pc + 1, lv, r, w.set a (.inl (1, m, .inl (upd fn n (vp_nar .byte x)))))) hf rfl rfl rfl ?_ (h _ (hC.set hSh (af_okA.upd (by decide) (by decide) hfn hx)) (wp_of ?_ ?_))
  · simp only [pi_step, he, h0, if_true, if_false, e1]
  · intro c i hcv
    rw [af_wloc_set he]
    by_cases hc : c = a
    · rw [if_pos hc]
      subst hc
      have hi : i ≠ n := by
        intro e
        rw [hq_cov1.mpr ⟨rfl, e⟩] at hcv
        cases hcv
      unfold af_wloc
      rw [he]
      exact af_cloc_upd i hi
    · rw [if_neg hc]
  · rw [af_wloc_set he, if_pos rfl]
    exact af_cloc_at hn
/-- a byte of a number -/
def fy (x s : Int32) : Int32 := vp_nar .byte ((x >>> (s &&& 31)).toInt8.toInt32)
def fd1 (f : Nat → Int32) (b : Nat) (v : Int32) : Nat → Int32 := fun n => if n = b then v else f n
def fd4 (f : Nat → Int32) (b : Nat) (x : Int32) : Nat → Int32 := fd1 (fd1 (fd1 (fd1 f b (fy x (Int32.ofInt 24))) (b + 1) (fy x (Int32.ofInt 16))) (b + 2) (fy x (Int32.ofInt 8))) (b + 3) (fy x (Int32.ofInt 0))
def fdT (f : Nat → Int32) (b : Nat) (x1 x2 x3 x4 x5 : Int32) : Nat → Int32 := if b ≤ 920 then fd4 (fd4 (fd4 (fd4 (fd4 f b x1) (b + 4) x2) (b + 8) x3) (b + 12) x4) (b + 16) x5 else f
theorem fd1_c {f g : Nat → Int32} (h : ∀ n, n < 940 → f n = g n) (b : Nat) (v : Int32) : ∀ n, n < 940 → fd1 f b v n = fd1 g b v n := fun n hn => by
  unfold fd1
  rw [h n hn]
theorem fd4_c {f g : Nat → Int32} (h : ∀ n, n < 940 → f n = g n) (b : Nat) (x : Int32) : ∀ n, n < 940 → fd4 f b x n = fd4 g b x n := fd1_c (fd1_c (fd1_c (fd1_c h _ _) _ _) _ _) _ _
theorem fdT_c {f g : Nat → Int32} (h : ∀ n, n < 940 → f n = g n) (b : Nat) (x1 x2 x3 x4 x5 : Int32) : ∀ n, n < 940 → fdT f b x1 x2 x3 x4 x5 n = fdT g b x1 x2 x3 x4 x5 n := by
  unfold fdT
  split
  · exact fd4_c (fd4_c (fd4_c (fd4_c (fd4_c h _ _) _ _) _ _) _ _) _ _
  · exact h
theorem pg_k {lv : pi_L} {i : Nat} {x y : Int32} (h : pi_get lv i = some (.int x)) (e : x = y) : pi_get lv i = some (.int y) := by rw [h, e]
theorem sb_2 : ∀ k, k < 940 → af_seg sf_2 k = some (-128, 127) := by decide +kernel
theorem cf_one {d b : Nat} {w : pi_W} {lv : pi_L} {x s : Int32} {Q : Option Value → pi_W → Prop} (hC : af_Conf aw_Sh w) (hb : (gv w 1 2).toInt = (b : Int)) (hb9 : b < 940) (hs : 0 ≤ s.toInt) (g0 : pi_get lv 0 = some (.ref 1)) (g1 : pi_get lv 1 = some (.int x)) (g2 : pi_get lv 2 = some (.int s)) (hgo : ∀ (w' : pi_W) (lv' : pi_L), af_Conf aw_Sh w' → af_Fr [(1, 2, 3), (2, 0, 940)] w w' → (gv w' 1 2).toInt = ((b + 1 : Nat) : Int) → (∀ n, n < 940 → gv w' 2 n = fd1 (gv w 2) b (fy x s) n) → pi_get lv' 0 = some (.ref 1) → pi_get lv' 1 = some (.int x) → pi_get lv' 2 = some (.int (s + Int32.ofInt (-8))) → hq_F d sm95 Q (3, lv', [], w')) : hq_F d sm95 Q (3, lv, [], w) := by
  have kc0 : ((Int32.ofInt 1)).toInt = 1 := by decide
  have kc1 : ((Int32.ofNat 940)).toInt = 940 := by decide
  have kz := sy_z0
  refine hq_F.st (s' := (4, _, _, _)) hj95_3 rfl rfl rfl (hs_iln g2) ?_
  refine hq_F.st (s' := (7, _, _, _)) hj95_4 rfl rfl rfl (hs_ifn (t := 55) (ci_ltn (by omega)) rfl) ?_
  refine hq_F.st (s' := (8, _, _, _)) hj95_7 rfl rfl rfl (hs_al g0) ?_
  refine hq_F.st (s' := (11, _, _, _)) hj95_8 rfl rfl rfl (hq_gf hC sh_1 sk_9_33 (sy_v hC (by decide) rfl)) ?_
  refine hq_F.st (s' := (14, _, _, _)) hj95_11 rfl rfl rfl (hs_ifn (t := 49) (ci_ltn (by omega)) rfl) ?_
  refine hq_F.st (s' := (15, _, _, _)) hj95_14 rfl rfl rfl (hs_al g0) ?_
  refine hq_F.st (s' := (18, _, _, _)) hj95_15 rfl rfl rfl (hq_gf hC sh_1 sk_9_33 (sy_v hC (by decide) rfl)) ?_
  refine hq_F.st (s' := (19, _, _, _)) hj95_18 rfl rfl rfl (hs_al g0) ?_
  refine hq_F.st (s' := (22, _, _, _)) hj95_19 rfl rfl rfl (hq_gf hC sh_1 sk_9_9 (hq_ref hC sh_1 (b := 2) rfl)) ?_
  refine hq_F.st (s' := (23, _, _, _)) hj95_22 rfl rfl rfl (sy_len hC sh_2) ?_
  refine hq_F.st (s' := (26, _, _, _)) hj95_23 rfl rfl rfl (hs_icn (t := 49) (ci_gen (by omega)) rfl) ?_
  refine hq_F.st (s' := (27, _, _, _)) hj95_26 rfl rfl rfl (hs_al g0) ?_
  refine hq_F.st (s' := (30, _, _, _)) hj95_27 rfl rfl rfl (hq_gf hC sh_1 sk_9_9 (hq_ref hC sh_1 (b := 2) rfl)) ?_
  refine hq_F.st (s' := (31, _, _, _)) hj95_30 rfl rfl rfl (hs_al g0) ?_
  refine hq_F.st (s' := (34, _, _, _)) hj95_31 rfl rfl rfl (hq_gf hC sh_1 sk_9_33 (sy_v hC (by decide) rfl)) ?_
  refine hq_F.st (s' := (35, _, _, _)) hj95_34 rfl rfl rfl (hs_iln g1) ?_
  refine hq_F.st (s' := (36, _, _, _)) hj95_35 rfl rfl rfl (hs_iln g2) ?_
  refine hq_F.st (s' := (37, _, _, _)) hj95_36 rfl rfl rfl rfl ?_
  refine hq_F.st (s' := (38, _, _, _)) hj95_37 rfl rfl rfl rfl ?_
  refine sy_bsv hj95_38 hC sh_2 (n := b) hb (by omega) (fun q hq => by rw [sb_2 _ (by omega)] at hq; cases hq; exact af_b8 _) (fun w1 hC1 hw1 => ?_)
  refine hq_F.st (s' := (40, _, _, _)) hj95_39 rfl rfl rfl (hs_al g0) ?_
  refine hq_F.st (s' := (41, _, _, _)) hj95_40 rfl rfl rfl rfl ?_
  refine hq_F.st (s' := (44, _, _, _)) hj95_41 rfl rfl rfl (hq_gf hC1 sh_1 sk_9_33 (sy_v hC1 (by decide) rfl)) ?_
  refine hq_F.st (s' := (45, _, _, _)) hj95_44 rfl rfl rfl rfl ?_
  refine hq_F.st (s' := (46, _, _, _)) hj95_45 rfl rfl rfl rfl ?_
  rw [show gv w1 1 2 = Int32.ofNat b from (by rw [wpv hw1, if_neg (by omega)]; exact hn_e hb (by omega)), hn_s]
  have tb1 : (Int32.ofNat (b + 1)).toInt = ((b + 1 : Nat) : Int) := hn_t (by omega)
  refine sy_pf hj95_46 hC1 sh_1 sk_9_33 (lo := -2147483648) (hi := 2147483647) rfl (af_i32 _) rfl rfl rfl (fun w21 hC21 hw21 => ?_)
  refine hq_F.st (s' := (52, _, _, _)) hj95_49 rfl rfl rfl (hs_inc g2 (by decide)) ?_
  refine hq_F.st (s' := (3, _, _, _)) hj95_52 rfl rfl rfl rfl ?_
  refine hgo w21 _ hC21 ((af_Fr.cov (hq_fr1 (lo := 0) (hi := 940) hw1 (by omega)) (by decide)).tr ((wpF hw21).cov (by decide))) (by rw [wpv hw21, if_pos ⟨rfl, rfl⟩]; exact tb1) (fun n hn => ?_) (hg_nr g0 (by decide)) (hg_ne g1 (by decide)) (pi_get_set _ _ _)
  rw [wpv hw21, if_neg (by omega), wpv hw1]
  unfold fd1
  by_cases e : n = b
  · rw [if_pos ⟨rfl, e⟩, if_pos e]
    rfl
  · rw [if_neg (fun q => e q.2), if_neg e]
theorem cf_four {d b : Nat} {w : pi_W} {x : Int32} (hC : af_Conf aw_Sh w) (hb : (gv w 1 2).toInt = (b : Int)) (hb9 : b + 4 ≤ 940) : hq_F d sm95 (fun r w' => r = none ∧ af_Conf aw_Sh w' ∧ af_Fr [(1, 2, 3), (2, 0, 940)] w w' ∧ (gv w' 1 2).toInt = ((b + 4 : Nat) : Int) ∧ ∀ n, n < 940 → gv w' 2 n = fd4 (gv w 2) b x n) (0, lv_args 0 [.ref 1, .int x], [], w) := by
  have g0 : pi_get (lv_args 0 [.ref 1, .int x]) 0 = some (.ref 1) := rfl
  have g1 : pi_get (lv_args 0 [.ref 1, .int x]) 1 = some (.int x) := rfl
  refine hq_F.st (s' := (2, _, _, _)) hj95_0 rfl rfl rfl rfl ?_
  refine hq_F.st (s' := (3, _, _, _)) hj95_2 rfl rfl rfl rfl ?_
  refine cf_one (s := Int32.ofInt 24) hC hb (by omega) (by decide) (hg_nr g0 (by decide)) (hg_ne g1 (by decide)) (pg_k (pi_get_set _ _ _) (by decide)) (fun w1 lv1 hC1 F1 b1 c1 p0 p1 p2 => ?_)
  refine cf_one (s := Int32.ofInt 16) hC1 b1 (by omega) (by decide) p0 p1 (pg_k p2 (by decide)) (fun w2 lv2 hC2 F2 b2 c2 q0 q1 q2 => ?_)
  refine cf_one (s := Int32.ofInt 8) hC2 b2 (by omega) (by decide) q0 q1 (pg_k q2 (by decide)) (fun w3 lv3 hC3 F3 b3 c3 r0 r1 r2 => ?_)
  refine cf_one (s := Int32.ofInt 0) hC3 b3 (by omega) (by decide) r0 r1 (pg_k r2 (by decide)) (fun w4 lv4 hC4 F4 b4 c4 s0 s1 s2 => ?_)
  have s3 := pg_k (y := Int32.ofInt (-8)) s2 (by decide)
  refine hq_F.st (s' := (4, _, _, _)) hj95_3 rfl rfl rfl (hs_iln s3) ?_
  refine hq_F.st (s' := (55, _, _, _)) hj95_4 rfl rfl rfl (hs_if (ci_lt (by decide)) rfl) ?_
  refine hq_F.en hj95_55 rfl rfl ?_
  refine ⟨rfl, hC4, F1.tr (F2.tr (F3.tr F4)), b4, fun n hn => ?_⟩
  rw [c4 n hn]
  exact fd1_c (fun n hn => by rw [c3 n hn]; exact fd1_c (fun n hn => by rw [c2 n hn]; exact fd1_c c1 _ _ n hn) _ _ n hn) _ _ n hn
theorem cf_feed {d b : Nat} {w : pi_W} {x1 x2 x3 x4 x5 : Int32} (hC : af_Conf aw_Sh w) (hb : (gv w 1 2).toInt = (b : Int)) (hb9 : b ≤ 940) : hq_F (d + 1) sm111 (fun _ w' => ∀ n, n < 940 → gv w' 2 n = fdT (gv w 2) b x1 x2 x3 x4 x5 n) (0, lv_args 0 [.ref 0, .int x1, .int x2, .int x3, .int x4, .int x5], [], w) := by
  have g0 : pi_get (lv_args 0 [.ref 0, .int x1, .int x2, .int x3, .int x4, .int x5]) 0 = some (.ref 0) := rfl
  have g1 : pi_get (lv_args 0 [.ref 0, .int x1, .int x2, .int x3, .int x4, .int x5]) 1 = some (.int x1) := rfl
  have g2 : pi_get (lv_args 0 [.ref 0, .int x1, .int x2, .int x3, .int x4, .int x5]) 2 = some (.int x2) := rfl
  have g3 : pi_get (lv_args 0 [.ref 0, .int x1, .int x2, .int x3, .int x4, .int x5]) 3 = some (.int x3) := rfl
  have g4 : pi_get (lv_args 0 [.ref 0, .int x1, .int x2, .int x3, .int x4, .int x5]) 4 = some (.int x4) := rfl
  have g5 : pi_get (lv_args 0 [.ref 0, .int x1, .int x2, .int x3, .int x4, .int x5]) 5 = some (.int x5) := rfl
  have kc0 : (((Int16.ofInt 940).toInt32)).toInt = 940 := by decide
  have kc1 : (((Int8.ofInt 20).toInt32)).toInt = 20 := by decide
  have kc2 : ((Int32.ofInt (-1))).toInt = (-1) := by decide
  have kz := sy_z0
  refine hq_F.st (s' := (1, _, _, _)) hj111_0 rfl rfl rfl (hs_al g0) ?_
  refine hq_F.st (s' := (4, _, _, _)) hj111_1 rfl rfl rfl (hq_gf hC sh_0 sk_10_12 (hq_ref hC sh_0 (b := 1) rfl)) ?_
  refine hq_F.st (s' := (7, _, _, _)) hj111_4 rfl rfl rfl (hq_gf hC sh_1 sk_10_118 (sy_v hC (by decide) rfl)) ?_
  refine hq_F.st (s' := (9, _, _, _)) hj111_7 rfl rfl rfl rfl ?_
  refine hq_F.st (s' := (10, _, _, _)) hj111_9 rfl rfl rfl rfl ?_
  refine hq_F.st (s' := (13, _, _, _)) hj111_10 rfl rfl rfl rfl ?_
  rw [show gv w 1 2 = Int32.ofNat b from hn_e hb (by omega), show Int32.ofNat b + ((Int8.ofInt 20).toInt32) = Int32.ofNat (b + 20) from by rw [show ((Int8.ofInt 20).toInt32) = Int32.ofNat 20 by decide, hn_a]]
  have tb20 : (Int32.ofNat (b + 20)).toInt = ((b + 20 : Nat) : Int) := hn_t (by omega)
  by_cases b13 : ((Int32.ofNat (b + 20))).toInt ≤ 940
  · skip
    refine hq_F.st (s' := (18, _, _, _)) hj111_13 rfl rfl rfl (hs_ic (ci_le (by omega)) rfl) ?_
    refine hq_F.st (s' := (19, _, _, _)) hj111_18 rfl rfl rfl (hs_al g0) ?_
    refine hq_F.st (s' := (22, _, _, _)) hj111_19 rfl rfl rfl (hq_gf hC sh_0 sk_10_12 (hq_ref hC sh_0 (b := 1) rfl)) ?_
    refine hq_F.st (s' := (23, _, _, _)) hj111_22 rfl rfl rfl (hs_iln g1) ?_
    refine hq_F.call hj111_23 rfl rfl si_10_121 (by decide) (by decide) sz_95 (sy_argsV hC sh_1 rfl rfl rfl (Nat.le_of_ble_eq_true rfl) rfl (Nat.le_of_ble_eq_true rfl) rfl (by decide)) (cf_four (d := d) (b := b) (x := x1) hC hb (by omega)) (fun _ _ q => by rw [q.2.1.1, hC.1]) ?_
    rintro r23 w1 ⟨rfl, hC1, F1, b1, c1⟩
    try dsimp only
    refine hq_F.st (s' := (27, _, _, _)) hj111_26 rfl rfl rfl (hs_al g0) ?_
    refine hq_F.st (s' := (30, _, _, _)) hj111_27 rfl rfl rfl (hq_gf hC1 sh_0 sk_10_12 (hq_ref hC1 sh_0 (b := 1) rfl)) ?_
    refine hq_F.st (s' := (31, _, _, _)) hj111_30 rfl rfl rfl (hs_iln g2) ?_
    refine hq_F.call hj111_31 rfl rfl si_10_121 (by decide) (by decide) sz_95 (sy_argsV hC1 sh_1 rfl rfl rfl (Nat.le_of_ble_eq_true rfl) rfl (Nat.le_of_ble_eq_true rfl) rfl (by decide)) (cf_four (d := d) (b := b + 4) (x := x2) hC1 b1 (by omega)) (fun _ _ q => by rw [q.2.1.1, hC1.1]) ?_
    rintro r31 w2 ⟨rfl, hC2, F2, b2, c2⟩
    try dsimp only
    refine hq_F.st (s' := (35, _, _, _)) hj111_34 rfl rfl rfl (hs_al g0) ?_
    refine hq_F.st (s' := (38, _, _, _)) hj111_35 rfl rfl rfl (hq_gf hC2 sh_0 sk_10_12 (hq_ref hC2 sh_0 (b := 1) rfl)) ?_
    refine hq_F.st (s' := (39, _, _, _)) hj111_38 rfl rfl rfl (hs_iln g3) ?_
    refine hq_F.call hj111_39 rfl rfl si_10_121 (by decide) (by decide) sz_95 (sy_argsV hC2 sh_1 rfl rfl rfl (Nat.le_of_ble_eq_true rfl) rfl (Nat.le_of_ble_eq_true rfl) rfl (by decide)) (cf_four (d := d) (b := b + 8) (x := x3) hC2 b2 (by omega)) (fun _ _ q => by rw [q.2.1.1, hC2.1]) ?_
    rintro r39 w3 ⟨rfl, hC3, F3, b3, c3⟩
    try dsimp only
    refine hq_F.st (s' := (43, _, _, _)) hj111_42 rfl rfl rfl (hs_al g0) ?_
    refine hq_F.st (s' := (46, _, _, _)) hj111_43 rfl rfl rfl (hq_gf hC3 sh_0 sk_10_12 (hq_ref hC3 sh_0 (b := 1) rfl)) ?_
    refine hq_F.st (s' := (48, _, _, _)) hj111_46 rfl rfl rfl (hs_il g4) ?_
    refine hq_F.call hj111_48 rfl rfl si_10_121 (by decide) (by decide) sz_95 (sy_argsV hC3 sh_1 rfl rfl rfl (Nat.le_of_ble_eq_true rfl) rfl (Nat.le_of_ble_eq_true rfl) rfl (by decide)) (cf_four (d := d) (b := b + 12) (x := x4) hC3 b3 (by omega)) (fun _ _ q => by rw [q.2.1.1, hC3.1]) ?_
    rintro r48 w4 ⟨rfl, hC4, F4, b4, c4⟩
    try dsimp only
    refine hq_F.st (s' := (52, _, _, _)) hj111_51 rfl rfl rfl (hs_al g0) ?_
    refine hq_F.st (s' := (55, _, _, _)) hj111_52 rfl rfl rfl (hq_gf hC4 sh_0 sk_10_12 (hq_ref hC4 sh_0 (b := 1) rfl)) ?_
    refine hq_F.st (s' := (57, _, _, _)) hj111_55 rfl rfl rfl (hs_il g5) ?_
    refine hq_F.call hj111_57 rfl rfl si_10_121 (by decide) (by decide) sz_95 (sy_argsV hC4 sh_1 rfl rfl rfl (Nat.le_of_ble_eq_true rfl) rfl (Nat.le_of_ble_eq_true rfl) rfl (by decide)) (cf_four (d := d) (b := b + 16) (x := x5) hC4 b4 (by omega)) (fun _ _ q => by rw [q.2.1.1, hC4.1]) ?_
    rintro r57 w5 ⟨rfl, hC5, F5, b5, c5⟩
    try dsimp only
    refine hq_F.st (s' := (61, _, _, _)) hj111_60 rfl rfl rfl (hs_al g0) ?_
    refine hq_F.st (s' := (64, _, _, _)) hj111_61 rfl rfl rfl (hq_gf hC5 sh_0 sk_10_12 (hq_ref hC5 sh_0 (b := 1) rfl)) ?_
    refine hq_F.st (s' := (67, _, _, _)) hj111_64 rfl rfl rfl (hq_gf hC5 sh_1 sk_10_118 (sy_v hC5 (by decide) rfl)) ?_
    refine hq_F.en hj111_67 rfl (pi_ri _) ?_
    intro n hn
    unfold fdT
    rw [if_pos (show b ≤ 920 by omega), c5 n hn]
    exact fd4_c (fun n hn => by rw [c4 n hn]; exact fd4_c (fun n hn => by rw [c3 n hn]; exact fd4_c (fun n hn => by rw [c2 n hn]; exact fd4_c (fun n hn => c1 n hn) _ _ n hn) _ _ n hn) _ _ n hn) _ _ n hn
  · skip
    refine hq_F.st (s' := (16, _, _, _)) hj111_13 rfl rfl rfl (hs_icn (t := 18) (ci_len (by omega)) rfl) ?_
    refine hq_F.st (s' := (17, _, _, _)) hj111_16 rfl rfl rfl rfl ?_
    refine hq_F.en hj111_17 rfl rfl ?_
    intro n hn
    unfold fdT
    rw [if_neg (show ¬ b ≤ 920 by omega)]
theorem sb_62 : ∀ k, k < 940 → af_seg sf_62 k = some (-128, 127) := by decide +kernel
theorem mf_one {d b : Nat} {w : pi_W} {lv : pi_L} {x s : Int32} {Q : Option Value → pi_W → Prop} (hC : af_Conf aw_Sh w) (hb : (gv w 61 2).toInt = (b : Int)) (hb9 : b < 940) (hs : 0 ≤ s.toInt) (g0 : pi_get lv 0 = some (.ref 61)) (g1 : pi_get lv 1 = some (.int x)) (g2 : pi_get lv 2 = some (.int s)) (hgo : ∀ (w' : pi_W) (lv' : pi_L), af_Conf aw_Sh w' → af_Fr [(61, 2, 3), (62, 0, 940)] w w' → (gv w' 61 2).toInt = ((b + 1 : Nat) : Int) → (∀ n, n < 940 → gv w' 62 n = fd1 (gv w 62) b (fy x s) n) → pi_get lv' 0 = some (.ref 61) → pi_get lv' 1 = some (.int x) → pi_get lv' 2 = some (.int (s + Int32.ofInt (-8))) → hq_F d sm164 Q (3, lv', [], w')) : hq_F d sm164 Q (3, lv, [], w) := by
  have kc0 : ((Int32.ofInt 1)).toInt = 1 := by decide
  have kz := sy_z0
  refine hq_F.st (s' := (4, _, _, _)) hj164_3 rfl rfl rfl (hs_iln g2) ?_
  refine hq_F.st (s' := (7, _, _, _)) hj164_4 rfl rfl rfl (hs_ifn (t := 36) (ci_ltn (by omega)) rfl) ?_
  refine hq_F.st (s' := (8, _, _, _)) hj164_7 rfl rfl rfl (hs_al g0) ?_
  refine hq_F.st (s' := (11, _, _, _)) hj164_8 rfl rfl rfl (hq_gf hC sh_61 sk_11_14 (hq_ref hC sh_61 (b := 62) rfl)) ?_
  refine hq_F.st (s' := (12, _, _, _)) hj164_11 rfl rfl rfl (hs_al g0) ?_
  refine hq_F.st (s' := (15, _, _, _)) hj164_12 rfl rfl rfl (hq_gf hC sh_61 sk_11_7 (sy_v hC (by decide) rfl)) ?_
  refine hq_F.st (s' := (16, _, _, _)) hj164_15 rfl rfl rfl (hs_iln g1) ?_
  refine hq_F.st (s' := (17, _, _, _)) hj164_16 rfl rfl rfl (hs_iln g2) ?_
  refine hq_F.st (s' := (18, _, _, _)) hj164_17 rfl rfl rfl rfl ?_
  refine hq_F.st (s' := (19, _, _, _)) hj164_18 rfl rfl rfl rfl ?_
  refine sy_bsv hj164_19 hC sh_62 (n := b) hb (by omega) (fun q hq => by rw [sb_62 _ (by omega)] at hq; cases hq; exact af_b8 _) (fun w1 hC1 hw1 => ?_)
  refine hq_F.st (s' := (21, _, _, _)) hj164_20 rfl rfl rfl (hs_al g0) ?_
  refine hq_F.st (s' := (22, _, _, _)) hj164_21 rfl rfl rfl rfl ?_
  refine hq_F.st (s' := (25, _, _, _)) hj164_22 rfl rfl rfl (hq_gf hC1 sh_61 sk_11_7 (sy_v hC1 (by decide) rfl)) ?_
  refine hq_F.st (s' := (26, _, _, _)) hj164_25 rfl rfl rfl rfl ?_
  refine hq_F.st (s' := (27, _, _, _)) hj164_26 rfl rfl rfl rfl ?_
  rw [show gv w1 61 2 = Int32.ofNat b from (by rw [wpv hw1, if_neg (by omega)]; exact hn_e hb (by omega)), hn_s]
  have tb1 : (Int32.ofNat (b + 1)).toInt = ((b + 1 : Nat) : Int) := hn_t (by omega)
  refine sy_pf hj164_27 hC1 sh_61 sk_11_7 (lo := 0) (hi := 940) rfl (by omega) rfl rfl rfl (fun w21 hC21 hw21 => ?_)
  refine hq_F.st (s' := (33, _, _, _)) hj164_30 rfl rfl rfl (hs_inc g2 (by decide)) ?_
  refine hq_F.st (s' := (3, _, _, _)) hj164_33 rfl rfl rfl rfl ?_
  refine hgo w21 _ hC21 ((af_Fr.cov (hq_fr1 (lo := 0) (hi := 940) hw1 (by omega)) (by decide)).tr ((wpF hw21).cov (by decide))) (by rw [wpv hw21, if_pos ⟨rfl, rfl⟩]; exact tb1) (fun n hn => ?_) (hg_nr g0 (by decide)) (hg_ne g1 (by decide)) (pi_get_set _ _ _)
  rw [wpv hw21, if_neg (by omega), wpv hw1]
  unfold fd1
  by_cases e : n = b
  · rw [if_pos ⟨rfl, e⟩, if_pos e]
    rfl
  · rw [if_neg (fun q => e q.2), if_neg e]
theorem mf_four {d b : Nat} {w : pi_W} {x : Int32} (hC : af_Conf aw_Sh w) (hb : (gv w 61 2).toInt = (b : Int)) (hb9 : b + 4 ≤ 940) : hq_F d sm164 (fun r w' => r = none ∧ af_Conf aw_Sh w' ∧ af_Fr [(61, 2, 3), (62, 0, 940)] w w' ∧ (gv w' 61 2).toInt = ((b + 4 : Nat) : Int) ∧ ∀ n, n < 940 → gv w' 62 n = fd4 (gv w 62) b x n) (0, lv_args 0 [.ref 61, .int x], [], w) := by
  have g0 : pi_get (lv_args 0 [.ref 61, .int x]) 0 = some (.ref 61) := rfl
  have g1 : pi_get (lv_args 0 [.ref 61, .int x]) 1 = some (.int x) := rfl
  refine hq_F.st (s' := (2, _, _, _)) hj164_0 rfl rfl rfl rfl ?_
  refine hq_F.st (s' := (3, _, _, _)) hj164_2 rfl rfl rfl rfl ?_
  refine mf_one (s := Int32.ofInt 24) hC hb (by omega) (by decide) (hg_nr g0 (by decide)) (hg_ne g1 (by decide)) (pg_k (pi_get_set _ _ _) (by decide)) (fun w1 lv1 hC1 F1 b1 c1 p0 p1 p2 => ?_)
  refine mf_one (s := Int32.ofInt 16) hC1 b1 (by omega) (by decide) p0 p1 (pg_k p2 (by decide)) (fun w2 lv2 hC2 F2 b2 c2 q0 q1 q2 => ?_)
  refine mf_one (s := Int32.ofInt 8) hC2 b2 (by omega) (by decide) q0 q1 (pg_k q2 (by decide)) (fun w3 lv3 hC3 F3 b3 c3 r0 r1 r2 => ?_)
  refine mf_one (s := Int32.ofInt 0) hC3 b3 (by omega) (by decide) r0 r1 (pg_k r2 (by decide)) (fun w4 lv4 hC4 F4 b4 c4 s0 s1 s2 => ?_)
  have s3 := pg_k (y := Int32.ofInt (-8)) s2 (by decide)
  refine hq_F.st (s' := (4, _, _, _)) hj164_3 rfl rfl rfl (hs_iln s3) ?_
  refine hq_F.st (s' := (36, _, _, _)) hj164_4 rfl rfl rfl (hs_if (ci_lt (by decide)) rfl) ?_
  refine hq_F.en hj164_36 rfl rfl ?_
  refine ⟨rfl, hC4, F1.tr (F2.tr (F3.tr F4)), b4, fun n hn => ?_⟩
  rw [c4 n hn]
  exact fd1_c (fun n hn => by rw [c3 n hn]; exact fd1_c (fun n hn => by rw [c2 n hn]; exact fd1_c c1 _ _ n hn) _ _ n hn) _ _ n hn
theorem mf_feed {d b : Nat} {w : pi_W} {x1 x2 x3 x4 x5 : Int32} (hC : af_Conf aw_Sh w) (hb : (gv w 61 2).toInt = (b : Int)) (hb9 : b ≤ 940) : hq_F (d + 1) sm163 (fun _ w' => ∀ n, n < 940 → gv w' 62 n = fdT (gv w 62) b x1 x2 x3 x4 x5 n) (0, lv_args 0 [.ref 61, .int x1, .int x2, .int x3, .int x4, .int x5], [], w) := by
  have g0 : pi_get (lv_args 0 [.ref 61, .int x1, .int x2, .int x3, .int x4, .int x5]) 0 = some (.ref 61) := rfl
  have g1 : pi_get (lv_args 0 [.ref 61, .int x1, .int x2, .int x3, .int x4, .int x5]) 1 = some (.int x1) := rfl
  have g2 : pi_get (lv_args 0 [.ref 61, .int x1, .int x2, .int x3, .int x4, .int x5]) 2 = some (.int x2) := rfl
  have g3 : pi_get (lv_args 0 [.ref 61, .int x1, .int x2, .int x3, .int x4, .int x5]) 3 = some (.int x3) := rfl
  have g4 : pi_get (lv_args 0 [.ref 61, .int x1, .int x2, .int x3, .int x4, .int x5]) 4 = some (.int x4) := rfl
  have g5 : pi_get (lv_args 0 [.ref 61, .int x1, .int x2, .int x3, .int x4, .int x5]) 5 = some (.int x5) := rfl
  have kc0 : (((Int16.ofInt 940).toInt32)).toInt = 940 := by decide
  have kc1 : (((Int8.ofInt 20).toInt32)).toInt = 20 := by decide
  have kc2 : ((Int32.ofInt (-1))).toInt = (-1) := by decide
  have kc3 : ((Int32.ofInt 0)).toInt = 0 := by decide
  have kz := sy_z0
  refine hq_F.st (s' := (1, _, _, _)) hj163_0 rfl rfl rfl (hs_al g0) ?_
  refine hq_F.st (s' := (2, _, _, _)) hj163_1 rfl rfl rfl rfl ?_
  refine sy_pf hj163_2 hC sh_61 sk_11_1 (lo := -2147483648) (hi := 2147483647) rfl (af_i32 _) rfl rfl rfl (fun w21 hC21 hw21 => ?_)
  refine hq_F.st (s' := (6, _, _, _)) hj163_5 rfl rfl rfl (hs_al g0) ?_
  refine hq_F.st (s' := (9, _, _, _)) hj163_6 rfl rfl rfl (hq_gf hC21 sh_61 sk_11_7 (sy_v hC21 (by decide) rfl)) ?_
  have q6 : (gv w21 61 2).toInt = (gv w 61 2).toInt := by rw [wpv hw21, if_neg (by decide)]
  refine hq_F.st (s' := (11, _, _, _)) hj163_9 rfl rfl rfl rfl ?_
  refine hq_F.st (s' := (12, _, _, _)) hj163_11 rfl rfl rfl rfl ?_
  refine hq_F.st (s' := (15, _, _, _)) hj163_12 rfl rfl rfl rfl ?_
  rw [show gv w21 61 2 = Int32.ofNat b from hn_e (by rw [wpv hw21, if_neg (by omega)]; exact hb) (by omega), show Int32.ofNat b + ((Int8.ofInt 20).toInt32) = Int32.ofNat (b + 20) from by rw [show ((Int8.ofInt 20).toInt32) = Int32.ofNat 20 by decide, hn_a]]
  have tb20 : (Int32.ofNat (b + 20)).toInt = ((b + 20 : Nat) : Int) := hn_t (by omega)
  by_cases b15 : ((Int32.ofNat (b + 20))).toInt ≤ 940
  · skip
    refine hq_F.st (s' := (20, _, _, _)) hj163_15 rfl rfl rfl (hs_ic (ci_le (by omega)) rfl) ?_
    refine hq_F.st (s' := (21, _, _, _)) hj163_20 rfl rfl rfl (hs_al g0) ?_
    refine hq_F.st (s' := (22, _, _, _)) hj163_21 rfl rfl rfl (hs_iln g1) ?_
    refine hq_F.call hj163_22 rfl rfl si_11_10 (by decide) (by decide) sz_164 (sy_argsV hC21 sh_61 rfl rfl rfl (Nat.le_of_ble_eq_true rfl) rfl (Nat.le_of_ble_eq_true rfl) rfl (by decide)) (mf_four (d := d) (b := b) (x := x1) hC21 (by rw [wpv hw21, if_neg (by omega)]; exact hb) (by omega)) (fun _ _ q => by rw [q.2.1.1, hC21.1]) ?_
    rintro r22 w1 ⟨rfl, hC1, F1, b1, c1⟩
    try dsimp only
    refine hq_F.st (s' := (26, _, _, _)) hj163_25 rfl rfl rfl (hs_al g0) ?_
    refine hq_F.st (s' := (27, _, _, _)) hj163_26 rfl rfl rfl (hs_iln g2) ?_
    refine hq_F.call hj163_27 rfl rfl si_11_10 (by decide) (by decide) sz_164 (sy_argsV hC1 sh_61 rfl rfl rfl (Nat.le_of_ble_eq_true rfl) rfl (Nat.le_of_ble_eq_true rfl) rfl (by decide)) (mf_four (d := d) (b := b + 4) (x := x2) hC1 b1 (by omega)) (fun _ _ q => by rw [q.2.1.1, hC1.1]) ?_
    rintro r27 w2 ⟨rfl, hC2, F2, b2, c2⟩
    try dsimp only
    refine hq_F.st (s' := (31, _, _, _)) hj163_30 rfl rfl rfl (hs_al g0) ?_
    refine hq_F.st (s' := (32, _, _, _)) hj163_31 rfl rfl rfl (hs_iln g3) ?_
    refine hq_F.call hj163_32 rfl rfl si_11_10 (by decide) (by decide) sz_164 (sy_argsV hC2 sh_61 rfl rfl rfl (Nat.le_of_ble_eq_true rfl) rfl (Nat.le_of_ble_eq_true rfl) rfl (by decide)) (mf_four (d := d) (b := b + 8) (x := x3) hC2 b2 (by omega)) (fun _ _ q => by rw [q.2.1.1, hC2.1]) ?_
    rintro r32 w3 ⟨rfl, hC3, F3, b3, c3⟩
    try dsimp only
    refine hq_F.st (s' := (36, _, _, _)) hj163_35 rfl rfl rfl (hs_al g0) ?_
    refine hq_F.st (s' := (38, _, _, _)) hj163_36 rfl rfl rfl (hs_il g4) ?_
    refine hq_F.call hj163_38 rfl rfl si_11_10 (by decide) (by decide) sz_164 (sy_argsV hC3 sh_61 rfl rfl rfl (Nat.le_of_ble_eq_true rfl) rfl (Nat.le_of_ble_eq_true rfl) rfl (by decide)) (mf_four (d := d) (b := b + 12) (x := x4) hC3 b3 (by omega)) (fun _ _ q => by rw [q.2.1.1, hC3.1]) ?_
    rintro r38 w4 ⟨rfl, hC4, F4, b4, c4⟩
    try dsimp only
    refine hq_F.st (s' := (42, _, _, _)) hj163_41 rfl rfl rfl (hs_al g0) ?_
    refine hq_F.st (s' := (44, _, _, _)) hj163_42 rfl rfl rfl (hs_il g5) ?_
    refine hq_F.call hj163_44 rfl rfl si_11_10 (by decide) (by decide) sz_164 (sy_argsV hC4 sh_61 rfl rfl rfl (Nat.le_of_ble_eq_true rfl) rfl (Nat.le_of_ble_eq_true rfl) rfl (by decide)) (mf_four (d := d) (b := b + 16) (x := x5) hC4 b4 (by omega)) (fun _ _ q => by rw [q.2.1.1, hC4.1]) ?_
    rintro r44 w5 ⟨rfl, hC5, F5, b5, c5⟩
    try dsimp only
    refine hq_F.st (s' := (48, _, _, _)) hj163_47 rfl rfl rfl (hs_al g0) ?_
    refine hq_F.st (s' := (51, _, _, _)) hj163_48 rfl rfl rfl (hq_gf hC5 sh_61 sk_11_7 (sy_v hC5 (by decide) rfl)) ?_
    refine hq_F.en hj163_51 rfl (pi_ri _) ?_
    intro n hn
    unfold fdT
    rw [if_pos (show b ≤ 920 by omega), c5 n hn]
    exact fd4_c (fun n hn => by rw [c4 n hn]; exact fd4_c (fun n hn => by rw [c3 n hn]; exact fd4_c (fun n hn => by rw [c2 n hn]; exact fd4_c (fun n hn => (c1 n hn).trans (fd4_c (fun n hn => by rw [wpv hw21, if_neg (by omega)]) _ _ n hn)) _ _ n hn) _ _ n hn) _ _ n hn) _ _ n hn
  · skip
    refine hq_F.st (s' := (18, _, _, _)) hj163_15 rfl rfl rfl (hs_icn (t := 20) (ci_len (by omega)) rfl) ?_
    refine hq_F.st (s' := (19, _, _, _)) hj163_18 rfl rfl rfl rfl ?_
    refine hq_F.en hj163_19 rfl rfl ?_
    intro n hn
    unfold fdT
    rw [if_neg (show ¬ b ≤ 920 by omega), wpv hw21, if_neg (by omega)]
