/-! ===== the class at a TOKEN; by program ===== -/
theorem sk_9_43 : pi_look pi_fT 9 43 = some (9, 10, 187) := rfl
theorem sk_9_46 : pi_look pi_fT 9 46 = some (9, 11, 189) := rfl
theorem si_9_49 : pi_look pi_iT 9 49 = some (2, 98, 0, 487) := rfl
theorem si_9_93 : pi_look pi_iT 9 93 = some (2, 104, 1, 624) := rfl
theorem si_9_97 : pi_look pi_iT 9 97 = some (2, 103, 1, 561) := rfl
def sm103 : pi_M := (9, 2, (some .boolean), false, mc_103)
def sm104 : pi_M := (9, 2, (some .boolean), false, mc_104)
def sm105 : pi_M := (9, 2, (some .boolean), false, mc_105)
def sm106 : pi_M := (9, 4, (some .int), false, mc_106)
def sm107 : pi_M := (9, 1, (some .boolean), false, mc_107)
set_option maxRecDepth 100000 in
theorem sz_103 : pi_mt[103]? = some (mn_103, prog_11_method_10_code, (9, 2, (some .boolean), false, mc_103)) := rfl
set_option maxRecDepth 100000 in
theorem sz_104 : pi_mt[104]? = some (mn_104, prog_11_method_11_code, (9, 2, (some .boolean), false, mc_104)) := rfl
set_option maxRecDepth 100000 in
theorem sz_105 : pi_mt[105]? = some (mn_105, prog_11_method_12_code, (9, 2, (some .boolean), false, mc_105)) := rfl
set_option maxRecDepth 100000 in
theorem sz_106 : pi_mt[106]? = some (mn_106, prog_11_method_13_code, (9, 4, (some .int), false, mc_106)) := rfl
set_option maxRecDepth 100000 in
theorem sz_107 : pi_mt[107]? = some (mn_107, prog_11_method_14_code, (9, 1, (some .boolean), false, mc_107)) := rfl
theorem hf103_0 : pi_fetch mc_103 0 = some (.aload_n 0, 1) := rfl
theorem hf103_1 : pi_fetch mc_103 1 = some (.iload_n 1, 1) := rfl
theorem hf103_2 : pi_fetch mc_103 2 = some (.putfield 43, 3) := rfl
theorem hf103_5 : pi_fetch mc_103 5 = some (.aload_n 0, 1) := rfl
theorem hf103_6 : pi_fetch mc_103 6 = some (.aload_n 0, 1) := rfl
theorem hf103_7 : pi_fetch mc_103 7 = some (.getfield 75, 3) := rfl
theorem hf103_10 : pi_fetch mc_103 10 = some (.putfield 46, 3) := rfl
theorem hf103_13 : pi_fetch mc_103 13 = some (.iconst 0, 1) := rfl
theorem hf103_14 : pi_fetch mc_103 14 = some (.ireturn, 1) := rfl
theorem hf104_0 : pi_fetch mc_104 0 = some (.aload_n 0, 1) := rfl
theorem hf104_1 : pi_fetch mc_104 1 = some (.getfield 66, 3) := rfl
theorem hf104_4 : pi_fetch mc_104 4 = some (.iconst 4, 1) := rfl
theorem hf104_5 : pi_fetch mc_104 5 = some (.if_icmp .ne 15, 3) := rfl
theorem hf104_8 : pi_fetch mc_104 8 = some (.aload_n 0, 1) := rfl
theorem hf104_9 : pi_fetch mc_104 9 = some (.getfield 56, 3) := rfl
theorem hf104_12 : pi_fetch mc_104 12 = some (.iload_n 1, 1) := rfl
theorem hf104_13 : pi_fetch mc_104 13 = some (.if_icmp .ne 7, 3) := rfl
theorem hf104_16 : pi_fetch mc_104 16 = some (.iconst 1, 1) := rfl
theorem hf104_17 : pi_fetch mc_104 17 = some (.goto 4, 3) := rfl
theorem hf104_20 : pi_fetch mc_104 20 = some (.iconst 0, 1) := rfl
theorem hf104_21 : pi_fetch mc_104 21 = some (.ireturn, 1) := rfl
theorem hf105_0 : pi_fetch mc_105 0 = some (.aload_n 0, 1) := rfl
theorem hf105_1 : pi_fetch mc_105 1 = some (.iload_n 1, 1) := rfl
theorem hf105_2 : pi_fetch mc_105 2 = some (.invokevirtual 93, 3) := rfl
theorem hf105_5 : pi_fetch mc_105 5 = some (.ifCond .ne 9, 3) := rfl
theorem hf105_8 : pi_fetch mc_105 8 = some (.aload_n 0, 1) := rfl
theorem hf105_9 : pi_fetch mc_105 9 = some (.iconst 1, 1) := rfl
theorem hf105_10 : pi_fetch mc_105 10 = some (.invokevirtual 97, 3) := rfl
theorem hf105_13 : pi_fetch mc_105 13 = some (.ireturn, 1) := rfl
theorem hf105_14 : pi_fetch mc_105 14 = some (.aload_n 0, 1) := rfl
theorem hf105_15 : pi_fetch mc_105 15 = some (.invokevirtual 49, 3) := rfl
theorem hf105_18 : pi_fetch mc_105 18 = some (.iconst 1, 1) := rfl
theorem hf105_19 : pi_fetch mc_105 19 = some (.ireturn, 1) := rfl
theorem hf106_0 : pi_fetch mc_106 0 = some (.aload_n 0, 1) := rfl
theorem hf106_1 : pi_fetch mc_106 1 = some (.getfield 66, 3) := rfl
theorem hf106_4 : pi_fetch mc_106 4 = some (.iconst 3, 1) := rfl
theorem hf106_5 : pi_fetch mc_106 5 = some (.if_icmp .eq 11, 3) := rfl
theorem hf106_8 : pi_fetch mc_106 8 = some (.aload_n 0, 1) := rfl
theorem hf106_9 : pi_fetch mc_106 9 = some (.iconst 1, 1) := rfl
theorem hf106_10 : pi_fetch mc_106 10 = some (.invokevirtual 97, 3) := rfl
theorem hf106_13 : pi_fetch mc_106 13 = some (.pop, 1) := rfl
theorem hf106_14 : pi_fetch mc_106 14 = some (.iconst (-1), 1) := rfl
theorem hf106_15 : pi_fetch mc_106 15 = some (.ireturn, 1) := rfl
theorem hf106_16 : pi_fetch mc_106 16 = some (.aload_n 0, 1) := rfl
theorem hf106_17 : pi_fetch mc_106 17 = some (.getfield 56, 3) := rfl
theorem hf106_20 : pi_fetch mc_106 20 = some (.iload_n 1, 1) := rfl
theorem hf106_21 : pi_fetch mc_106 21 = some (.if_icmp .lt 11, 3) := rfl
theorem hf106_24 : pi_fetch mc_106 24 = some (.aload_n 0, 1) := rfl
theorem hf106_25 : pi_fetch mc_106 25 = some (.getfield 56, 3) := rfl
theorem hf106_28 : pi_fetch mc_106 28 = some (.iload_n 2, 1) := rfl
theorem hf106_29 : pi_fetch mc_106 29 = some (.if_icmp .le 11, 3) := rfl
theorem hf106_32 : pi_fetch mc_106 32 = some (.aload_n 0, 1) := rfl
theorem hf106_33 : pi_fetch mc_106 33 = some (.iconst 2, 1) := rfl
theorem hf106_34 : pi_fetch mc_106 34 = some (.invokevirtual 97, 3) := rfl
theorem hf106_37 : pi_fetch mc_106 37 = some (.pop, 1) := rfl
theorem hf106_38 : pi_fetch mc_106 38 = some (.iconst (-1), 1) := rfl
theorem hf106_39 : pi_fetch mc_106 39 = some (.ireturn, 1) := rfl
theorem hf106_40 : pi_fetch mc_106 40 = some (.aload_n 0, 1) := rfl
theorem hf106_41 : pi_fetch mc_106 41 = some (.getfield 56, 3) := rfl
theorem hf106_44 : pi_fetch mc_106 44 = some (.istore_n 3, 1) := rfl
theorem hf106_45 : pi_fetch mc_106 45 = some (.aload_n 0, 1) := rfl
theorem hf106_46 : pi_fetch mc_106 46 = some (.invokevirtual 49, 3) := rfl
theorem hf106_49 : pi_fetch mc_106 49 = some (.iload_n 3, 1) := rfl
theorem hf106_50 : pi_fetch mc_106 50 = some (.ireturn, 1) := rfl
theorem hf107_0 : pi_fetch mc_107 0 = some (.aload_n 0, 1) := rfl
theorem hf107_1 : pi_fetch mc_107 1 = some (.getfield 66, 3) := rfl
theorem hf107_4 : pi_fetch mc_107 4 = some (.iconst 2, 1) := rfl
theorem hf107_5 : pi_fetch mc_107 5 = some (.if_icmp .ne 15, 3) := rfl
theorem hf107_8 : pi_fetch mc_107 8 = some (.aload_n 0, 1) := rfl
theorem hf107_9 : pi_fetch mc_107 9 = some (.getfield 63, 3) := rfl
theorem hf107_12 : pi_fetch mc_107 12 = some (.iconst (-1), 1) := rfl
theorem hf107_13 : pi_fetch mc_107 13 = some (.if_icmp .ne 7, 3) := rfl
theorem hf107_16 : pi_fetch mc_107 16 = some (.iconst 1, 1) := rfl
theorem hf107_17 : pi_fetch mc_107 17 = some (.goto 4, 3) := rfl
theorem hf107_20 : pi_fetch mc_107 20 = some (.iconst 0, 1) := rfl
theorem hf107_21 : pi_fetch mc_107 21 = some (.ireturn, 1) := rfl
/-- what every TOKEN keeps to -/
def tq_W (B : Nat) (t : tq_T) : Prop := (2 ≤ t.1 → t.2.2.2.2 ≤ B) ∧ t.1 ≤ 4 ∧ (t.1 = 2 → t.2.2.2.1.all tq_sm = true ∧ t.2.2.2.1.length ≤ 7)
theorem tq_tok_W {tp : Nat → Nat} {B M i : Nat} (hi : i ≤ B) : tq_W B (tq_tok tp B M i) := by
  have hs := tq_sk_le (tp := tp) hi
  have hr := tq_rn_len (tp := tp) hs.2
  unfold tq_tok
  generalize tq_sk tp B i = s at *
  generalize tq_rn tp B s = u at *
  by_cases h1 : B ≤ s ∨ M ≤ s
  · rw [if_pos h1]
    by_cases hm : M < B
    · simp only [if_pos hm]
      exact ⟨(fun q => by omega), (by simp), (fun q => by omega)⟩
    · simp only [if_neg hm]
      exact ⟨(fun q => by omega), (by simp), (fun q => by omega)⟩
  · rw [if_neg h1]
    by_cases h2 : tq_ld (tp s) = true
    · rw [if_pos h2]
      by_cases h3 : u.all tq_sm = true ∧ u.length ≤ 7
      · rw [if_pos h3]
        exact ⟨(fun _ => hr), (by simp), (fun _ => h3)⟩
      · rw [if_neg h3]
        by_cases h4 : u.all tq_dg = true ∧ u.length ≤ 2
        · rw [if_pos h4]
          exact ⟨(fun _ => hr), (by simp), (fun q => by omega)⟩
        · rw [if_neg h4]
          exact ⟨(fun q => by omega), (by simp), (fun q => by omega)⟩
    · rw [if_neg h2]
      by_cases h5 : tq_sg (tp s) = true
      · simp only [if_pos h5]
        exact ⟨(fun _ => by show s + 1 ≤ B; omega), (by simp), (fun q => by omega)⟩
      · simp only [if_neg h5]
        exact ⟨(fun q => by omega), (by simp), (fun q => by omega)⟩
def tq_nx (tp : Nat → Nat) (B M : Nat) (t : tq_T) : tq_T := tq_tok tp B M t.2.2.2.2
def tq_V (w : pi_W) : Prop := ∀ k, k < 29 → gl w 3 k = Int64.ofNat (tq_c32 (tq_kw.getD k []))
/-- the class reads this text, and stands at this TOKEN -/
def CT (tp : Nat → Nat) (B M : Nat) (w : pi_W) (t : tq_T) : Prop := af_Conf aw_Sh w ∧ tc_P tp B w ∧ (gv w 1 3).toInt = (M : Int) ∧ tq_V w ∧ tq_C w t ∧ tq_W B t
def ct_ok (N : af_M) : Bool := N.all (fun e => (e.1 != 2) && ((e.1 != 3) && ((e.1 != 1) || decide (10 ≤ e.2.1))))
theorem ct_k {N : af_M} (h : ct_ok N = true) : (∀ k, k < 10 → af_cov N 1 k k = false) ∧ (∀ e ∈ N, e.1 ≠ 2) ∧ (∀ e ∈ N, e.1 ≠ 3) := by
  have hh : ∀ e ∈ N, e.1 ≠ 2 ∧ e.1 ≠ 3 ∧ (e.1 ≠ 1 ∨ 10 ≤ e.2.1) := by
    intro e he
    have := List.all_eq_true.mp h e he
    simpa using this
  refine ⟨fun k hk => ?_, fun e he => (hh e he).1, fun e he => (hh e he).2.1⟩
  cases hc : af_cov N 1 k k with
  | false => rfl
  | true =>
    obtain ⟨q, hq, h1⟩ := List.any_eq_true.mp hc
    simp only [Bool.and_eq_true, beq_iff_eq, Nat.ble_eq, Nat.blt_eq] at h1
    have := hh q hq
    omega
theorem CT.fr {tp : Nat → Nat} {B M : Nat} {w w' : pi_W} {t : tq_T} {N : af_M} (h : CT tp B M w t) (hC : af_Conf aw_Sh w') (hF : af_Fr N w w') (hN : ct_ok N = true) : CT tp B M w' t := by
  obtain ⟨h1, h2, h3⟩ := ct_k hN
  obtain ⟨-, b, c, e, ⟨f1, f2, f3, f4, f5, f6⟩, g⟩ := h
  have hv : ∀ k, k < 10 → gv w' 1 k = gv w 1 k := fun k hk => gv_eq (hF 1 k (h1 k hk))
  refine ⟨hC, b.fr hF (h1 2 (by decide)) h2, by rw [hv 3 (by decide)]; exact c, fun k hk => by rw [gl_eq (hq_cell hF h3)]; exact e k hk, ⟨?_, ?_, ?_, ?_, ?_, ?_⟩, g⟩
  · rw [hv 5 (by decide)]; exact f1
  · rw [hv 6 (by decide)]; exact f2
  · rw [hv 7 (by decide)]; exact f3
  · rw [gl_eq (hF 1 8 (h1 8 (by decide)))]; exact f4
  · rw [hv 9 (by decide)]; exact f5
  · rw [hv 4 (by decide)]; exact f6
theorem ct_adv {d B M : Nat} {tp : Nat → Nat} {w : pi_W} {t : tq_T} (h : CT tp B M w t) (hk : 2 ≤ t.1) : hq_F (d + 2) sm98 (fun r w' => r = none ∧ CT tp B M w' (tq_nx tp B M t) ∧ af_Fr [(1, 4, 10)] w w') (0, lv_args 0 [.ref 1], [], w) := by
  obtain ⟨a, b, c, e, f, g⟩ := h
  refine (tc_98 a b c (f.2.2.2.2.2 hk) (g.1 hk)).imp ?_
  rintro r w' ⟨q1, q2, q3, q4⟩
  refine ⟨q1, ⟨q2, b.fr q3 (by decide) (by decide), by rw [gv_eq (q3 1 3 (by decide))]; exact c, fun k hk => by rw [gl_eq (hq_cell q3 (by decide))]; exact e k hk, tc_ok e q4, tq_tok_W (g.1 hk)⟩, q3⟩
/-- a FAULT as the class has it -/
def FC (w : pi_W) (k : Int) (p : Nat) : Prop := (gv w 1 10).toInt = k ∧ (gv w 1 11).toInt = (p : Int)
theorem ct_ref {d B M : Nat} {tp : Nat → Nat} {w : pi_W} {t : tq_T} (h : CT tp B M w t) (x : Int32) : hq_F d sm103 (fun r w' => r = some (.int 0) ∧ CT tp B M w' t ∧ af_Fr [(1, 10, 12)] w w' ∧ gv w' 1 10 = x ∧ (gv w' 1 11).toInt = (t.2.1 : Int)) (0, lv_args 0 [.ref 1, .int x], [], w) := by
  obtain ⟨hC, hP, hM, hV, ⟨f1, f2, f3, f4, f5, f6⟩, hW1, hW2, hW3⟩ := id h
  have g0 : pi_get (lv_args 0 [.ref 1, .int x]) 0 = some (.ref 1) := rfl
  have g1 : pi_get (lv_args 0 [.ref 1, .int x]) 1 = some (.int x) := rfl
  have kc0 : ((Int32.ofInt 0)).toInt = 0 := by decide
  have kz := sy_z0
  refine hq_F.st (s' := (1, _, _, _)) hf103_0 rfl rfl rfl (hs_al g0) ?_
  refine hq_F.st (s' := (2, _, _, _)) hf103_1 rfl rfl rfl (hs_iln g1) ?_
  refine sy_pf hf103_2 hC sh_1 sk_9_43 (lo := -2147483648) (hi := 2147483647) rfl (af_i32 _) rfl rfl rfl (fun w1 hC1 hw1 => ?_)
  refine hq_F.st (s' := (6, _, _, _)) hf103_5 rfl rfl rfl (hs_al g0) ?_
  refine hq_F.st (s' := (7, _, _, _)) hf103_6 rfl rfl rfl (hs_al g0) ?_
  refine hq_F.st (s' := (10, _, _, _)) hf103_7 rfl rfl rfl (hq_gf hC1 sh_1 sk_9_75 (sy_v hC1 (by decide) rfl)) ?_
  have q7 : (gv w1 1 6).toInt = (gv w 1 6).toInt := by rw [wpv hw1, if_neg (by decide)]
  refine sy_pf hf103_10 hC1 sh_1 sk_9_46 (lo := -2147483648) (hi := 2147483647) rfl (af_i32 _) rfl rfl rfl (fun w2 hC2 hw2 => ?_)
  refine hq_F.st (s' := (14, _, _, _)) hf103_13 rfl rfl rfl rfl ?_
  refine hq_F.en hf103_14 rfl rfl ?_
  have hF : af_Fr [(1, 10, 12)] w w2 := (((wpF hw1).cov (by decide)).tr ((wpF hw2).cov (by decide)))
  refine ⟨rfl, h.fr hC2 hF (by decide), hF, ?_, ?_⟩
  · rw [wpv hw2, if_neg (by decide), wpv hw1, if_pos ⟨rfl, rfl⟩]
  · rw [wpv hw2, if_pos ⟨rfl, rfl⟩]
    rw [wpv hw1, if_neg (by decide)]
    exact f2
theorem ct_isS {d B M : Nat} {tp : Nat → Nat} {w : pi_W} {t : tq_T} (h : CT tp B M w t) {x : Int32} {c : Nat} (hx : x.toInt = (c : Int)) : hq_F d sm104 (fun r w' => w' = w ∧ r = some (.int (tq_b (decide (t.1 = 4 ∧ t.2.2.1 = c))))) (0, lv_args 0 [.ref 1, .int x], [], w) := by
  obtain ⟨hC, hP, hM, hV, ⟨f1, f2, f3, f4, f5, f6⟩, hW1, hW2, hW3⟩ := id h
  have g0 : pi_get (lv_args 0 [.ref 1, .int x]) 0 = some (.ref 1) := rfl
  have g1 : pi_get (lv_args 0 [.ref 1, .int x]) 1 = some (.int x) := rfl
  have kc0 : ((Int32.ofInt 0)).toInt = 0 := by decide
  have kc1 : ((Int32.ofInt 1)).toInt = 1 := by decide
  have kc2 : ((Int32.ofInt 4)).toInt = 4 := by decide
  have kz := sy_z0
  refine hq_F.st (s' := (1, _, _, _)) hf104_0 rfl rfl rfl (hs_al g0) ?_
  refine hq_F.st (s' := (4, _, _, _)) hf104_1 rfl rfl rfl (hq_gf hC sh_1 sk_9_66 (sy_v hC (by decide) rfl)) ?_
  refine hq_F.st (s' := (5, _, _, _)) hf104_4 rfl rfl rfl rfl ?_
  by_cases b5 : ¬ ((gv w 1 5)).toInt = 4
  · skip
    refine hq_F.st (s' := (20, _, _, _)) hf104_5 rfl rfl rfl (hs_ic (ci_ne (by omega)) rfl) ?_
    refine hq_F.st (s' := (21, _, _, _)) hf104_20 rfl rfl rfl rfl ?_
    refine hq_F.en hf104_21 rfl rfl ?_
    exact ⟨rfl, by rw [decide_eq_false (p := t.1 = 4 ∧ t.2.2.1 = c) (by omega)]; rfl⟩
  · skip
    refine hq_F.st (s' := (8, _, _, _)) hf104_5 rfl rfl rfl (hs_icn (t := 20) (ci_nen (by omega)) rfl) ?_
    have f3 := f3 (Or.inr (by omega))
    refine hq_F.st (s' := (9, _, _, _)) hf104_8 rfl rfl rfl (hs_al g0) ?_
    refine hq_F.st (s' := (12, _, _, _)) hf104_9 rfl rfl rfl (hq_gf hC sh_1 sk_9_56 (sy_v hC (by decide) rfl)) ?_
    refine hq_F.st (s' := (13, _, _, _)) hf104_12 rfl rfl rfl (hs_iln g1) ?_
    by_cases b13 : ¬ ((gv w 1 7)).toInt = (x).toInt
    · skip
      refine hq_F.st (s' := (20, _, _, _)) hf104_13 rfl rfl rfl (hs_ic (ci_ne (by omega)) rfl) ?_
      refine hq_F.st (s' := (21, _, _, _)) hf104_20 rfl rfl rfl rfl ?_
      refine hq_F.en hf104_21 rfl rfl ?_
      exact ⟨rfl, by rw [decide_eq_false (p := t.1 = 4 ∧ t.2.2.1 = c) (by omega)]; rfl⟩
    · skip
      refine hq_F.st (s' := (16, _, _, _)) hf104_13 rfl rfl rfl (hs_icn (t := 20) (ci_nen (by omega)) rfl) ?_
      refine hq_F.st (s' := (17, _, _, _)) hf104_16 rfl rfl rfl rfl ?_
      refine hq_F.st (s' := (21, _, _, _)) hf104_17 rfl rfl rfl rfl ?_
      refine hq_F.en hf104_21 rfl rfl ?_
      exact ⟨rfl, by rw [decide_eq_true (p := t.1 = 4 ∧ t.2.2.1 = c) (by omega)]; rfl⟩
theorem ct_tkS {d B M : Nat} {tp : Nat → Nat} {w : pi_W} {t : tq_T} (h : CT tp B M w t) {x : Int32} {c : Nat} (hx : x.toInt = (c : Int)) : hq_F (d + 3) sm105 (fun r w' => (r = some (.int 1) ∧ (t.1 = 4 ∧ t.2.2.1 = c) ∧ CT tp B M w' (tq_nx tp B M t) ∧ af_Fr [(1, 4, 10)] w w') ∨ (r = some (.int 0) ∧ ¬ (t.1 = 4 ∧ t.2.2.1 = c) ∧ CT tp B M w' t ∧ af_Fr [(1, 10, 12)] w w' ∧ FC w' 1 t.2.1)) (0, lv_args 0 [.ref 1, .int x], [], w) := by
  obtain ⟨hC, hP, hM, hV, ⟨f1, f2, f3, f4, f5, f6⟩, hW1, hW2, hW3⟩ := id h
  have g0 : pi_get (lv_args 0 [.ref 1, .int x]) 0 = some (.ref 1) := rfl
  have g1 : pi_get (lv_args 0 [.ref 1, .int x]) 1 = some (.int x) := rfl
  have kc0 : ((0 : Int32)).toInt = 0 := by decide
  have kc1 : ((1 : Int32)).toInt = 1 := by decide
  have kc2 : ((Int32.ofInt 1)).toInt = 1 := by decide
  have kz := sy_z0
  refine hq_F.st (s' := (1, _, _, _)) hf105_0 rfl rfl rfl (hs_al g0) ?_
  refine hq_F.st (s' := (2, _, _, _)) hf105_1 rfl rfl rfl (hs_iln g1) ?_
  refine hq_F.call hf105_2 rfl rfl si_9_93 (by decide) (by decide) sz_104 (sy_argsV hC sh_1 rfl rfl rfl (Nat.le_of_ble_eq_true rfl) rfl (Nat.le_of_ble_eq_true rfl) rfl (by decide)) (ct_isS h (c := c) hx) (fun _ _ q => by rw [q.1]) ?_
  rintro r2 w ⟨rfl, rfl⟩
  try dsimp only
  by_cases hs : t.1 = 4 ∧ t.2.2.1 = c
  · rw [decide_eq_true hs, show tq_b true = (1 : Int32) from rfl]
    refine hq_F.st (s' := (14, _, _, _)) hf105_5 rfl rfl rfl (hs_if (ci_ne (by omega)) rfl) ?_
    refine hq_F.st (s' := (15, _, _, _)) hf105_14 rfl rfl rfl (hs_al g0) ?_
    refine hq_F.call hf105_15 rfl rfl si_9_49 (by decide) (by decide) sz_98 (sy_argsV hC sh_1 rfl rfl rfl (Nat.le_of_ble_eq_true rfl) rfl (Nat.le_of_ble_eq_true rfl) rfl (by decide)) (ct_adv (d := d) h (by omega)) (fun _ _ q => by rw [q.2.1.1.1, hC.1]) ?_
    rintro r15 w8 ⟨rfl, k1, k2⟩
    try dsimp only
    refine hq_F.st (s' := (19, _, _, _)) hf105_18 rfl rfl rfl rfl ?_
    refine hq_F.en hf105_19 rfl rfl ?_
    exact Or.inl ⟨rfl, hs, k1, k2⟩
  · rw [decide_eq_false hs, show tq_b false = (0 : Int32) from rfl]
    refine hq_F.st (s' := (8, _, _, _)) hf105_5 rfl rfl rfl (hs_ifn (t := 14) (ci_nen (by omega)) rfl) ?_
    refine hq_F.st (s' := (9, _, _, _)) hf105_8 rfl rfl rfl (hs_al g0) ?_
    refine hq_F.st (s' := (10, _, _, _)) hf105_9 rfl rfl rfl rfl ?_
    refine hq_F.call hf105_10 rfl rfl si_9_97 (by decide) (by decide) sz_103 (sy_argsV hC sh_1 rfl rfl rfl (Nat.le_of_ble_eq_true rfl) rfl (Nat.le_of_ble_eq_true rfl) rfl (by decide)) (ct_ref h ((Int32.ofInt 1))) (fun _ _ q => by rw [q.2.1.1.1, hC.1]) ?_
    rintro r10 w9 ⟨rfl, k1, k2, k3, k4⟩
    try dsimp only
    refine hq_F.en hf105_13 rfl rfl ?_
    exact Or.inr ⟨rfl, hs, k1, k2, by rw [k3]; decide, k4⟩
theorem ct_isN {d B M : Nat} {tp : Nat → Nat} {w : pi_W} {t : tq_T} (h : CT tp B M w t) : hq_F d sm107 (fun r w' => w' = w ∧ r = some (.int (tq_b (decide (t.1 = 2 ∧ tq_kx t.2.2.2.1 = -1))))) (0, lv_args 0 [.ref 1], [], w) := by
  obtain ⟨hC, hP, hM, hV, ⟨f1, f2, f3, f4, f5, f6⟩, hW1, hW2, hW3⟩ := id h
  have g0 : pi_get (lv_args 0 [.ref 1]) 0 = some (.ref 1) := rfl
  have kc0 : ((Int32.ofInt (-1))).toInt = (-1) := by decide
  have kc1 : ((Int32.ofInt 0)).toInt = 0 := by decide
  have kc2 : ((Int32.ofInt 1)).toInt = 1 := by decide
  have kc3 : ((Int32.ofInt 2)).toInt = 2 := by decide
  have kz := sy_z0
  refine hq_F.st (s' := (1, _, _, _)) hf107_0 rfl rfl rfl (hs_al g0) ?_
  refine hq_F.st (s' := (4, _, _, _)) hf107_1 rfl rfl rfl (hq_gf hC sh_1 sk_9_66 (sy_v hC (by decide) rfl)) ?_
  refine hq_F.st (s' := (5, _, _, _)) hf107_4 rfl rfl rfl rfl ?_
  by_cases b5 : ¬ ((gv w 1 5)).toInt = 2
  · skip
    refine hq_F.st (s' := (20, _, _, _)) hf107_5 rfl rfl rfl (hs_ic (ci_ne (by omega)) rfl) ?_
    refine hq_F.st (s' := (21, _, _, _)) hf107_20 rfl rfl rfl rfl ?_
    refine hq_F.en hf107_21 rfl rfl ?_
    exact ⟨rfl, by rw [decide_eq_false (p := t.1 = 2 ∧ tq_kx t.2.2.2.1 = -1) (by omega)]; rfl⟩
  · skip
    refine hq_F.st (s' := (8, _, _, _)) hf107_5 rfl rfl rfl (hs_icn (t := 20) (ci_nen (by omega)) rfl) ?_
    rw [if_pos (by omega)] at f5
    refine hq_F.st (s' := (9, _, _, _)) hf107_8 rfl rfl rfl (hs_al g0) ?_
    refine hq_F.st (s' := (12, _, _, _)) hf107_9 rfl rfl rfl (hq_gf hC sh_1 sk_9_63 (sy_v hC (by decide) rfl)) ?_
    refine hq_F.st (s' := (13, _, _, _)) hf107_12 rfl rfl rfl rfl ?_
    by_cases b13 : ¬ ((gv w 1 9)).toInt = (-1)
    · skip
      refine hq_F.st (s' := (20, _, _, _)) hf107_13 rfl rfl rfl (hs_ic (ci_ne (by omega)) rfl) ?_
      refine hq_F.st (s' := (21, _, _, _)) hf107_20 rfl rfl rfl rfl ?_
      refine hq_F.en hf107_21 rfl rfl ?_
      exact ⟨rfl, by rw [decide_eq_false (p := t.1 = 2 ∧ tq_kx t.2.2.2.1 = -1) (by omega)]; rfl⟩
    · skip
      refine hq_F.st (s' := (16, _, _, _)) hf107_13 rfl rfl rfl (hs_icn (t := 20) (ci_nen (by omega)) rfl) ?_
      refine hq_F.st (s' := (17, _, _, _)) hf107_16 rfl rfl rfl rfl ?_
      refine hq_F.st (s' := (21, _, _, _)) hf107_17 rfl rfl rfl rfl ?_
      refine hq_F.en hf107_21 rfl rfl ?_
      exact ⟨rfl, by rw [decide_eq_true (p := t.1 = 2 ∧ tq_kx t.2.2.2.1 = -1) (by omega)]; rfl⟩
theorem ct_num {d B M : Nat} {tp : Nat → Nat} {w : pi_W} {t : tq_T} (h : CT tp B M w t) (x y : Int32) : hq_F (d + 3) sm106 (fun r w' => (∃ v : Int32, r = some (.int v) ∧ v.toInt = (t.2.2.1 : Int) ∧ t.1 = 3 ∧ (x.toInt ≤ (t.2.2.1 : Int) ∧ (t.2.2.1 : Int) ≤ y.toInt) ∧ CT tp B M w' (tq_nx tp B M t) ∧ af_Fr [(1, 4, 10)] w w') ∨ (r = some (.int (-1)) ∧ CT tp B M w' t ∧ af_Fr [(1, 10, 12)] w w' ∧ ¬ (t.1 = 3 ∧ x.toInt ≤ (t.2.2.1 : Int) ∧ (t.2.2.1 : Int) ≤ y.toInt) ∧ FC w' (if t.1 = 3 then 2 else 1) t.2.1)) (0, lv_args 0 [.ref 1, .int x, .int y], [], w) := by
  obtain ⟨hC, hP, hM, hV, ⟨f1, f2, f3, f4, f5, f6⟩, hW1, hW2, hW3⟩ := id h
  have g0 : pi_get (lv_args 0 [.ref 1, .int x, .int y]) 0 = some (.ref 1) := rfl
  have g1 : pi_get (lv_args 0 [.ref 1, .int x, .int y]) 1 = some (.int x) := rfl
  have g2 : pi_get (lv_args 0 [.ref 1, .int x, .int y]) 2 = some (.int y) := rfl
  have kc0 : ((Int32.ofInt (-1))).toInt = (-1) := by decide
  have kc1 : ((Int32.ofInt 1)).toInt = 1 := by decide
  have kc2 : ((Int32.ofInt 2)).toInt = 2 := by decide
  have kc3 : ((Int32.ofInt 3)).toInt = 3 := by decide
  have kz := sy_z0
  refine hq_F.st (s' := (1, _, _, _)) hf106_0 rfl rfl rfl (hs_al g0) ?_
  refine hq_F.st (s' := (4, _, _, _)) hf106_1 rfl rfl rfl (hq_gf hC sh_1 sk_9_66 (sy_v hC (by decide) rfl)) ?_
  refine hq_F.st (s' := (5, _, _, _)) hf106_4 rfl rfl rfl rfl ?_
  by_cases b5 : ((gv w 1 5)).toInt = 3
  · skip
    refine hq_F.st (s' := (16, _, _, _)) hf106_5 rfl rfl rfl (hs_ic (ci_eq (by omega)) rfl) ?_
    have f3 := f3 (Or.inl (by omega))
    refine hq_F.st (s' := (17, _, _, _)) hf106_16 rfl rfl rfl (hs_al g0) ?_
    refine hq_F.st (s' := (20, _, _, _)) hf106_17 rfl rfl rfl (hq_gf hC sh_1 sk_9_56 (sy_v hC (by decide) rfl)) ?_
    refine hq_F.st (s' := (21, _, _, _)) hf106_20 rfl rfl rfl (hs_iln g1) ?_
    by_cases b21 : ((gv w 1 7)).toInt < (x).toInt
    · skip
      refine hq_F.st (s' := (32, _, _, _)) hf106_21 rfl rfl rfl (hs_ic (ci_lt (by omega)) rfl) ?_
      refine hq_F.st (s' := (33, _, _, _)) hf106_32 rfl rfl rfl (hs_al g0) ?_
      refine hq_F.st (s' := (34, _, _, _)) hf106_33 rfl rfl rfl rfl ?_
      refine hq_F.call hf106_34 rfl rfl si_9_97 (by decide) (by decide) sz_103 (sy_argsV hC sh_1 rfl rfl rfl (Nat.le_of_ble_eq_true rfl) rfl (Nat.le_of_ble_eq_true rfl) rfl (by decide)) (ct_ref h ((Int32.ofInt 2))) (fun _ _ q => by rw [q.2.1.1.1, hC.1]) ?_
      rintro r34 w9 ⟨rfl, k1, k2, k3, k4⟩
      try dsimp only
      refine hq_F.st (s' := (38, _, _, _)) hf106_37 rfl rfl rfl rfl ?_
      refine hq_F.st (s' := (39, _, _, _)) hf106_38 rfl rfl rfl rfl ?_
      refine hq_F.en hf106_39 rfl rfl ?_
      exact Or.inr ⟨rfl, k1, k2, by omega, by rw [if_pos (by omega)]; exact ⟨by rw [k3]; decide, k4⟩⟩
    · skip
      refine hq_F.st (s' := (24, _, _, _)) hf106_21 rfl rfl rfl (hs_icn (t := 32) (ci_ltn (by omega)) rfl) ?_
      refine hq_F.st (s' := (25, _, _, _)) hf106_24 rfl rfl rfl (hs_al g0) ?_
      refine hq_F.st (s' := (28, _, _, _)) hf106_25 rfl rfl rfl (hq_gf hC sh_1 sk_9_56 (sy_v hC (by decide) rfl)) ?_
      refine hq_F.st (s' := (29, _, _, _)) hf106_28 rfl rfl rfl (hs_iln g2) ?_
      by_cases b29 : ((gv w 1 7)).toInt ≤ (y).toInt
      · skip
        refine hq_F.st (s' := (40, _, _, _)) hf106_29 rfl rfl rfl (hs_ic (ci_le (by omega)) rfl) ?_
        refine hq_F.st (s' := (41, _, _, _)) hf106_40 rfl rfl rfl (hs_al g0) ?_
        refine hq_F.st (s' := (44, _, _, _)) hf106_41 rfl rfl rfl (hq_gf hC sh_1 sk_9_56 (sy_v hC (by decide) rfl)) ?_
        refine hq_F.st (s' := (45, _, _, _)) hf106_44 rfl rfl rfl rfl ?_
        refine hq_F.st (s' := (46, _, _, _)) hf106_45 rfl rfl rfl (hs_al (hg_nr g0 (by decide))) ?_
        refine hq_F.call hf106_46 rfl rfl si_9_49 (by decide) (by decide) sz_98 (sy_argsV hC sh_1 rfl rfl rfl (Nat.le_of_ble_eq_true rfl) rfl (Nat.le_of_ble_eq_true rfl) rfl (by decide)) (ct_adv (d := d) h (by omega)) (fun _ _ q => by rw [q.2.1.1.1, hC.1]) ?_
        rintro r46 w8 ⟨rfl, k1, k2⟩
        try dsimp only
        refine hq_F.st (s' := (50, _, _, _)) hf106_49 rfl rfl rfl (hs_iln (pi_get_set _ _ _)) ?_
        refine hq_F.en hf106_50 rfl (pi_ri _) ?_
        exact Or.inl ⟨_, rfl, f3, by omega, by omega, k1, k2⟩
      · skip
        refine hq_F.st (s' := (32, _, _, _)) hf106_29 rfl rfl rfl (hs_icn (t := 40) (ci_len (by omega)) rfl) ?_
        refine hq_F.st (s' := (33, _, _, _)) hf106_32 rfl rfl rfl (hs_al g0) ?_
        refine hq_F.st (s' := (34, _, _, _)) hf106_33 rfl rfl rfl rfl ?_
        refine hq_F.call hf106_34 rfl rfl si_9_97 (by decide) (by decide) sz_103 (sy_argsV hC sh_1 rfl rfl rfl (Nat.le_of_ble_eq_true rfl) rfl (Nat.le_of_ble_eq_true rfl) rfl (by decide)) (ct_ref h ((Int32.ofInt 2))) (fun _ _ q => by rw [q.2.1.1.1, hC.1]) ?_
        rintro r34 w9 ⟨rfl, k1, k2, k3, k4⟩
        try dsimp only
        refine hq_F.st (s' := (38, _, _, _)) hf106_37 rfl rfl rfl rfl ?_
        refine hq_F.st (s' := (39, _, _, _)) hf106_38 rfl rfl rfl rfl ?_
        refine hq_F.en hf106_39 rfl rfl ?_
        exact Or.inr ⟨rfl, k1, k2, by omega, by rw [if_pos (by omega)]; exact ⟨by rw [k3]; decide, k4⟩⟩
  · skip
    refine hq_F.st (s' := (8, _, _, _)) hf106_5 rfl rfl rfl (hs_icn (t := 16) (ci_eqn (by omega)) rfl) ?_
    refine hq_F.st (s' := (9, _, _, _)) hf106_8 rfl rfl rfl (hs_al g0) ?_
    refine hq_F.st (s' := (10, _, _, _)) hf106_9 rfl rfl rfl rfl ?_
    refine hq_F.call hf106_10 rfl rfl si_9_97 (by decide) (by decide) sz_103 (sy_argsV hC sh_1 rfl rfl rfl (Nat.le_of_ble_eq_true rfl) rfl (Nat.le_of_ble_eq_true rfl) rfl (by decide)) (ct_ref h ((Int32.ofInt 1))) (fun _ _ q => by rw [q.2.1.1.1, hC.1]) ?_
    rintro r10 w9 ⟨rfl, k1, k2, k3, k4⟩
    try dsimp only
    refine hq_F.st (s' := (14, _, _, _)) hf106_13 rfl rfl rfl rfl ?_
    refine hq_F.st (s' := (15, _, _, _)) hf106_14 rfl rfl rfl rfl ?_
    refine hq_F.en hf106_15 rfl rfl ?_
    exact Or.inr ⟨rfl, k1, k2, by omega, by rw [if_neg (by omega)]; exact ⟨by rw [k3]; decide, k4⟩⟩
