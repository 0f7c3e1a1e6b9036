/-! ===== the model at a TOKEN; by program ===== -/
theorem sk_11_169 : pi_look pi_fT 11 169 = some (11, 15, 1262) := rfl
theorem sk_11_172 : pi_look pi_fT 11 172 = some (11, 16, 1263) := rfl
theorem sk_11_188 : pi_look pi_fT 11 188 = some (11, 18, 1265) := rfl
theorem sk_11_47 : pi_look pi_fT 11 47 = some (11, 10, 1257) := rfl
theorem si_11_175 : pi_look pi_iT 11 175 = some (2, 179, 1, 1460) := rfl
theorem si_11_178 : pi_look pi_iT 11 178 = some (2, 177, 1, 1414) := rfl
theorem si_11_181 : pi_look pi_iT 11 181 = some (2, 176, 0, 1392) := rfl
theorem si_11_184 : pi_look pi_iT 11 184 = some (0, 167, 3, 1457) := rfl
def sm167 : pi_M := (11, 3, (some .boolean), false, mc_167)
def sm177 : pi_M := (11, 2, (some .boolean), false, mc_177)
def sm178 : pi_M := (11, 3, (some .boolean), false, mc_178)
def sm179 : pi_M := (11, 2, (some .boolean), false, mc_179)
def sm180 : pi_M := (11, 2, (some .boolean), false, mc_180)
def sm181 : pi_M := (11, 3, (some .boolean), false, mc_181)
def sm182 : pi_M := (11, 3, (some .boolean), false, mc_182)
def sf_67 : List (Nat × Int × Int) := match (aw_Sh[67]? : Option af_C) with
  | some (.inl (_, _, S)) => S
  | _ => []
theorem sh_67 : aw_Sh[67]? = some (.inl (2, 29, sf_67)) := rfl
set_option maxRecDepth 100000 in
theorem sz_167 : pi_mt[167]? = some (mn_167, prog_13_method_7_code, (11, 3, (some .boolean), false, mc_167)) := rfl
set_option maxRecDepth 100000 in
theorem sz_177 : pi_mt[177]? = some (mn_177, prog_13_method_17_code, (11, 2, (some .boolean), false, mc_177)) := rfl
set_option maxRecDepth 100000 in
theorem sz_178 : pi_mt[178]? = some (mn_178, prog_13_method_18_code, (11, 3, (some .boolean), false, mc_178)) := rfl
set_option maxRecDepth 100000 in
theorem sz_179 : pi_mt[179]? = some (mn_179, prog_13_method_19_code, (11, 2, (some .boolean), false, mc_179)) := rfl
set_option maxRecDepth 100000 in
theorem sz_180 : pi_mt[180]? = some (mn_180, prog_13_method_20_code, (11, 2, (some .boolean), false, mc_180)) := rfl
set_option maxRecDepth 100000 in
theorem sz_181 : pi_mt[181]? = some (mn_181, prog_13_method_21_code, (11, 3, (some .boolean), false, mc_181)) := rfl
set_option maxRecDepth 100000 in
theorem sz_182 : pi_mt[182]? = some (mn_182, prog_13_method_22_code, (11, 3, (some .boolean), false, mc_182)) := rfl
theorem hg177_0 : pi_fetch mc_177 0 = some (.aload_n 0, 1) := rfl
theorem hg177_1 : pi_fetch mc_177 1 = some (.iload_n 1, 1) := rfl
theorem hg177_2 : pi_fetch mc_177 2 = some (.putfield 169, 3) := rfl
theorem hg177_5 : pi_fetch mc_177 5 = some (.aload_n 0, 1) := rfl
theorem hg177_6 : pi_fetch mc_177 6 = some (.aload_n 0, 1) := rfl
theorem hg177_7 : pi_fetch mc_177 7 = some (.getfield 146, 3) := rfl
theorem hg177_10 : pi_fetch mc_177 10 = some (.putfield 172, 3) := rfl
theorem hg177_13 : pi_fetch mc_177 13 = some (.iconst 0, 1) := rfl
theorem hg177_14 : pi_fetch mc_177 14 = some (.ireturn, 1) := rfl
theorem hg178_0 : pi_fetch mc_178 0 = some (.aload_n 0, 1) := rfl
theorem hg178_1 : pi_fetch mc_178 1 = some (.getfield 152, 3) := rfl
theorem hg178_4 : pi_fetch mc_178 4 = some (.iconst 1, 1) := rfl
theorem hg178_5 : pi_fetch mc_178 5 = some (.if_icmp .ne 16, 3) := rfl
theorem hg178_8 : pi_fetch mc_178 8 = some (.aload_n 0, 1) := rfl
theorem hg178_9 : pi_fetch mc_178 9 = some (.getfield 165, 3) := rfl
theorem hg178_12 : pi_fetch mc_178 12 = some (.lload_n 1, 1) := rfl
theorem hg178_13 : pi_fetch mc_178 13 = some (.lcmp, 1) := rfl
theorem hg178_14 : pi_fetch mc_178 14 = some (.ifCond .ne 7, 3) := rfl
theorem hg178_17 : pi_fetch mc_178 17 = some (.iconst 1, 1) := rfl
theorem hg178_18 : pi_fetch mc_178 18 = some (.goto 4, 3) := rfl
theorem hg178_21 : pi_fetch mc_178 21 = some (.iconst 0, 1) := rfl
theorem hg178_22 : pi_fetch mc_178 22 = some (.ireturn, 1) := rfl
theorem hg179_0 : pi_fetch mc_179 0 = some (.aload_n 0, 1) := rfl
theorem hg179_1 : pi_fetch mc_179 1 = some (.getfield 152, 3) := rfl
theorem hg179_4 : pi_fetch mc_179 4 = some (.iconst 3, 1) := rfl
theorem hg179_5 : pi_fetch mc_179 5 = some (.if_icmp .ne 15, 3) := rfl
theorem hg179_8 : pi_fetch mc_179 8 = some (.aload_n 0, 1) := rfl
theorem hg179_9 : pi_fetch mc_179 9 = some (.getfield 162, 3) := rfl
theorem hg179_12 : pi_fetch mc_179 12 = some (.iload_n 1, 1) := rfl
theorem hg179_13 : pi_fetch mc_179 13 = some (.if_icmp .ne 7, 3) := rfl
theorem hg179_16 : pi_fetch mc_179 16 = some (.iconst 1, 1) := rfl
theorem hg179_17 : pi_fetch mc_179 17 = some (.goto 4, 3) := rfl
theorem hg179_20 : pi_fetch mc_179 20 = some (.iconst 0, 1) := rfl
theorem hg179_21 : pi_fetch mc_179 21 = some (.ireturn, 1) := rfl
theorem hg180_0 : pi_fetch mc_180 0 = some (.aload_n 0, 1) := rfl
theorem hg180_1 : pi_fetch mc_180 1 = some (.iload_n 1, 1) := rfl
theorem hg180_2 : pi_fetch mc_180 2 = some (.invokevirtual 175, 3) := rfl
theorem hg180_5 : pi_fetch mc_180 5 = some (.ifCond .ne 9, 3) := rfl
theorem hg180_8 : pi_fetch mc_180 8 = some (.aload_n 0, 1) := rfl
theorem hg180_9 : pi_fetch mc_180 9 = some (.iconst 1, 1) := rfl
theorem hg180_10 : pi_fetch mc_180 10 = some (.invokevirtual 178, 3) := rfl
theorem hg180_13 : pi_fetch mc_180 13 = some (.ireturn, 1) := rfl
theorem hg180_14 : pi_fetch mc_180 14 = some (.aload_n 0, 1) := rfl
theorem hg180_15 : pi_fetch mc_180 15 = some (.invokevirtual 181, 3) := rfl
theorem hg180_18 : pi_fetch mc_180 18 = some (.iconst 1, 1) := rfl
theorem hg180_19 : pi_fetch mc_180 19 = some (.ireturn, 1) := rfl
theorem hg181_0 : pi_fetch mc_181 0 = some (.aload_n 0, 1) := rfl
theorem hg181_1 : pi_fetch mc_181 1 = some (.getfield 152, 3) := rfl
theorem hg181_4 : pi_fetch mc_181 4 = some (.iconst 1, 1) := rfl
theorem hg181_5 : pi_fetch mc_181 5 = some (.if_icmp .ne 7, 3) := rfl
theorem hg181_8 : pi_fetch mc_181 8 = some (.iconst 1, 1) := rfl
theorem hg181_9 : pi_fetch mc_181 9 = some (.goto 4, 3) := rfl
theorem hg181_12 : pi_fetch mc_181 12 = some (.iconst 0, 1) := rfl
theorem hg181_13 : pi_fetch mc_181 13 = some (.istore_n 1, 1) := rfl
theorem hg181_14 : pi_fetch mc_181 14 = some (.iconst 0, 1) := rfl
theorem hg181_15 : pi_fetch mc_181 15 = some (.istore_n 2, 1) := rfl
theorem hg181_16 : pi_fetch mc_181 16 = some (.iload_n 2, 1) := rfl
theorem hg181_17 : pi_fetch mc_181 17 = some (.bipush 29, 2) := rfl
theorem hg181_19 : pi_fetch mc_181 19 = some (.if_icmp .ge 33, 3) := rfl
theorem hg181_22 : pi_fetch mc_181 22 = some (.iload_n 1, 1) := rfl
theorem hg181_23 : pi_fetch mc_181 23 = some (.ifCond .eq 21, 3) := rfl
theorem hg181_26 : pi_fetch mc_181 26 = some (.aload_n 0, 1) := rfl
theorem hg181_27 : pi_fetch mc_181 27 = some (.getfield 165, 3) := rfl
theorem hg181_30 : pi_fetch mc_181 30 = some (.aload_n 0, 1) := rfl
theorem hg181_31 : pi_fetch mc_181 31 = some (.getfield 47, 3) := rfl
theorem hg181_34 : pi_fetch mc_181 34 = some (.iload_n 2, 1) := rfl
theorem hg181_35 : pi_fetch mc_181 35 = some (.laload, 1) := rfl
theorem hg181_36 : pi_fetch mc_181 36 = some (.lcmp, 1) := rfl
theorem hg181_37 : pi_fetch mc_181 37 = some (.ifCond .eq 7, 3) := rfl
theorem hg181_40 : pi_fetch mc_181 40 = some (.iconst 1, 1) := rfl
theorem hg181_41 : pi_fetch mc_181 41 = some (.goto 4, 3) := rfl
theorem hg181_44 : pi_fetch mc_181 44 = some (.iconst 0, 1) := rfl
theorem hg181_45 : pi_fetch mc_181 45 = some (.istore_n 1, 1) := rfl
theorem hg181_46 : pi_fetch mc_181 46 = some (.iinc 2 1, 3) := rfl
theorem hg181_49 : pi_fetch mc_181 49 = some (.goto (-33), 3) := rfl
theorem hg181_52 : pi_fetch mc_181 52 = some (.iload_n 1, 1) := rfl
theorem hg181_53 : pi_fetch mc_181 53 = some (.ireturn, 1) := rfl
theorem hg182_0 : pi_fetch mc_182 0 = some (.aload_n 0, 1) := rfl
theorem hg182_1 : pi_fetch mc_182 1 = some (.getfield 152, 3) := rfl
theorem hg182_4 : pi_fetch mc_182 4 = some (.iconst 2, 1) := rfl
theorem hg182_5 : pi_fetch mc_182 5 = some (.if_icmp .eq 9, 3) := rfl
theorem hg182_8 : pi_fetch mc_182 8 = some (.aload_n 0, 1) := rfl
theorem hg182_9 : pi_fetch mc_182 9 = some (.iconst 1, 1) := rfl
theorem hg182_10 : pi_fetch mc_182 10 = some (.invokevirtual 178, 3) := rfl
theorem hg182_13 : pi_fetch mc_182 13 = some (.ireturn, 1) := rfl
theorem hg182_14 : pi_fetch mc_182 14 = some (.aload_n 0, 1) := rfl
theorem hg182_15 : pi_fetch mc_182 15 = some (.getfield 162, 3) := rfl
theorem hg182_18 : pi_fetch mc_182 18 = some (.iload_n 1, 1) := rfl
theorem hg182_19 : pi_fetch mc_182 19 = some (.iload_n 2, 1) := rfl
theorem hg182_20 : pi_fetch mc_182 20 = some (.invokestatic 184, 3) := rfl
theorem hg182_23 : pi_fetch mc_182 23 = some (.ifCond .ne 9, 3) := rfl
theorem hg182_26 : pi_fetch mc_182 26 = some (.aload_n 0, 1) := rfl
theorem hg182_27 : pi_fetch mc_182 27 = some (.iconst 2, 1) := rfl
theorem hg182_28 : pi_fetch mc_182 28 = some (.invokevirtual 178, 3) := rfl
theorem hg182_31 : pi_fetch mc_182 31 = some (.ireturn, 1) := rfl
theorem hg182_32 : pi_fetch mc_182 32 = some (.aload_n 0, 1) := rfl
theorem hg182_33 : pi_fetch mc_182 33 = some (.aload_n 0, 1) := rfl
theorem hg182_34 : pi_fetch mc_182 34 = some (.getfield 162, 3) := rfl
theorem hg182_37 : pi_fetch mc_182 37 = some (.putfield 188, 3) := rfl
theorem hg182_40 : pi_fetch mc_182 40 = some (.aload_n 0, 1) := rfl
theorem hg182_41 : pi_fetch mc_182 41 = some (.invokevirtual 181, 3) := rfl
theorem hg182_44 : pi_fetch mc_182 44 = some (.iconst 1, 1) := rfl
theorem hg182_45 : pi_fetch mc_182 45 = some (.ireturn, 1) := rfl
theorem hg167_0 : pi_fetch mc_167 0 = some (.iload_n 0, 1) := rfl
theorem hg167_1 : pi_fetch mc_167 1 = some (.iload_n 1, 1) := rfl
theorem hg167_2 : pi_fetch mc_167 2 = some (.if_icmp .lt 12, 3) := rfl
theorem hg167_5 : pi_fetch mc_167 5 = some (.iload_n 0, 1) := rfl
theorem hg167_6 : pi_fetch mc_167 6 = some (.iload_n 2, 1) := rfl
theorem hg167_7 : pi_fetch mc_167 7 = some (.if_icmp .gt 7, 3) := rfl
theorem hg167_10 : pi_fetch mc_167 10 = some (.iconst 1, 1) := rfl
theorem hg167_11 : pi_fetch mc_167 11 = some (.goto 4, 3) := rfl
theorem hg167_14 : pi_fetch mc_167 14 = some (.iconst 0, 1) := rfl
theorem hg167_15 : pi_fetch mc_167 15 = some (.ireturn, 1) := rfl
theorem tq_c256_lt : ∀ (n : Nat) (u : List Nat), u.length = n → u.all tq_sm = true → tq_c256 u < 256 ^ n
  | 0, u, h, _ => by
    rw [List.length_eq_zero_iff.mp h]
    decide
  | n + 1, u, h, hu => by
    rcases tq_snoc u with rfl | ⟨v, c, rfl⟩
    · simp at h
    · rw [List.all_append, Bool.and_eq_true] at hu
      simp only [List.all_cons, List.all_nil, Bool.and_true] at hu
      have hc := tq_smr hu.2
      rw [List.length_append] at h
      simp only [List.length_cons, List.length_nil] at h
      have := tq_c256_lt n v (by omega) hu.1
      rw [tq_c256_app, Nat.pow_succ]
      omega
theorem tq_c256_lt7 {u : List Nat} (hu : u.all tq_sm = true) (hl : u.length ≤ 7) : tq_c256 u < 9223372036854775808 := by
  have h := tq_c256_lt u.length u rfl hu
  have h2 : 256 ^ u.length ≤ 256 ^ 7 := Nat.pow_le_pow_right (by decide) hl
  have e : (256 : Nat) ^ 7 = 72057594037927936 := by decide
  omega
theorem sy_rb {pc : Nat} {lv : pi_L} {w : pi_W} (b : Bool) : pi_end (some .boolean) .ireturn 1 (pc, lv, [.int (tq_b b)], w) = some (some (.int (tq_b b))) := by cases b <;> rfl
def tq_Vm (w : pi_W) : Prop := ∀ k, k < 29 → gl w 67 k = Int64.ofNat (tq_c256 (tq_kw.getD k []))
/-- the model reads this text, and stands at this TOKEN -/
def MT (tp : Nat → Nat) (B M : Nat) (w : pi_W) (t : tq_T) : Prop := af_Conf aw_Sh w ∧ tm_P tp B w ∧ (gv w 61 5).toInt = (M : Int) ∧ tq_Vm w ∧ tq_M w t ∧ tq_W B t
def mt_ok (N : af_M) : Bool := N.all (fun e => (e.1 != 62) && ((e.1 != 67) && ((e.1 != 61) || (decide (e.2.2 ≤ 3) || (decide (15 ≤ e.2.1 ∧ e.2.2 ≤ 17) || decide (18 ≤ e.2.1))))))
theorem mt_k {N : af_M} (h : mt_ok N = true) : (∀ k, (3 ≤ k ∧ k < 15) ∨ k = 17 → af_cov N 61 k k = false) ∧ (∀ e ∈ N, e.1 ≠ 62) ∧ (∀ e ∈ N, e.1 ≠ 67) := by
  have hh : ∀ e ∈ N, e.1 ≠ 62 ∧ e.1 ≠ 67 ∧ (e.1 ≠ 61 ∨ (e.2.2 ≤ 3 ∨ ((15 ≤ e.2.1 ∧ e.2.2 ≤ 17) ∨ 18 ≤ e.2.1))) := by
    intro e he
    have := List.all_eq_true.mp h e he
    simpa using this
  refine ⟨fun k hk => ?_, fun e he => (hh e he).1, fun e he => (hh e he).2.1⟩
  cases hc : af_cov N 61 k k with
  | false => rfl
  | true =>
    obtain ⟨q, hq, h1⟩ := List.any_eq_true.mp hc
    simp only [Bool.and_eq_true, beq_iff_eq, Nat.ble_eq, Nat.blt_eq] at h1
    have := hh q hq
    omega
theorem MT.fr {tp : Nat → Nat} {B M : Nat} {w w' : pi_W} {t : tq_T} {N : af_M} (h : MT tp B M w t) (hC : af_Conf aw_Sh w') (hF : af_Fr N w w') (hN : mt_ok N = true) : MT tp B M w' t := by
  obtain ⟨h1, h2, h3⟩ := mt_k hN
  obtain ⟨-, b, c, e, ⟨f1, f2, f3, f4, f5⟩, g⟩ := h
  have hv : ∀ k, (3 ≤ k ∧ k < 15) ∨ k = 17 → gv w' 61 k = gv w 61 k := fun k hk => gv_eq (hF 61 k (h1 k hk))
  refine ⟨hC, b.fr hF (h1 3 (by decide)) h2, by rw [hv 5 (by decide)]; exact c, fun k hk => by rw [gl_eq (hq_cell hF h3)]; exact e k hk, ⟨?_, ?_, ?_, ?_, ?_⟩, g⟩
  · rw [hv 11 (by decide)]; exact f1
  · rw [hv 12 (by decide)]; exact f2
  · rw [hv 14 (by decide)]; exact f3
  · rw [gl_eq (hF 61 17 (h1 17 (by decide)))]; exact f4
  · rw [hv 4 (by decide)]; exact f5
theorem mt_adv {d B M : Nat} {tp : Nat → Nat} {w : pi_W} {t : tq_T} (h : MT tp B M w t) (hk : 2 ≤ t.1) : hq_F (d + 1) sm176 (fun r w' => r = none ∧ MT tp B M w' (tq_nx tp B M t) ∧ af_Fr [(61, 4, 5), (61, 11, 15), (61, 17, 18)] w w') (0, lv_args 0 [.ref 61], [], w) := by
  obtain ⟨a, b, c, e, f, g⟩ := h
  refine (tm_176 a b c (f.2.2.2.2 hk) (g.1 hk)).imp ?_
  rintro r w' ⟨q1, q2, q3, q4⟩
  refine ⟨q1, ⟨q2, b.fr q3 (by decide) (by decide), by rw [gv_eq (q3 61 5 (by decide))]; exact c, fun k hk => by rw [gl_eq (hq_cell q3 (by decide))]; exact e k hk, tm_ok (tq_sk_le (g.1 hk)).2 q4, tq_tok_W (g.1 hk)⟩, q3⟩
/-- a FAULT as the model has it -/
def FM (w : pi_W) (k : Int) (p : Nat) : Prop := (gv w 61 15).toInt = k ∧ (gv w 61 16).toInt = (p : Int)
theorem tq_mk_c {v : Int} {k : Nat} (hk : k ≤ 4) (h : v = tq_mk k) : (k = 0 ∧ v = 0) ∨ (k = 1 ∧ v = 4) ∨ (k = 2 ∧ v = 1) ∨ (k = 3 ∧ v = 2) ∨ (k = 4 ∧ v = 3) := by
  have hc : k = 0 ∨ k = 1 ∨ k = 2 ∨ k = 3 ∨ k = 4 := by omega
  rcases hc with rfl | rfl | rfl | rfl | rfl <;> (unfold tq_mk at h; simp at h; omega)
theorem mt_bad {d B M : Nat} {tp : Nat → Nat} {w : pi_W} {t : tq_T} (h : MT tp B M w t) (x : Int32) : hq_F d sm177 (fun r w' => r = some (.int 0) ∧ MT tp B M w' t ∧ af_Fr [(61, 15, 17)] w w' ∧ gv w' 61 15 = x ∧ (gv w' 61 16).toInt = (t.2.1 : Int)) (0, lv_args 0 [.ref 61, .int x], [], w) := by
  obtain ⟨hC, hP, hM, hV, ⟨f1, f2, f3, f4, f6⟩, hW1, hW2, hW3⟩ := id h
  have hm := tq_mk_c hW2 f1
  have g0 : pi_get (lv_args 0 [.ref 61, .int x]) 0 = some (.ref 61) := rfl
  have g1 : pi_get (lv_args 0 [.ref 61, .int x]) 1 = some (.int x) := rfl
  have kc0 : ((Int32.ofInt 0)).toInt = 0 := by decide
  have kz := sy_z0
  refine hq_F.st (s' := (1, _, _, _)) hg177_0 rfl rfl rfl (hs_al g0) ?_
  refine hq_F.st (s' := (2, _, _, _)) hg177_1 rfl rfl rfl (hs_iln g1) ?_
  refine sy_pf hg177_2 hC sh_61 sk_11_169 (lo := -2147483648) (hi := 2147483647) rfl (af_i32 _) rfl rfl rfl (fun w1 hC1 hw1 => ?_)
  refine hq_F.st (s' := (6, _, _, _)) hg177_5 rfl rfl rfl (hs_al g0) ?_
  refine hq_F.st (s' := (7, _, _, _)) hg177_6 rfl rfl rfl (hs_al g0) ?_
  refine hq_F.st (s' := (10, _, _, _)) hg177_7 rfl rfl rfl (hq_gf hC1 sh_61 sk_11_146 (sy_v hC1 (by decide) rfl)) ?_
  have q7 : (gv w1 61 12).toInt = (gv w 61 12).toInt := by rw [wpv hw1, if_neg (by decide)]
  refine sy_pf hg177_10 hC1 sh_61 sk_11_172 (lo := -2147483648) (hi := 2147483647) rfl (af_i32 _) rfl rfl rfl (fun w2 hC2 hw2 => ?_)
  refine hq_F.st (s' := (14, _, _, _)) hg177_13 rfl rfl rfl rfl ?_
  refine hq_F.en hg177_14 rfl rfl ?_
  have hF : af_Fr [(61, 15, 17)] w w2 := (((wpF hw1).cov (by decide)).tr ((wpF hw2).cov (by decide)))
  refine ⟨rfl, h.fr hC2 hF (by decide), hF, ?_, ?_⟩
  · rw [wpv hw2, if_neg (by decide), wpv hw1, if_pos ⟨rfl, rfl⟩]
  · rw [wpv hw2, if_pos ⟨rfl, rfl⟩]
    rw [wpv hw1, if_neg (by decide)]
    exact f2
theorem mt_isS {d B M : Nat} {tp : Nat → Nat} {w : pi_W} {t : tq_T} (h : MT tp B M w t) {x : Int32} {c : Nat} (hx : x.toInt = (c : Int)) : hq_F d sm179 (fun r w' => w' = w ∧ r = some (.int (tq_b (decide (t.1 = 4 ∧ t.2.2.1 = c))))) (0, lv_args 0 [.ref 61, .int x], [], w) := by
  obtain ⟨hC, hP, hM, hV, ⟨f1, f2, f3, f4, f6⟩, hW1, hW2, hW3⟩ := id h
  have hm := tq_mk_c hW2 f1
  have g0 : pi_get (lv_args 0 [.ref 61, .int x]) 0 = some (.ref 61) := rfl
  have g1 : pi_get (lv_args 0 [.ref 61, .int x]) 1 = some (.int x) := rfl
  have kc0 : ((Int32.ofInt 0)).toInt = 0 := by decide
  have kc1 : ((Int32.ofInt 1)).toInt = 1 := by decide
  have kc2 : ((Int32.ofInt 3)).toInt = 3 := by decide
  have kz := sy_z0
  refine hq_F.st (s' := (1, _, _, _)) hg179_0 rfl rfl rfl (hs_al g0) ?_
  refine hq_F.st (s' := (4, _, _, _)) hg179_1 rfl rfl rfl (hq_gf hC sh_61 sk_11_152 (sy_v hC (by decide) rfl)) ?_
  refine hq_F.st (s' := (5, _, _, _)) hg179_4 rfl rfl rfl rfl ?_
  by_cases b5 : ¬ ((gv w 61 11)).toInt = 3
  · skip
    refine hq_F.st (s' := (20, _, _, _)) hg179_5 rfl rfl rfl (hs_ic (ci_ne (by omega)) rfl) ?_
    refine hq_F.st (s' := (21, _, _, _)) hg179_20 rfl rfl rfl rfl ?_
    refine hq_F.en hg179_21 rfl rfl ?_
    exact ⟨rfl, by rw [decide_eq_false (p := t.1 = 4 ∧ t.2.2.1 = c) (by omega)]; rfl⟩
  · skip
    refine hq_F.st (s' := (8, _, _, _)) hg179_5 rfl rfl rfl (hs_icn (t := 20) (ci_nen (by omega)) rfl) ?_
    have f3 := f3 (Or.inr (by omega))
    refine hq_F.st (s' := (9, _, _, _)) hg179_8 rfl rfl rfl (hs_al g0) ?_
    refine hq_F.st (s' := (12, _, _, _)) hg179_9 rfl rfl rfl (hq_gf hC sh_61 sk_11_162 (sy_v hC (by decide) rfl)) ?_
    refine hq_F.st (s' := (13, _, _, _)) hg179_12 rfl rfl rfl (hs_iln g1) ?_
    by_cases b13 : ¬ ((gv w 61 14)).toInt = (x).toInt
    · skip
      refine hq_F.st (s' := (20, _, _, _)) hg179_13 rfl rfl rfl (hs_ic (ci_ne (by omega)) rfl) ?_
      refine hq_F.st (s' := (21, _, _, _)) hg179_20 rfl rfl rfl rfl ?_
      refine hq_F.en hg179_21 rfl rfl ?_
      exact ⟨rfl, by rw [decide_eq_false (p := t.1 = 4 ∧ t.2.2.1 = c) (by omega)]; rfl⟩
    · skip
      refine hq_F.st (s' := (16, _, _, _)) hg179_13 rfl rfl rfl (hs_icn (t := 20) (ci_nen (by omega)) rfl) ?_
      refine hq_F.st (s' := (17, _, _, _)) hg179_16 rfl rfl rfl rfl ?_
      refine hq_F.st (s' := (21, _, _, _)) hg179_17 rfl rfl rfl rfl ?_
      refine hq_F.en hg179_21 rfl rfl ?_
      exact ⟨rfl, by rw [decide_eq_true (p := t.1 = 4 ∧ t.2.2.1 = c) (by omega)]; rfl⟩
theorem mt_isW {d B M : Nat} {tp : Nat → Nat} {w : pi_W} {t : tq_T} (h : MT tp B M w t) (x : Int64) : hq_F d sm178 (fun r w' => w' = w ∧ r = some (.int (tq_b (decide (t.1 = 2 ∧ gl w 61 17 = x))))) (0, lv_args 0 [.ref 61, .long x], [], w) := by
  obtain ⟨hC, hP, hM, hV, ⟨f1, f2, f3, f4, f6⟩, hW1, hW2, hW3⟩ := id h
  have hm := tq_mk_c hW2 f1
  have g0 : pi_get (lv_args 0 [.ref 61, .long x]) 0 = some (.ref 61) := rfl
  have g1 : pi_get (lv_args 0 [.ref 61, .long x]) 1 = some (.long x) := rfl
  have kc0 : ((Int32.ofInt 0)).toInt = 0 := by decide
  have kc1 : ((Int32.ofInt 1)).toInt = 1 := by decide
  have kz := sy_z0
  refine hq_F.st (s' := (1, _, _, _)) hg178_0 rfl rfl rfl (hs_al g0) ?_
  refine hq_F.st (s' := (4, _, _, _)) hg178_1 rfl rfl rfl (hq_gf hC sh_61 sk_11_152 (sy_v hC (by decide) rfl)) ?_
  refine hq_F.st (s' := (5, _, _, _)) hg178_4 rfl rfl rfl rfl ?_
  by_cases b5 : ¬ ((gv w 61 11)).toInt = 1
  · skip
    refine hq_F.st (s' := (21, _, _, _)) hg178_5 rfl rfl rfl (hs_ic (ci_ne (by omega)) rfl) ?_
    refine hq_F.st (s' := (22, _, _, _)) hg178_21 rfl rfl rfl rfl ?_
    refine hq_F.en hg178_22 rfl rfl ?_
    exact ⟨rfl, by rw [decide_eq_false (p := t.1 = 2 ∧ gl w 61 17 = x) (fun q => absurd q.1 (by omega))]; rfl⟩
  · skip
    refine hq_F.st (s' := (8, _, _, _)) hg178_5 rfl rfl rfl (hs_icn (t := 21) (ci_nen (by omega)) rfl) ?_
    refine hq_F.st (s' := (9, _, _, _)) hg178_8 rfl rfl rfl (hs_al g0) ?_
    refine hq_F.st (s' := (12, _, _, _)) hg178_9 rfl rfl rfl (hq_gf hC sh_61 sk_11_165 (sy_vl hC sh_61 rfl)) ?_
    refine hq_F.st (s' := (13, _, _, _)) hg178_12 rfl rfl rfl (sy_ll g1) ?_
    refine hq_F.st (s' := (14, _, _, _)) hg178_13 rfl rfl rfl rfl ?_
    by_cases b14 : ¬ ((lg_cmp (gl w 61 17) x)).toInt = 0
    · skip
      refine hq_F.st (s' := (21, _, _, _)) hg178_14 rfl rfl rfl (hs_if (ci_ne (by omega)) rfl) ?_
      refine hq_F.st (s' := (22, _, _, _)) hg178_21 rfl rfl rfl rfl ?_
      refine hq_F.en hg178_22 rfl rfl ?_
      rw [lg_cmp0] at b14
      exact ⟨rfl, by rw [decide_eq_false (p := t.1 = 2 ∧ gl w 61 17 = x) (fun q => b14 q.2)]; rfl⟩
    · skip
      refine hq_F.st (s' := (17, _, _, _)) hg178_14 rfl rfl rfl (hs_ifn (t := 21) (ci_nen (by omega)) rfl) ?_
      refine hq_F.st (s' := (18, _, _, _)) hg178_17 rfl rfl rfl rfl ?_
      refine hq_F.st (s' := (22, _, _, _)) hg178_18 rfl rfl rfl rfl ?_
      refine hq_F.en hg178_22 rfl rfl ?_
      rw [lg_cmp0] at b14
      exact ⟨rfl, by rw [decide_eq_true (p := t.1 = 2 ∧ gl w 61 17 = x) ⟨by omega, Classical.not_not.mp b14⟩]; rfl⟩
theorem mt_tkS {d B M : Nat} {tp : Nat → Nat} {w : pi_W} {t : tq_T} (h : MT tp B M w t) {x : Int32} {c : Nat} (hx : x.toInt = (c : Int)) : hq_F (d + 2) sm180 (fun r w' => (r = some (.int 1) ∧ (t.1 = 4 ∧ t.2.2.1 = c) ∧ MT tp B M w' (tq_nx tp B M t) ∧ af_Fr [(61, 4, 5), (61, 11, 15), (61, 17, 18)] w w') ∨ (r = some (.int 0) ∧ ¬ (t.1 = 4 ∧ t.2.2.1 = c) ∧ MT tp B M w' t ∧ af_Fr [(61, 15, 17)] w w' ∧ FM w' 1 t.2.1)) (0, lv_args 0 [.ref 61, .int x], [], w) := by
  obtain ⟨hC, hP, hM, hV, ⟨f1, f2, f3, f4, f6⟩, hW1, hW2, hW3⟩ := id h
  have hm := tq_mk_c hW2 f1
  have g0 : pi_get (lv_args 0 [.ref 61, .int x]) 0 = some (.ref 61) := rfl
  have g1 : pi_get (lv_args 0 [.ref 61, .int x]) 1 = some (.int x) := rfl
  have kc0 : ((0 : Int32)).toInt = 0 := by decide
  have kc1 : ((1 : Int32)).toInt = 1 := by decide
  have kc2 : ((Int32.ofInt 1)).toInt = 1 := by decide
  have kz := sy_z0
  refine hq_F.st (s' := (1, _, _, _)) hg180_0 rfl rfl rfl (hs_al g0) ?_
  refine hq_F.st (s' := (2, _, _, _)) hg180_1 rfl rfl rfl (hs_iln g1) ?_
  refine hq_F.call hg180_2 rfl rfl si_11_175 (by decide) (by decide) sz_179 (sy_argsV hC sh_61 rfl rfl rfl (Nat.le_of_ble_eq_true rfl) rfl (Nat.le_of_ble_eq_true rfl) rfl (by decide)) (mt_isS h (c := c) hx) (fun _ _ q => by rw [q.1]) ?_
  rintro r2 w ⟨rfl, rfl⟩
  try dsimp only
  by_cases hs : t.1 = 4 ∧ t.2.2.1 = c
  · rw [decide_eq_true hs, show tq_b true = (1 : Int32) from rfl]
    refine hq_F.st (s' := (14, _, _, _)) hg180_5 rfl rfl rfl (hs_if (ci_ne (by omega)) rfl) ?_
    refine hq_F.st (s' := (15, _, _, _)) hg180_14 rfl rfl rfl (hs_al g0) ?_
    refine hq_F.call hg180_15 rfl rfl si_11_181 (by decide) (by decide) sz_176 (sy_argsV hC sh_61 rfl rfl rfl (Nat.le_of_ble_eq_true rfl) rfl (Nat.le_of_ble_eq_true rfl) rfl (by decide)) (mt_adv (d := d) h (by omega)) (fun _ _ q => by rw [q.2.1.1.1, hC.1]) ?_
    rintro r15 w8 ⟨rfl, k1, k2⟩
    try dsimp only
    refine hq_F.st (s' := (19, _, _, _)) hg180_18 rfl rfl rfl rfl ?_
    refine hq_F.en hg180_19 rfl rfl ?_
    exact Or.inl ⟨rfl, hs, k1, k2⟩
  · rw [decide_eq_false hs, show tq_b false = (0 : Int32) from rfl]
    refine hq_F.st (s' := (8, _, _, _)) hg180_5 rfl rfl rfl (hs_ifn (t := 14) (ci_nen (by omega)) rfl) ?_
    refine hq_F.st (s' := (9, _, _, _)) hg180_8 rfl rfl rfl (hs_al g0) ?_
    refine hq_F.st (s' := (10, _, _, _)) hg180_9 rfl rfl rfl rfl ?_
    refine hq_F.call hg180_10 rfl rfl si_11_178 (by decide) (by decide) sz_177 (sy_argsV hC sh_61 rfl rfl rfl (Nat.le_of_ble_eq_true rfl) rfl (Nat.le_of_ble_eq_true rfl) rfl (by decide)) (mt_bad h ((Int32.ofInt 1))) (fun _ _ q => by rw [q.2.1.1.1, hC.1]) ?_
    rintro r10 w9 ⟨rfl, k1, k2, k3, k4⟩
    try dsimp only
    refine hq_F.en hg180_13 rfl rfl ?_
    exact Or.inr ⟨rfl, hs, k1, k2, by rw [k3]; decide, k4⟩
theorem mt_in {d : Nat} {w : pi_W} {x y z : Int32} : hq_F d sm167 (fun r w' => w' = w ∧ r = some (.int (tq_b (decide (y.toInt ≤ x.toInt ∧ x.toInt ≤ z.toInt))))) (0, lv_args 0 [.int x, .int y, .int z], [], w) := by
  have g0 : pi_get (lv_args 0 [.int x, .int y, .int z]) 0 = some (.int x) := rfl
  have g1 : pi_get (lv_args 0 [.int x, .int y, .int z]) 1 = some (.int y) := rfl
  have g2 : pi_get (lv_args 0 [.int x, .int y, .int z]) 2 = some (.int z) := rfl
  have kc0 : ((Int32.ofInt 0)).toInt = 0 := by decide
  have kc1 : ((Int32.ofInt 1)).toInt = 1 := by decide
  have kz := sy_z0
  refine hq_F.st (s' := (1, _, _, _)) hg167_0 rfl rfl rfl (hs_iln g0) ?_
  refine hq_F.st (s' := (2, _, _, _)) hg167_1 rfl rfl rfl (hs_iln g1) ?_
  by_cases b2 : (x).toInt < (y).toInt
  · skip
    refine hq_F.st (s' := (14, _, _, _)) hg167_2 rfl rfl rfl (hs_ic (ci_lt (by omega)) rfl) ?_
    refine hq_F.st (s' := (15, _, _, _)) hg167_14 rfl rfl rfl rfl ?_
    refine hq_F.en hg167_15 rfl rfl ?_
    exact ⟨rfl, by rw [decide_eq_false (p := y.toInt ≤ x.toInt ∧ x.toInt ≤ z.toInt) (by omega)]; rfl⟩
  · skip
    refine hq_F.st (s' := (5, _, _, _)) hg167_2 rfl rfl rfl (hs_icn (t := 14) (ci_ltn (by omega)) rfl) ?_
    refine hq_F.st (s' := (6, _, _, _)) hg167_5 rfl rfl rfl (hs_iln g0) ?_
    refine hq_F.st (s' := (7, _, _, _)) hg167_6 rfl rfl rfl (hs_iln g2) ?_
    by_cases b7 : (z).toInt < (x).toInt
    · skip
      refine hq_F.st (s' := (14, _, _, _)) hg167_7 rfl rfl rfl (hs_ic (ci_gt (by omega)) rfl) ?_
      refine hq_F.st (s' := (15, _, _, _)) hg167_14 rfl rfl rfl rfl ?_
      refine hq_F.en hg167_15 rfl rfl ?_
      exact ⟨rfl, by rw [decide_eq_false (p := y.toInt ≤ x.toInt ∧ x.toInt ≤ z.toInt) (by omega)]; rfl⟩
    · skip
      refine hq_F.st (s' := (10, _, _, _)) hg167_7 rfl rfl rfl (hs_icn (t := 14) (ci_gtn (by omega)) rfl) ?_
      refine hq_F.st (s' := (11, _, _, _)) hg167_10 rfl rfl rfl rfl ?_
      refine hq_F.st (s' := (15, _, _, _)) hg167_11 rfl rfl rfl rfl ?_
      refine hq_F.en hg167_15 rfl rfl ?_
      exact ⟨rfl, by rw [decide_eq_true (p := y.toInt ≤ x.toInt ∧ x.toInt ≤ z.toInt) (by omega)]; rfl⟩
theorem mt_num {d B M : Nat} {tp : Nat → Nat} {w : pi_W} {t : tq_T} (h : MT tp B M w t) (x y : Int32) : hq_F (d + 2) sm182 (fun r w' => (r = some (.int 1) ∧ t.1 = 3 ∧ (x.toInt ≤ (t.2.2.1 : Int) ∧ (t.2.2.1 : Int) ≤ y.toInt) ∧ MT tp B M w' (tq_nx tp B M t) ∧ af_Fr [(61, 4, 5), (61, 11, 15), (61, 17, 19)] w w' ∧ (gv w' 61 18).toInt = (t.2.2.1 : Int)) ∨ (r = some (.int 0) ∧ MT tp B M w' t ∧ af_Fr [(61, 15, 17)] w w' ∧ ¬ (t.1 = 3 ∧ x.toInt ≤ (t.2.2.1 : Int) ∧ (t.2.2.1 : Int) ≤ y.toInt) ∧ FM w' (if t.1 = 3 then 2 else 1) t.2.1)) (0, lv_args 0 [.ref 61, .int x, .int y], [], w) := by
  obtain ⟨hC, hP, hM, hV, ⟨f1, f2, f3, f4, f6⟩, hW1, hW2, hW3⟩ := id h
  have hm := tq_mk_c hW2 f1
  have g0 : pi_get (lv_args 0 [.ref 61, .int x, .int y]) 0 = some (.ref 61) := rfl
  have g1 : pi_get (lv_args 0 [.ref 61, .int x, .int y]) 1 = some (.int x) := rfl
  have g2 : pi_get (lv_args 0 [.ref 61, .int x, .int y]) 2 = some (.int y) := rfl
  have kc0 : ((0 : Int32)).toInt = 0 := by decide
  have kc1 : ((1 : Int32)).toInt = 1 := by decide
  have kc2 : ((Int32.ofInt 1)).toInt = 1 := by decide
  have kc3 : ((Int32.ofInt 2)).toInt = 2 := by decide
  have kz := sy_z0
  refine hq_F.st (s' := (1, _, _, _)) hg182_0 rfl rfl rfl (hs_al g0) ?_
  refine hq_F.st (s' := (4, _, _, _)) hg182_1 rfl rfl rfl (hq_gf hC sh_61 sk_11_152 (sy_v hC (by decide) rfl)) ?_
  refine hq_F.st (s' := (5, _, _, _)) hg182_4 rfl rfl rfl rfl ?_
  by_cases b5 : ((gv w 61 11)).toInt = 2
  · skip
    refine hq_F.st (s' := (14, _, _, _)) hg182_5 rfl rfl rfl (hs_ic (ci_eq (by omega)) rfl) ?_
    have f3 := f3 (Or.inl (by omega))
    refine hq_F.st (s' := (15, _, _, _)) hg182_14 rfl rfl rfl (hs_al g0) ?_
    refine hq_F.st (s' := (18, _, _, _)) hg182_15 rfl rfl rfl (hq_gf hC sh_61 sk_11_162 (sy_v hC (by decide) rfl)) ?_
    refine hq_F.st (s' := (19, _, _, _)) hg182_18 rfl rfl rfl (hs_iln g1) ?_
    refine hq_F.st (s' := (20, _, _, _)) hg182_19 rfl rfl rfl (hs_iln g2) ?_
    refine hq_F.call hg182_20 rfl rfl si_11_184 (by decide) (by decide) sz_167 (sy_argsS rfl rfl rfl (Nat.le_of_ble_eq_true rfl) (by decide) rfl (Nat.le_of_ble_eq_true rfl) (by decide)) (mt_in (x := (gv w 61 14)) (y := x) (z := y)) (fun _ _ q => by rw [q.1]) ?_
    rintro r20 w ⟨rfl, rfl⟩
    try dsimp only
    by_cases in20 : (x).toInt ≤ ((gv w 61 14)).toInt ∧ ((gv w 61 14)).toInt ≤ (y).toInt
    · rw [decide_eq_true in20, show tq_b true = (1 : Int32) from rfl]
      refine hq_F.st (s' := (32, _, _, _)) hg182_23 rfl rfl rfl (hs_if (ci_ne (by omega)) rfl) ?_
      refine hq_F.st (s' := (33, _, _, _)) hg182_32 rfl rfl rfl (hs_al g0) ?_
      refine hq_F.st (s' := (34, _, _, _)) hg182_33 rfl rfl rfl (hs_al g0) ?_
      refine hq_F.st (s' := (37, _, _, _)) hg182_34 rfl rfl rfl (hq_gf hC sh_61 sk_11_162 (sy_v hC (by decide) rfl)) ?_
      refine sy_pf hg182_37 hC sh_61 sk_11_188 (lo := -2147483648) (hi := 2147483647) rfl (af_i32 _) rfl rfl rfl (fun w1 hC1 hw1 => ?_)
      refine hq_F.st (s' := (41, _, _, _)) hg182_40 rfl rfl rfl (hs_al g0) ?_
      refine hq_F.call hg182_41 rfl rfl si_11_181 (by decide) (by decide) sz_176 (sy_argsV hC1 sh_61 rfl rfl rfl (Nat.le_of_ble_eq_true rfl) rfl (Nat.le_of_ble_eq_true rfl) rfl (by decide)) (mt_adv (d := d) (h.fr hC1 ((wpF hw1).cov (M := [(61, 18, 19)]) (by decide)) (by decide)) (by omega)) (fun _ _ q => by rw [q.2.1.1.1, hC1.1]) ?_
      rintro r41 w8 ⟨rfl, k1, k2⟩
      try dsimp only
      refine hq_F.st (s' := (45, _, _, _)) hg182_44 rfl rfl rfl rfl ?_
      refine hq_F.en hg182_45 rfl rfl ?_
      exact Or.inl ⟨rfl, by omega, by omega, k1, ((wpF hw1).cov (by decide)).tr (k2.cov (by decide)), by rw [gv_eq (k2 61 18 (by decide)), wpv hw1, if_pos ⟨rfl, rfl⟩]; exact f3⟩
    · rw [decide_eq_false in20, show tq_b false = (0 : Int32) from rfl]
      refine hq_F.st (s' := (26, _, _, _)) hg182_23 rfl rfl rfl (hs_ifn (t := 32) (ci_nen (by omega)) rfl) ?_
      refine hq_F.st (s' := (27, _, _, _)) hg182_26 rfl rfl rfl (hs_al g0) ?_
      refine hq_F.st (s' := (28, _, _, _)) hg182_27 rfl rfl rfl rfl ?_
      refine hq_F.call hg182_28 rfl rfl si_11_178 (by decide) (by decide) sz_177 (sy_argsV hC sh_61 rfl rfl rfl (Nat.le_of_ble_eq_true rfl) rfl (Nat.le_of_ble_eq_true rfl) rfl (by decide)) (mt_bad h ((Int32.ofInt 2))) (fun _ _ q => by rw [q.2.1.1.1, hC.1]) ?_
      rintro r28 w9 ⟨rfl, k1, k2, k3, k4⟩
      try dsimp only
      refine hq_F.en hg182_31 rfl rfl ?_
      exact Or.inr ⟨rfl, k1, k2, by omega, by rw [if_pos (by omega)]; exact ⟨by rw [k3]; decide, k4⟩⟩
  · skip
    refine hq_F.st (s' := (8, _, _, _)) hg182_5 rfl rfl rfl (hs_icn (t := 14) (ci_eqn (by omega)) rfl) ?_
    refine hq_F.st (s' := (9, _, _, _)) hg182_8 rfl rfl rfl (hs_al g0) ?_
    refine hq_F.st (s' := (10, _, _, _)) hg182_9 rfl rfl rfl rfl ?_
    refine hq_F.call hg182_10 rfl rfl si_11_178 (by decide) (by decide) sz_177 (sy_argsV hC sh_61 rfl rfl rfl (Nat.le_of_ble_eq_true rfl) rfl (Nat.le_of_ble_eq_true rfl) rfl (by decide)) (mt_bad h ((Int32.ofInt 1))) (fun _ _ q => by rw [q.2.1.1.1, hC.1]) ?_
    rintro r10 w9 ⟨rfl, k1, k2, k3, k4⟩
    try dsimp only
    refine hq_F.en hg182_13 rfl rfl ?_
    exact Or.inr ⟨rfl, k1, k2, by omega, by rw [if_neg (by omega)]; exact ⟨by rw [k3]; decide, k4⟩⟩
/-- none of m from i on is so -/
def tq_nn (p : Nat → Bool) : Nat → Nat → Bool
  | 0, _ => true
  | m + 1, i => !p i && tq_nn p m (i + 1)
theorem tq_nn_fi {p : Nat → Bool} : ∀ (m i : Nat), tq_nn p m i = true ↔ tq_fi p m i = -1
  | 0, _ => by simp [tq_nn, tq_fi]
  | m + 1, i => by
    rw [tq_nn, tq_fi, Bool.and_eq_true, tq_nn_fi m (i + 1)]
    cases p i with
    | true => simp
    | false => simp
theorem tq_nn_congr {p q : Nat → Bool} : ∀ (m i : Nat), (∀ k, i ≤ k → k < i + m → p k = q k) → tq_nn p m i = tq_nn q m i
  | 0, _, _ => rfl
  | m + 1, i, h => by
    rw [tq_nn, tq_nn, h i (Nat.le_refl _) (by omega), tq_nn_congr m (i + 1) (fun k h1 h2 => h k (by omega) (by omega))]
theorem mt_nml {d : Nat} {w : pi_W} (hC : af_Conf aw_Sh w) : ∀ (m i : Nat) (b : Bool) {lv : pi_L}, i + m = 29 → pi_get lv 0 = some (.ref 61) → pi_get lv 1 = some (.int (tq_b b)) → pi_get lv 2 = some (.int (Int32.ofNat i)) → hq_F d sm181 (fun r w' => w' = w ∧ r = some (.int (tq_b (b && tq_nn (fun k => decide (gl w 61 17 = gl w 67 k)) (29 - i) i)))) (16, lv, [], w) := by
  intro m
  induction m with
  | zero =>
    intro i b lv hm g0 g1 g2
    have ti : (Int32.ofNat i).toInt = (i : Int) := hn_t (by omega)
    have kc0 : (((Int8.ofInt 29).toInt32)).toInt = 29 := by decide
    have kz := sy_z0
    refine hq_F.st (s' := (17, _, _, _)) hg181_16 rfl rfl rfl (hs_iln g2) ?_
    refine hq_F.st (s' := (19, _, _, _)) hg181_17 rfl rfl rfl rfl ?_
    refine hq_F.st (s' := (52, _, _, _)) hg181_19 rfl rfl rfl (hs_ic (ci_ge (by omega)) rfl) ?_
    refine hq_F.st (s' := (53, _, _, _)) hg181_52 rfl rfl rfl (hs_iln g1) ?_
    refine hq_F.en hg181_53 rfl (sy_rb b) ?_
    exact ⟨rfl, by rw [show (29 - i) = 0 by omega, tq_nn, Bool.and_true]⟩
  | succ m ih =>
    intro i b lv hm g0 g1 g2
    have ti : (Int32.ofNat i).toInt = (i : Int) := hn_t (by omega)
    have kc0 : (((Int8.ofInt 29).toInt32)).toInt = 29 := by decide
    have kc1 : ((Int32.ofInt 0)).toInt = 0 := by decide
    have kc2 : ((Int32.ofInt 1)).toInt = 1 := by decide
    have kz := sy_z0
    refine hq_F.st (s' := (17, _, _, _)) hg181_16 rfl rfl rfl (hs_iln g2) ?_
    refine hq_F.st (s' := (19, _, _, _)) hg181_17 rfl rfl rfl rfl ?_
    refine hq_F.st (s' := (22, _, _, _)) hg181_19 rfl rfl rfl (hs_icn (t := 52) (ci_gen (by omega)) rfl) ?_
    refine hq_F.st (s' := (23, _, _, _)) hg181_22 rfl rfl rfl (hs_iln g1) ?_
    by_cases b23 : (tq_b b).toInt = 0
    · skip
      refine hq_F.st (s' := (44, _, _, _)) hg181_23 rfl rfl rfl (hs_if (ci_eq (by omega)) rfl) ?_
      refine hq_F.st (s' := (45, _, _, _)) hg181_44 rfl rfl rfl rfl ?_
      refine hq_F.st (s' := (46, _, _, _)) hg181_45 rfl rfl rfl rfl ?_
      refine hq_F.st (s' := (49, _, _, _)) hg181_46 rfl rfl rfl (hs_inc (hg_ne g2 (by decide)) (by decide)) ?_
      refine hq_F.st (s' := (16, _, _, _)) hg181_49 rfl rfl rfl rfl ?_
      have e1 : (b && !decide (gl w 61 17 = gl w 67 i)) = false := by
        rw [tq_b_t] at b23
        cases b
        · rfl
        · simp at b23
      rw [show (29 - i) = (29 - (i + 1)) + 1 by omega, tq_nn, ← Bool.and_assoc, e1]
      exact ih (i + 1) false (by omega) (hg_nr (hg_nr g0 (by decide)) (by decide)) (hg_ne (pi_get_set _ _ _) (by decide)) (by rw [← hn_s]; exact (pi_get_set _ _ _))
    · skip
      refine hq_F.st (s' := (26, _, _, _)) hg181_23 rfl rfl rfl (hs_ifn (t := 44) (ci_eqn (by omega)) rfl) ?_
      refine hq_F.st (s' := (27, _, _, _)) hg181_26 rfl rfl rfl (hs_al g0) ?_
      refine hq_F.st (s' := (30, _, _, _)) hg181_27 rfl rfl rfl (hq_gf hC sh_61 sk_11_165 (sy_vl hC sh_61 rfl)) ?_
      refine hq_F.st (s' := (31, _, _, _)) hg181_30 rfl rfl rfl (hs_al g0) ?_
      refine hq_F.st (s' := (34, _, _, _)) hg181_31 rfl rfl rfl (hq_gf hC sh_61 sk_11_47 (hq_ref hC sh_61 (b := 67) rfl)) ?_
      refine hq_F.st (s' := (35, _, _, _)) hg181_34 rfl rfl rfl (hs_iln g2) ?_
      refine hq_F.st (s' := (36, _, _, _)) hg181_35 rfl rfl rfl (sy_la hC sh_67 (n := i) (hn_t (by omega)) (by omega)) ?_
      refine hq_F.st (s' := (37, _, _, _)) hg181_36 rfl rfl rfl rfl ?_
      by_cases b37 : ((lg_cmp (gl w 61 17) (gl w 67 i))).toInt = 0
      · skip
        refine hq_F.st (s' := (44, _, _, _)) hg181_37 rfl rfl rfl (hs_if (ci_eq (by omega)) rfl) ?_
        refine hq_F.st (s' := (45, _, _, _)) hg181_44 rfl rfl rfl rfl ?_
        refine hq_F.st (s' := (46, _, _, _)) hg181_45 rfl rfl rfl rfl ?_
        refine hq_F.st (s' := (49, _, _, _)) hg181_46 rfl rfl rfl (hs_inc (hg_ne g2 (by decide)) (by decide)) ?_
        refine hq_F.st (s' := (16, _, _, _)) hg181_49 rfl rfl rfl rfl ?_
        have e1 : (b && !decide (gl w 61 17 = gl w 67 i)) = false := by
          rw [lg_cmp0] at b37
          rw [decide_eq_true b37]
          simp
        rw [show (29 - i) = (29 - (i + 1)) + 1 by omega, tq_nn, ← Bool.and_assoc, e1]
        exact ih (i + 1) false (by omega) (hg_nr (hg_nr g0 (by decide)) (by decide)) (hg_ne (pi_get_set _ _ _) (by decide)) (by rw [← hn_s]; exact (pi_get_set _ _ _))
      · skip
        refine hq_F.st (s' := (40, _, _, _)) hg181_37 rfl rfl rfl (hs_ifn (t := 44) (ci_eqn (by omega)) rfl) ?_
        refine hq_F.st (s' := (41, _, _, _)) hg181_40 rfl rfl rfl rfl ?_
        refine hq_F.st (s' := (45, _, _, _)) hg181_41 rfl rfl rfl rfl ?_
        refine hq_F.st (s' := (46, _, _, _)) hg181_45 rfl rfl rfl rfl ?_
        refine hq_F.st (s' := (49, _, _, _)) hg181_46 rfl rfl rfl (hs_inc (hg_ne g2 (by decide)) (by decide)) ?_
        refine hq_F.st (s' := (16, _, _, _)) hg181_49 rfl rfl rfl rfl ?_
        have e1 : (b && !decide (gl w 61 17 = gl w 67 i)) = true := by
          rw [tq_b_t] at b23
          rw [lg_cmp0] at b37
          rw [decide_eq_false b37]
          cases b
          · simp at b23
          · rfl
        rw [show (29 - i) = (29 - (i + 1)) + 1 by omega, tq_nn, ← Bool.and_assoc, e1]
        exact ih (i + 1) true (by omega) (hg_nr (hg_nr g0 (by decide)) (by decide)) (hg_ne (pi_get_set _ _ _) (by decide)) (by rw [← hn_s]; exact (pi_get_set _ _ _))
theorem mt_isN {d B M : Nat} {tp : Nat → Nat} {w : pi_W} {t : tq_T} (h : MT tp B M w t) : hq_F d sm181 (fun r w' => w' = w ∧ r = some (.int (tq_b (decide (t.1 = 2 ∧ tq_kx t.2.2.2.1 = -1))))) (0, lv_args 0 [.ref 61], [], w) := by
  obtain ⟨hC, hP, hM, hV, ⟨f1, f2, f3, f4, f6⟩, hW1, hW2, hW3⟩ := id h
  have hm := tq_mk_c hW2 f1
  have g0 : pi_get (lv_args 0 [.ref 61]) 0 = some (.ref 61) := rfl
  have hnm : t.1 = 2 → tq_nn (fun k => decide (gl w 61 17 = gl w 67 k)) 29 0 = decide (t.1 = 2 ∧ tq_kx t.2.2.2.1 = -1) := by
    intro h2
    have hw := hW3 h2
    have e : tq_nn (fun k => decide (gl w 61 17 = gl w 67 k)) 29 0 = tq_nn (fun k => decide (tq_kw.getD k [] = t.2.2.2.1)) 29 0 := by
      refine tq_nn_congr 29 0 (fun k _ hk => ?_)
      have hk : k < 29 := by omega
      have hq := tq_kw_ok k hk
      rw [decide_eq_decide, f4 h2, hV k hk]
      constructor
      · intro q
        exact (tq_inj256 _ _ _ (Nat.le_refl _) hw.1 hq.1 (tq_of64 (tq_c256_lt7 hw.1 hw.2) (tq_c256_lt7 hq.1 hq.2) q)).symm
      · intro q
        rw [q]
    rw [e]
    have e2 := tq_nn_fi (p := fun k => decide (tq_kw.getD k [] = t.2.2.2.1)) 29 0
    unfold tq_kx
    cases hx : tq_nn (fun k => decide (tq_kw.getD k [] = t.2.2.2.1)) 29 0 with
    | true => rw [decide_eq_true ⟨h2, e2.mp hx⟩]
    | false => rw [decide_eq_false (fun q => by rw [e2.mpr q.2] at hx; cases hx)]
  have kc0 : ((Int32.ofInt 0)).toInt = 0 := by decide
  have kc1 : ((Int32.ofInt 1)).toInt = 1 := by decide
  have kz := sy_z0
  refine hq_F.st (s' := (1, _, _, _)) hg181_0 rfl rfl rfl (hs_al g0) ?_
  refine hq_F.st (s' := (4, _, _, _)) hg181_1 rfl rfl rfl (hq_gf hC sh_61 sk_11_152 (sy_v hC (by decide) rfl)) ?_
  refine hq_F.st (s' := (5, _, _, _)) hg181_4 rfl rfl rfl rfl ?_
  by_cases b5 : ¬ ((gv w 61 11)).toInt = 1
  · skip
    refine hq_F.st (s' := (12, _, _, _)) hg181_5 rfl rfl rfl (hs_ic (ci_ne (by omega)) rfl) ?_
    refine hq_F.st (s' := (13, _, _, _)) hg181_12 rfl rfl rfl rfl ?_
    refine hq_F.st (s' := (14, _, _, _)) hg181_13 rfl rfl rfl rfl ?_
    refine hq_F.st (s' := (15, _, _, _)) hg181_14 rfl rfl rfl rfl ?_
    refine hq_F.st (s' := (16, _, _, _)) hg181_15 rfl rfl rfl rfl ?_
    refine (mt_nml hC 29 0 false (by omega) (hg_nr (hg_nr g0 (by decide)) (by decide)) (hg_ne (pi_get_set _ _ _) (by decide)) (pi_get_set _ _ _)).imp ?_
    rintro r w2 ⟨rfl, rfl⟩
    refine ⟨rfl, ?_⟩
    rw [Bool.false_and, decide_eq_false (fun q => absurd q.1 (by omega))]
  · skip
    refine hq_F.st (s' := (8, _, _, _)) hg181_5 rfl rfl rfl (hs_icn (t := 12) (ci_nen (by omega)) rfl) ?_
    refine hq_F.st (s' := (9, _, _, _)) hg181_8 rfl rfl rfl rfl ?_
    refine hq_F.st (s' := (13, _, _, _)) hg181_9 rfl rfl rfl rfl ?_
    refine hq_F.st (s' := (14, _, _, _)) hg181_13 rfl rfl rfl rfl ?_
    refine hq_F.st (s' := (15, _, _, _)) hg181_14 rfl rfl rfl rfl ?_
    refine hq_F.st (s' := (16, _, _, _)) hg181_15 rfl rfl rfl rfl ?_
    refine (mt_nml hC 29 0 true (by omega) (hg_nr (hg_nr g0 (by decide)) (by decide)) (hg_ne (pi_get_set _ _ _) (by decide)) (pi_get_set _ _ _)).imp ?_
    rintro r w2 ⟨rfl, rfl⟩
    refine ⟨rfl, ?_⟩
    rw [Bool.true_and, hnm (by omega)]
