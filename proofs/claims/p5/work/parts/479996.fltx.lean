/-! ===== fault on both sides; by program ===== -/
theorem sk_10_145 : pi_look pi_fT 10 145 = some (9, 10, 188) := rfl
def sm114 : pi_M := (10, 1, (some .int), false, mc_114)
def sm193 : pi_M := (11, 1, (some .int), false, mc_193)
set_option maxRecDepth 100000 in
theorem sz_114 : pi_mt[114]? = some (mn_114, prog_1_method_5_code, (10, 1, (some .int), false, mc_114)) := rfl
set_option maxRecDepth 100000 in
theorem sz_193 : pi_mt[193]? = some (mn_193, prog_13_method_33_code, (11, 1, (some .int), false, mc_193)) := rfl
theorem hj114_0 : pi_fetch mc_114 0 = some (.aload_n 0, 1) := rfl
theorem hj114_1 : pi_fetch mc_114 1 = some (.getfield 12, 3) := rfl
theorem hj114_4 : pi_fetch mc_114 4 = some (.getfield 145, 3) := rfl
theorem hj114_7 : pi_fetch mc_114 7 = some (.ireturn, 1) := rfl
theorem hj193_0 : pi_fetch mc_193 0 = some (.aload_n 0, 1) := rfl
theorem hj193_1 : pi_fetch mc_193 1 = some (.iconst 0, 1) := rfl
theorem hj193_2 : pi_fetch mc_193 2 = some (.putfield 1, 3) := rfl
theorem hj193_5 : pi_fetch mc_193 5 = some (.aload_n 0, 1) := rfl
theorem hj193_6 : pi_fetch mc_193 6 = some (.getfield 169, 3) := rfl
theorem hj193_9 : pi_fetch mc_193 9 = some (.ireturn, 1) := rfl
theorem cx_fault {d : Nat} {w : pi_W} (hC : af_Conf aw_Sh w) : hq_F d sm114 (fun r _ => r = some (.int (gv w 1 10))) (0, lv_args 0 [.ref 0], [], w) := by
  have g0 : pi_get (lv_args 0 [.ref 0]) 0 = some (.ref 0) := rfl
  have kc0 : ((0 : Int32)).toInt = 0 := by decide
  have kc1 : ((1 : Int32)).toInt = 1 := by decide
  have kz := sy_z0
  refine hq_F.st (s' := (1, _, _, _)) hj114_0 rfl rfl rfl (hs_al g0) ?_
  refine hq_F.st (s' := (4, _, _, _)) hj114_1 rfl rfl rfl (hq_gf hC sh_0 sk_10_12 (hq_ref hC sh_0 (b := 1) rfl)) ?_
  refine hq_F.st (s' := (7, _, _, _)) hj114_4 rfl rfl rfl (hq_gf hC sh_1 sk_10_145 (sy_v hC (by decide) rfl)) ?_
  refine hq_F.en hj114_7 rfl (pi_ri _) ?_
  rfl
theorem mx_fault {d : Nat} {w : pi_W} (hC : af_Conf aw_Sh w) : hq_F d sm193 (fun r _ => r = some (.int (gv w 61 15))) (0, lv_args 0 [.ref 61], [], w) := by
  have g0 : pi_get (lv_args 0 [.ref 61]) 0 = some (.ref 61) := rfl
  have kc0 : ((0 : Int32)).toInt = 0 := by decide
  have kc1 : ((1 : Int32)).toInt = 1 := by decide
  have kc2 : ((Int32.ofInt 0)).toInt = 0 := by decide
  have kz := sy_z0
  refine hq_F.st (s' := (1, _, _, _)) hj193_0 rfl rfl rfl (hs_al g0) ?_
  refine hq_F.st (s' := (2, _, _, _)) hj193_1 rfl rfl rfl rfl ?_
  refine sy_pf hj193_2 hC sh_61 sk_11_1 (lo := -2147483648) (hi := 2147483647) rfl (af_i32 _) rfl rfl rfl (fun w21 hC21 hw21 => ?_)
  refine hq_F.st (s' := (6, _, _, _)) hj193_5 rfl rfl rfl (hs_al g0) ?_
  refine hq_F.st (s' := (9, _, _, _)) hj193_6 rfl rfl rfl (hq_gf hC21 sh_61 sk_11_169 (sy_v hC21 (by decide) rfl)) ?_
  have q6 : (gv w21 61 15).toInt = (gv w 61 15).toInt := by rw [wpv hw21, if_neg (by decide)]
  refine hq_F.en hj193_9 rfl (pi_ri _) ?_
  exact congrArg (fun v => some (Value.int v)) (show gv w21 61 15 = gv w 61 15 from by rw [wpv hw21, if_neg (by decide)])
/-- the FAULT that a diary leaves -/
def dy_fk (tp : Nat → Nat) (B : Nat) (NT : List nt_E) (x : Int32) (v : Int) : Int := if 0 ≤ x.toInt ∧ x.toInt ≤ 1 then (match dy_lines tp B 400 NT 41 0 (tq_tok tp B 400 0) with
  | none => 0
  | some e => e.1) else v
theorem dc_fk {tp : Nat → Nat} {B : Nat} {NT : List nt_E} {x : Int32} {w w' : pi_W} {r : Option Value} (h : dc_Q tp B NT x w r w') : (gv w' 1 10).toInt = dy_fk tp B NT x (gv w 1 10).toInt := by
  unfold dy_fk
  rcases h with ⟨h1, h2⟩ | ⟨h1, ⟨h2, h3⟩ | ⟨k, p, h2, h3⟩⟩
  · rw [if_neg h1, h2]
  · rw [if_pos h1, h2, h3]
    decide
  · rw [if_pos h1, h2]
    exact h3.1
theorem dm_fk {tp : Nat → Nat} {B : Nat} {NT : List nt_E} {x : Int32} {w w' : pi_W} {r : Option Value} (h : dm_Q tp B NT x w r w') : (gv w' 61 15).toInt = dy_fk tp B NT x (gv w 61 15).toInt := by
  unfold dy_fk
  rcases h with ⟨h1, h2⟩ | ⟨h1, ⟨h2, h3⟩ | ⟨k, p, h2, h3⟩⟩
  · rw [if_neg h1, h2]
  · rw [if_pos h1, h2, h3]
    decide
  · rw [if_pos h1, h2]
    exact h3.1
