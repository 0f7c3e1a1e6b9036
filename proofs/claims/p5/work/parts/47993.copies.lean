/-! ===== copies of a LAND in the class; by program ===== -/
theorem sk_1_10 : pi_look pi_fT 1 10 = some (1, 0, 387) := rfl
theorem sk_1_25 : pi_look pi_fT 1 25 = some (1, 1, 388) := rfl
theorem sk_1_32 : pi_look pi_fT 1 32 = some (1, 2, 389) := rfl
theorem sk_1_46 : pi_look pi_fT 1 46 = some (1, 3, 390) := rfl
theorem sk_10_101 : pi_look pi_fT 10 101 = some (10, 14, 415) := rfl
theorem sk_10_304 : pi_look pi_fT 10 304 = some (1, 3, 391) := rfl
theorem sk_10_97 : pi_look pi_fT 10 97 = some (10, 13, 414) := rfl
theorem si_1_36 : pi_look pi_iT 1 36 = some (2, 11, 1, 1119) := rfl
theorem si_1_40 : pi_look pi_iT 1 40 = some (2, 36, 1, 1120) := rfl
theorem si_1_43 : pi_look pi_iT 1 43 = some (2, 81, 1, 1121) := rfl
theorem si_10_188 : pi_look pi_iT 10 188 = some (8, 0, 2, 632) := rfl
theorem si_10_296 : pi_look pi_iT 10 296 = some (2, 155, 1, 1111) := rfl
theorem si_10_300 : pi_look pi_iT 10 300 = some (2, 7, 3, 1115) := rfl
theorem si_10_307 : pi_look pi_iT 10 307 = some (2, 8, 3, 1126) := rfl
theorem si_10_333 : pi_look pi_iT 10 333 = some (5, 0, 5, 633) := rfl
theorem si_2_19 : pi_look pi_iT 2 19 = some (1, 161, 2, 629) := rfl
theorem si_2_23 : pi_look pi_iT 2 23 = some (8, 0, 2, 636) := rfl
theorem si_2_29 : pi_look pi_iT 2 29 = some (5, 0, 5, 637) := rfl
def sm11 : pi_M := (2, 2, none, false, mc_11)
def sm149 : pi_M := (10, 2, (some .boolean), false, mc_149)
def sm150 : pi_M := (10, 2, (some .boolean), false, mc_150)
def sm155 : pi_M := (10, 2, (some (.object "ReadBound$Image")), false, mc_155)
def sm161 : pi_M := (10, 2, none, false, mc_161)
def sm7 : pi_M := (1, 4, none, false, mc_7)
def sm8 : pi_M := (1, 4, none, false, mc_8)
def sf_38 : List (Nat ⊕ (Int × Int) ⊕ Unit) := match (aw_Sh[38]? : Option af_C) with
  | some (.inr (_, f)) => f
  | _ => []
theorem sh_38 : aw_Sh[38]? = some (.inr (1, sf_38)) := rfl
def sf_39 : List (Nat ⊕ (Int × Int) ⊕ Unit) := match (aw_Sh[39]? : Option af_C) with
  | some (.inr (_, f)) => f
  | _ => []
theorem sh_39 : aw_Sh[39]? = some (.inr (2, sf_39)) := rfl
def sf_40 : List (Nat × Int × Int) := match (aw_Sh[40]? : Option af_C) with
  | some (.inl (_, _, S)) => S
  | _ => []
theorem sh_40 : aw_Sh[40]? = some (.inl (0, 170, sf_40)) := rfl
def sf_41 : List (Nat × Int × Int) := match (aw_Sh[41]? : Option af_C) with
  | some (.inl (_, _, S)) => S
  | _ => []
theorem sh_41 : aw_Sh[41]? = some (.inl (2, 27, sf_41)) := rfl
def sf_42 : List (Nat ⊕ (Int × Int) ⊕ Unit) := match (aw_Sh[42]? : Option af_C) with
  | some (.inr (_, f)) => f
  | _ => []
theorem sh_42 : aw_Sh[42]? = some (.inr (4, sf_42)) := rfl
def sf_44 : List (Nat ⊕ (Int × Int) ⊕ Unit) := match (aw_Sh[44]? : Option af_C) with
  | some (.inr (_, f)) => f
  | _ => []
theorem sh_44 : aw_Sh[44]? = some (.inr (7, sf_44)) := rfl
def sf_49 : List (Nat ⊕ (Int × Int) ⊕ Unit) := match (aw_Sh[49]? : Option af_C) with
  | some (.inr (_, f)) => f
  | _ => []
theorem sh_49 : aw_Sh[49]? = some (.inr (1, sf_49)) := rfl
def sf_50 : List (Nat ⊕ (Int × Int) ⊕ Unit) := match (aw_Sh[50]? : Option af_C) with
  | some (.inr (_, f)) => f
  | _ => []
theorem sh_50 : aw_Sh[50]? = some (.inr (2, sf_50)) := rfl
def sf_51 : List (Nat × Int × Int) := match (aw_Sh[51]? : Option af_C) with
  | some (.inl (_, _, S)) => S
  | _ => []
theorem sh_51 : aw_Sh[51]? = some (.inl (0, 170, sf_51)) := rfl
def sf_52 : List (Nat × Int × Int) := match (aw_Sh[52]? : Option af_C) with
  | some (.inl (_, _, S)) => S
  | _ => []
theorem sh_52 : aw_Sh[52]? = some (.inl (2, 27, sf_52)) := rfl
def sf_53 : List (Nat ⊕ (Int × Int) ⊕ Unit) := match (aw_Sh[53]? : Option af_C) with
  | some (.inr (_, f)) => f
  | _ => []
theorem sh_53 : aw_Sh[53]? = some (.inr (4, sf_53)) := rfl
def sf_55 : List (Nat ⊕ (Int × Int) ⊕ Unit) := match (aw_Sh[55]? : Option af_C) with
  | some (.inr (_, f)) => f
  | _ => []
theorem sh_55 : aw_Sh[55]? = some (.inr (7, sf_55)) := rfl
set_option maxRecDepth 100000 in
theorem sz_149 : pi_mt[149]? = some (mn_149, prog_1_method_41_code, (10, 2, (some .boolean), false, mc_149)) := rfl
set_option maxRecDepth 100000 in
theorem sz_150 : pi_mt[150]? = some (mn_150, prog_1_method_42_code, (10, 2, (some .boolean), false, mc_150)) := rfl
set_option maxRecDepth 100000 in
theorem sz_155 : pi_mt[155]? = some (mn_155, prog_1_method_47_code, (10, 2, (some (.object "ReadBound$Image")), false, mc_155)) := rfl
set_option maxRecDepth 100000 in
theorem sz_161 : pi_mt[161]? = some (mn_161, prog_1_method_53_code, (10, 2, none, false, mc_161)) := rfl
set_option maxRecDepth 100000 in
theorem sz_36 : pi_mt[36]? = some (mn_36, prog_6_method_2_code, (4, 2, none, false, mc_36)) := rfl
set_option maxRecDepth 100000 in
theorem sz_7 : pi_mt[7]? = some (mn_7, prog_3_method_2_code, (1, 4, none, false, mc_7)) := rfl
set_option maxRecDepth 100000 in
theorem sz_8 : pi_mt[8]? = some (mn_8, prog_3_method_3_code, (1, 4, none, false, mc_8)) := rfl
set_option maxRecDepth 100000 in
theorem sz_81 : pi_mt[81]? = some (mn_81, prog_9_method_3_code, (7, 2, none, false, mc_81)) := rfl
theorem hj161_0 : pi_fetch mc_161 0 = some (.aload_n 0, 1) := rfl
theorem hj161_1 : pi_fetch mc_161 1 = some (.iconst 0, 1) := rfl
theorem hj161_2 : pi_fetch mc_161 2 = some (.aload_n 1, 1) := rfl
theorem hj161_3 : pi_fetch mc_161 3 = some (.iconst 0, 1) := rfl
theorem hj161_4 : pi_fetch mc_161 4 = some (.aload_n 0, 1) := rfl
theorem hj161_5 : pi_fetch mc_161 5 = some (.arraylength, 1) := rfl
theorem hj161_6 : pi_fetch mc_161 6 = some (.aload_n 1, 1) := rfl
theorem hj161_7 : pi_fetch mc_161 7 = some (.arraylength, 1) := rfl
theorem hj161_8 : pi_fetch mc_161 8 = some (.invokestatic 188, 3) := rfl
theorem hj161_11 : pi_fetch mc_161 11 = some (.invokestatic 333, 3) := rfl
theorem hj161_14 : pi_fetch mc_161 14 = some (.return_, 1) := rfl
theorem hj11_0 : pi_fetch mc_11 0 = some (.aload_n 1, 1) := rfl
theorem hj11_1 : pi_fetch mc_11 1 = some (.getfield 11, 3) := rfl
theorem hj11_4 : pi_fetch mc_11 4 = some (.aload_n 0, 1) := rfl
theorem hj11_5 : pi_fetch mc_11 5 = some (.getfield 11, 3) := rfl
theorem hj11_8 : pi_fetch mc_11 8 = some (.invokestatic 19, 3) := rfl
theorem hj11_11 : pi_fetch mc_11 11 = some (.aload_n 1, 1) := rfl
theorem hj11_12 : pi_fetch mc_11 12 = some (.getfield 15, 3) := rfl
theorem hj11_15 : pi_fetch mc_11 15 = some (.iconst 0, 1) := rfl
theorem hj11_16 : pi_fetch mc_11 16 = some (.aload_n 0, 1) := rfl
theorem hj11_17 : pi_fetch mc_11 17 = some (.getfield 15, 3) := rfl
theorem hj11_20 : pi_fetch mc_11 20 = some (.iconst 0, 1) := rfl
theorem hj11_21 : pi_fetch mc_11 21 = some (.aload_n 1, 1) := rfl
theorem hj11_22 : pi_fetch mc_11 22 = some (.getfield 15, 3) := rfl
theorem hj11_25 : pi_fetch mc_11 25 = some (.arraylength, 1) := rfl
theorem hj11_26 : pi_fetch mc_11 26 = some (.aload_n 0, 1) := rfl
theorem hj11_27 : pi_fetch mc_11 27 = some (.getfield 15, 3) := rfl
theorem hj11_30 : pi_fetch mc_11 30 = some (.arraylength, 1) := rfl
theorem hj11_31 : pi_fetch mc_11 31 = some (.invokestatic 23, 3) := rfl
theorem hj11_34 : pi_fetch mc_11 34 = some (.invokestatic 29, 3) := rfl
theorem hj11_37 : pi_fetch mc_11 37 = some (.return_, 1) := rfl
theorem hj7_0 : pi_fetch mc_7 0 = some (.aload_n 0, 1) := rfl
theorem hj7_1 : pi_fetch mc_7 1 = some (.getfield 10, 3) := rfl
theorem hj7_4 : pi_fetch mc_7 4 = some (.aload_n 1, 1) := rfl
theorem hj7_5 : pi_fetch mc_7 5 = some (.invokevirtual 36, 3) := rfl
theorem hj7_8 : pi_fetch mc_7 8 = some (.aload_n 0, 1) := rfl
theorem hj7_9 : pi_fetch mc_7 9 = some (.getfield 25, 3) := rfl
theorem hj7_12 : pi_fetch mc_7 12 = some (.aload_n 2, 1) := rfl
theorem hj7_13 : pi_fetch mc_7 13 = some (.invokevirtual 40, 3) := rfl
theorem hj7_16 : pi_fetch mc_7 16 = some (.aload_n 0, 1) := rfl
theorem hj7_17 : pi_fetch mc_7 17 = some (.getfield 32, 3) := rfl
theorem hj7_20 : pi_fetch mc_7 20 = some (.aload_n 3, 1) := rfl
theorem hj7_21 : pi_fetch mc_7 21 = some (.invokevirtual 43, 3) := rfl
theorem hj7_24 : pi_fetch mc_7 24 = some (.aload_n 0, 1) := rfl
theorem hj7_25 : pi_fetch mc_7 25 = some (.iconst 1, 1) := rfl
theorem hj7_26 : pi_fetch mc_7 26 = some (.putfield 46, 3) := rfl
theorem hj7_29 : pi_fetch mc_7 29 = some (.return_, 1) := rfl
theorem hj8_0 : pi_fetch mc_8 0 = some (.aload_n 1, 1) := rfl
theorem hj8_1 : pi_fetch mc_8 1 = some (.aload_n 0, 1) := rfl
theorem hj8_2 : pi_fetch mc_8 2 = some (.getfield 10, 3) := rfl
theorem hj8_5 : pi_fetch mc_8 5 = some (.invokevirtual 36, 3) := rfl
theorem hj8_8 : pi_fetch mc_8 8 = some (.aload_n 2, 1) := rfl
theorem hj8_9 : pi_fetch mc_8 9 = some (.aload_n 0, 1) := rfl
theorem hj8_10 : pi_fetch mc_8 10 = some (.getfield 25, 3) := rfl
theorem hj8_13 : pi_fetch mc_8 13 = some (.invokevirtual 40, 3) := rfl
theorem hj8_16 : pi_fetch mc_8 16 = some (.aload_n 3, 1) := rfl
theorem hj8_17 : pi_fetch mc_8 17 = some (.aload_n 0, 1) := rfl
theorem hj8_18 : pi_fetch mc_8 18 = some (.getfield 32, 3) := rfl
theorem hj8_21 : pi_fetch mc_8 21 = some (.invokevirtual 43, 3) := rfl
theorem hj8_24 : pi_fetch mc_8 24 = some (.return_, 1) := rfl
theorem hj149_0 : pi_fetch mc_149 0 = some (.iload_n 1, 1) := rfl
theorem hj149_1 : pi_fetch mc_149 1 = some (.ifCond .eq 10, 3) := rfl
theorem hj149_4 : pi_fetch mc_149 4 = some (.iload_n 1, 1) := rfl
theorem hj149_5 : pi_fetch mc_149 5 = some (.iconst 1, 1) := rfl
theorem hj149_6 : pi_fetch mc_149 6 = some (.if_icmp .eq 5, 3) := rfl
theorem hj149_9 : pi_fetch mc_149 9 = some (.iconst 0, 1) := rfl
theorem hj149_10 : pi_fetch mc_149 10 = some (.ireturn, 1) := rfl
theorem hj149_11 : pi_fetch mc_149 11 = some (.aload_n 0, 1) := rfl
theorem hj149_12 : pi_fetch mc_149 12 = some (.iload_n 1, 1) := rfl
theorem hj149_13 : pi_fetch mc_149 13 = some (.invokevirtual 296, 3) := rfl
theorem hj149_16 : pi_fetch mc_149 16 = some (.aload_n 0, 1) := rfl
theorem hj149_17 : pi_fetch mc_149 17 = some (.getfield 19, 3) := rfl
theorem hj149_20 : pi_fetch mc_149 20 = some (.aload_n 0, 1) := rfl
theorem hj149_21 : pi_fetch mc_149 21 = some (.getfield 44, 3) := rfl
theorem hj149_24 : pi_fetch mc_149 24 = some (.aload_n 0, 1) := rfl
theorem hj149_25 : pi_fetch mc_149 25 = some (.getfield 61, 3) := rfl
theorem hj149_28 : pi_fetch mc_149 28 = some (.invokevirtual 300, 3) := rfl
theorem hj149_31 : pi_fetch mc_149 31 = some (.iconst 1, 1) := rfl
theorem hj149_32 : pi_fetch mc_149 32 = some (.ireturn, 1) := rfl
theorem hj150_0 : pi_fetch mc_150 0 = some (.iload_n 1, 1) := rfl
theorem hj150_1 : pi_fetch mc_150 1 = some (.ifCond .eq 8, 3) := rfl
theorem hj150_4 : pi_fetch mc_150 4 = some (.iload_n 1, 1) := rfl
theorem hj150_5 : pi_fetch mc_150 5 = some (.iconst 1, 1) := rfl
theorem hj150_6 : pi_fetch mc_150 6 = some (.if_icmp .ne 14, 3) := rfl
theorem hj150_9 : pi_fetch mc_150 9 = some (.aload_n 0, 1) := rfl
theorem hj150_10 : pi_fetch mc_150 10 = some (.iload_n 1, 1) := rfl
theorem hj150_11 : pi_fetch mc_150 11 = some (.invokevirtual 296, 3) := rfl
theorem hj150_14 : pi_fetch mc_150 14 = some (.getfield 304, 3) := rfl
theorem hj150_17 : pi_fetch mc_150 17 = some (.ifCond .ne 5, 3) := rfl
theorem hj150_20 : pi_fetch mc_150 20 = some (.iconst 0, 1) := rfl
theorem hj150_21 : pi_fetch mc_150 21 = some (.ireturn, 1) := rfl
theorem hj150_22 : pi_fetch mc_150 22 = some (.aload_n 0, 1) := rfl
theorem hj150_23 : pi_fetch mc_150 23 = some (.iload_n 1, 1) := rfl
theorem hj150_24 : pi_fetch mc_150 24 = some (.invokevirtual 296, 3) := rfl
theorem hj150_27 : pi_fetch mc_150 27 = some (.aload_n 0, 1) := rfl
theorem hj150_28 : pi_fetch mc_150 28 = some (.getfield 19, 3) := rfl
theorem hj150_31 : pi_fetch mc_150 31 = some (.aload_n 0, 1) := rfl
theorem hj150_32 : pi_fetch mc_150 32 = some (.getfield 44, 3) := rfl
theorem hj150_35 : pi_fetch mc_150 35 = some (.aload_n 0, 1) := rfl
theorem hj150_36 : pi_fetch mc_150 36 = some (.getfield 61, 3) := rfl
theorem hj150_39 : pi_fetch mc_150 39 = some (.invokevirtual 307, 3) := rfl
theorem hj150_42 : pi_fetch mc_150 42 = some (.aload_n 0, 1) := rfl
theorem hj150_43 : pi_fetch mc_150 43 = some (.getfield 54, 3) := rfl
theorem hj150_46 : pi_fetch mc_150 46 = some (.invokevirtual 142, 3) := rfl
theorem hj150_49 : pi_fetch mc_150 49 = some (.iconst 1, 1) := rfl
theorem hj150_50 : pi_fetch mc_150 50 = some (.ireturn, 1) := rfl
theorem hj155_0 : pi_fetch mc_155 0 = some (.iload_n 1, 1) := rfl
theorem hj155_1 : pi_fetch mc_155 1 = some (.ifCond .ne 10, 3) := rfl
theorem hj155_4 : pi_fetch mc_155 4 = some (.aload_n 0, 1) := rfl
theorem hj155_5 : pi_fetch mc_155 5 = some (.getfield 97, 3) := rfl
theorem hj155_8 : pi_fetch mc_155 8 = some (.goto 7, 3) := rfl
theorem hj155_11 : pi_fetch mc_155 11 = some (.aload_n 0, 1) := rfl
theorem hj155_12 : pi_fetch mc_155 12 = some (.getfield 101, 3) := rfl
theorem hj155_15 : pi_fetch mc_155 15 = some (.areturn, 1) := rfl
theorem hq_F.both {d : Nat} {mi : pi_M} {Q Q' : Option Value → pi_W → Prop} {s : pi_S} (h : hq_F d mi Q s) (h' : hq_F d mi Q' s) : hq_F d mi (fun r w => Q r w ∧ Q' r w) s := by
  obtain ⟨n, r, w, h1, h2⟩ := h
  obtain ⟨n', r', w', h3, h4⟩ := h'
  have e1 := pi_more (k := n + n') h1 (by omega)
  have e2 := pi_more (k := n + n') h3 (by omega)
  rw [e1] at e2
  cases e2
  exact ⟨n, r, w, h1, h2, h4⟩
section AC
variable {pc a0 a1 m j : Nat} {lv : pi_L} {r : List Value} {w : pi_W} {n : Int32}
theorem sp_aci {f g : Nat → Int32} (h0 : w[a0]? = some (.inl (0, m, .inl f))) (h1 : w[a1]? = some (.inl (0, m, .inl g))) (hn : n = Int32.ofNat m) (hm : m < 1000) (hr : pi_cats r ≤ 8) : pi_spec 5 (pc, lv, .int n :: .int (Int32.ofInt 0) :: .ref a1 :: .int (Int32.ofInt 0) :: .ref a0 :: r, w) = some (pc + 3, lv, r, w.set a1 (.inl (0, m, .inl (va_cpy f g 0 0 m)))) := by
  subst hn
  have tm := hn_t hm
  obtain ⟨c1, c2⟩ := af_cl (x := Int32.ofNat m) (by omega)
  have e1 : (Int32.ofNat m).toNatClampNeg = m := by omega
  have z0 : (Int32.ofInt 0).toNatClampNeg = 0 := by decide
  have z1 : ¬ (Int32.ofInt 0) < 0 := by decide
  simp only [pi_spec, h0, h1, e1, z0]
  rw [if_pos ⟨hr, z1, z1, c1⟩, if_pos ⟨by omega, by omega⟩]
theorem sp_acl {f g : Nat → Int64} (h0 : w[a0]? = some (.inl (2, m, .inr (.inl f)))) (h1 : w[a1]? = some (.inl (2, m, .inr (.inl g)))) (hn : n = Int32.ofNat m) (hm : m < 1000) (hr : pi_cats r ≤ 8) : pi_spec 5 (pc, lv, .int n :: .int (Int32.ofInt 0) :: .ref a1 :: .int (Int32.ofInt 0) :: .ref a0 :: r, w) = some (pc + 3, lv, r, w.set a1 (.inl (2, m, .inr (.inl (va_cpy f g 0 0 m))))) := by
  subst hn
  have tm := hn_t hm
  obtain ⟨c1, c2⟩ := af_cl (x := Int32.ofNat m) (by omega)
  have e1 : (Int32.ofNat m).toNatClampNeg = m := by omega
  have z0 : (Int32.ofInt 0).toNatClampNeg = 0 := by decide
  have z1 : ¬ (Int32.ofInt 0) < 0 := by decide
  simp only [pi_spec, h0, h1, e1, z0]
  rw [if_pos ⟨hr, z1, z1, c1⟩, if_pos ⟨by omega, by omega⟩]
theorem aci_c {f g : Nat → Int32} (h0 : w[a0]? = some (.inl (0, m, .inl f))) (h1 : w[a1]? = some (.inl (0, m, .inl g))) (hj : j < m) : gv (w.set a1 (.inl (0, m, .inl (va_cpy f g 0 0 m)))) a1 j = gv w a0 j := by
  have e1 : gv w a0 j = f j := gv_of (by
    unfold af_wloc
    rw [h0]
    simp only [af_cloc, if_pos hj])
  rw [e1]
  refine gv_of ?_
  rw [af_wloc_set h1, if_pos rfl]
  simp only [af_cloc, if_pos hj, va_cpy]
  rw [if_pos (by omega), Nat.sub_zero, Nat.zero_add]
theorem acl_c {f g : Nat → Int64} (h0 : w[a0]? = some (.inl (2, m, .inr (.inl f)))) (h1 : w[a1]? = some (.inl (2, m, .inr (.inl g)))) (hj : j < m) : gl (w.set a1 (.inl (2, m, .inr (.inl (va_cpy f g 0 0 m))))) a1 j = gl w a0 j := by
  have e1 : gl w a0 j = f j := gl_of (by
    unfold af_wloc
    rw [h0]
    simp only [af_cloc, if_pos hj])
  rw [e1]
  refine gl_of ?_
  rw [af_wloc_set h1, if_pos rfl]
  simp only [af_cloc, if_pos hj, va_cpy]
  rw [if_pos (by omega), Nat.sub_zero, Nat.zero_add]
theorem ac_i {S : List (Nat × Int × Int)} (hC : af_Conf aw_Sh w) (hSh : aw_Sh[a0]? = some (.inl (0, m, S))) : ∃ f : Nat → Int32, w[a0]? = some (.inl (0, m, .inl f)) := by
  obtain ⟨e, he, hoc⟩ := hC.at hSh
  obtain ⟨fn, rfl, -⟩ := af_okA.int (by decide) hoc
  exact ⟨fn, he⟩
theorem ac_l {S : List (Nat × Int × Int)} (hC : af_Conf aw_Sh w) (hSh : aw_Sh[a0]? = some (.inl (2, m, S))) : ∃ f : Nat → Int64, w[a0]? = some (.inl (2, m, .inr (.inl f))) := by
  obtain ⟨e, he, hoc⟩ := hC.at hSh
  have h2 : ∃ f, e = .inl (2, m, .inr (.inl f)) := hoc
  obtain ⟨f, rfl⟩ := h2
  exact ⟨f, he⟩
end AC
theorem cc_min (x : Int32) : (if x < x then x else x) = x := by split <;> rfl
theorem cc_copy {d a0 a1 m : Nat} {S0 S1 : List (Nat × Int × Int)} {w : pi_W} (hC : af_Conf aw_Sh w) (h0 : aw_Sh[a0]? = some (.inl (0, m, S0))) (h1 : aw_Sh[a1]? = some (.inl (0, m, S1))) (hm : m < 1000) : hq_F d sm161 (fun _ w' => ∀ j, j < m → gv w' a1 j = gv w a0 j) (0, lv_args 0 [.ref a0, .ref a1], [], w) := by
  have g0 : pi_get (lv_args 0 [.ref a0, .ref a1]) 0 = some (.ref a0) := rfl
  have g1 : pi_get (lv_args 0 [.ref a0, .ref a1]) 1 = some (.ref a1) := rfl
  obtain ⟨f, e0⟩ := ac_i hC h0
  obtain ⟨g, e1⟩ := ac_i hC h1
  refine hq_F.st (s' := (1, _, _, _)) hj161_0 rfl rfl rfl (hs_al g0) ?_
  refine hq_F.st (s' := (2, _, _, _)) hj161_1 rfl rfl rfl rfl ?_
  refine hq_F.st (s' := (3, _, _, _)) hj161_2 rfl rfl rfl (sy_al g1) ?_
  refine hq_F.st (s' := (4, _, _, _)) hj161_3 rfl rfl rfl rfl ?_
  refine hq_F.st (s' := (5, _, _, _)) hj161_4 rfl rfl rfl (hs_al g0) ?_
  refine hq_F.st (s' := (6, _, _, _)) hj161_5 rfl rfl rfl (sy_len hC h0) ?_
  refine hq_F.st (s' := (7, _, _, _)) hj161_6 rfl rfl rfl (sy_al g1) ?_
  refine hq_F.st (s' := (8, _, _, _)) hj161_7 rfl rfl rfl (sy_len hC h1) ?_
  refine sy_spec hj161_8 rfl rfl si_10_188 (by decide) (by decide) (by decide) rfl ?_
  rw [cc_min]
  refine sy_spec hj161_11 rfl rfl si_10_333 (by decide) (by decide) (by decide) (sp_aci e0 e1 rfl hm (Nat.zero_le _)) ?_
  refine hq_F.en hj161_14 rfl rfl ?_
  exact fun j hj => aci_c e0 e1 hj
theorem cc_4_7 {d : Nat} {w : pi_W} (hC : af_Conf aw_Sh w) : hq_F (d + 2) sm11 (fun r w' => r = none ∧ af_Conf aw_Sh w' ∧ af_Fr [(5, 0, 170), (6, 0, 27)] w w' ∧ (∀ j, j < 170 → gv w' 5 j = gv w 8 j) ∧ ∀ j, j < 27 → gl w' 6 j = gl w 9 j) (0, lv_args 0 [.ref 4, .ref 7], [], w) := by
  have hq : hq_F (d + 2) sm11 (fun _ w' => (∀ j, j < 170 → gv w' 5 j = gv w 8 j) ∧ ∀ j, j < 27 → gl w' 6 j = gl w 9 j) (0, lv_args 0 [.ref 4, .ref 7], [], w) := by
    have g0 : pi_get (lv_args 0 [.ref 4, .ref 7]) 0 = some (.ref 4) := rfl
    have g1 : pi_get (lv_args 0 [.ref 4, .ref 7]) 1 = some (.ref 7) := rfl
    have kc0 : ((Int32.ofInt 0)).toInt = 0 := by decide
    have kc1 : ((Int32.ofNat 27)).toInt = 27 := by decide
    have kz := sy_z0
    refine hq_F.st (s' := (1, _, _, _)) hj11_0 rfl rfl rfl (sy_al g1) ?_
    refine hq_F.st (s' := (4, _, _, _)) hj11_1 rfl rfl rfl (hq_gf hC sh_7 sk_2_11 (hq_ref hC sh_7 (b := 8) rfl)) ?_
    refine hq_F.st (s' := (5, _, _, _)) hj11_4 rfl rfl rfl (hs_al g0) ?_
    refine hq_F.st (s' := (8, _, _, _)) hj11_5 rfl rfl rfl (hq_gf hC sh_4 sk_2_11 (hq_ref hC sh_4 (b := 5) rfl)) ?_
    refine hq_F.call hj11_8 rfl rfl si_2_19 (by decide) (by decide) sz_161 (sy_argsS rfl rfl rfl (Nat.le_of_ble_eq_true rfl) (by decide) rfl (Nat.le_of_ble_eq_true rfl) (by decide)) ((cl_void (d := d + 1) (sh := [.inr (.inl 8), .inr (.inl 5)]) ah_95 (by omega) pz_161 hC rfl (show af_St 0 (fun _ => 0) [.inr (.inl 8), .inr (.inl 5)] [.ref 8, .ref 5] from ⟨rfl, rfl, trivial⟩) (by decide)).both (cc_copy hC sh_8 sh_5 (by decide))) (fun _ _ q => by rw [q.1.2.1.1, hC.1]) ?_
    rintro r8 w1 ⟨⟨rfl, hC1, F1⟩, c1⟩
    try dsimp only
    refine hq_F.st (s' := (12, _, _, _)) hj11_11 rfl rfl rfl (sy_al g1) ?_
    refine hq_F.st (s' := (15, _, _, _)) hj11_12 rfl rfl rfl (hq_gf hC1 sh_7 sk_2_15 (hq_ref hC1 sh_7 (b := 9) rfl)) ?_
    refine hq_F.st (s' := (16, _, _, _)) hj11_15 rfl rfl rfl rfl ?_
    refine hq_F.st (s' := (17, _, _, _)) hj11_16 rfl rfl rfl (hs_al g0) ?_
    refine hq_F.st (s' := (20, _, _, _)) hj11_17 rfl rfl rfl (hq_gf hC1 sh_4 sk_2_15 (hq_ref hC1 sh_4 (b := 6) rfl)) ?_
    refine hq_F.st (s' := (21, _, _, _)) hj11_20 rfl rfl rfl rfl ?_
    refine hq_F.st (s' := (22, _, _, _)) hj11_21 rfl rfl rfl (sy_al g1) ?_
    refine hq_F.st (s' := (25, _, _, _)) hj11_22 rfl rfl rfl (hq_gf hC1 sh_7 sk_2_15 (hq_ref hC1 sh_7 (b := 9) rfl)) ?_
    refine hq_F.st (s' := (26, _, _, _)) hj11_25 rfl rfl rfl (sy_len hC1 sh_9) ?_
    refine hq_F.st (s' := (27, _, _, _)) hj11_26 rfl rfl rfl (hs_al g0) ?_
    refine hq_F.st (s' := (30, _, _, _)) hj11_27 rfl rfl rfl (hq_gf hC1 sh_4 sk_2_15 (hq_ref hC1 sh_4 (b := 6) rfl)) ?_
    refine hq_F.st (s' := (31, _, _, _)) hj11_30 rfl rfl rfl (sy_len hC1 sh_6) ?_
    refine sy_spec hj11_31 rfl rfl si_2_23 (by decide) (by decide) (by decide) rfl ?_
    obtain ⟨f, e0⟩ := ac_l hC1 sh_9
    obtain ⟨g, e1⟩ := ac_l hC1 sh_6
    rw [cc_min]
    refine sy_spec hj11_34 rfl rfl si_2_29 (by decide) (by decide) (by decide) (sp_acl e0 e1 rfl (by decide) (Nat.zero_le _)) ?_
    refine hq_F.en hj11_37 rfl rfl ?_
    refine ⟨fun j hj => ?_, fun j hj => ?_⟩
    · rw [← c1 j hj]
      exact gv_eq (by rw [af_wloc_set e1, if_neg (by decide)])
    · rw [acl_c e0 e1 hj]
      exact gl_eq (hq_cell F1 (by decide))
  refine ((cl_void (d := d + 2) (sh := [.inr (.inl 4), .inr (.inl 7)]) ah_96 (by omega) pz_11 hC rfl (show af_St 0 (fun _ => 0) [.inr (.inl 4), .inr (.inl 7)] [.ref 4, .ref 7] from ⟨rfl, rfl, trivial⟩) (by decide)).both hq).imp ?_
  rintro r w' ⟨⟨q1, q2, q3⟩, q4, q5⟩
  exact ⟨q1, q2, q3, q4, q5⟩
theorem cc_39_4 {d : Nat} {w : pi_W} (hC : af_Conf aw_Sh w) : hq_F (d + 2) sm11 (fun r w' => r = none ∧ af_Conf aw_Sh w' ∧ af_Fr [(40, 0, 170), (41, 0, 27)] w w' ∧ (∀ j, j < 170 → gv w' 40 j = gv w 5 j) ∧ ∀ j, j < 27 → gl w' 41 j = gl w 6 j) (0, lv_args 0 [.ref 39, .ref 4], [], w) := by
  have hq : hq_F (d + 2) sm11 (fun _ w' => (∀ j, j < 170 → gv w' 40 j = gv w 5 j) ∧ ∀ j, j < 27 → gl w' 41 j = gl w 6 j) (0, lv_args 0 [.ref 39, .ref 4], [], w) := by
    have g0 : pi_get (lv_args 0 [.ref 39, .ref 4]) 0 = some (.ref 39) := rfl
    have g1 : pi_get (lv_args 0 [.ref 39, .ref 4]) 1 = some (.ref 4) := rfl
    have kc0 : ((Int32.ofInt 0)).toInt = 0 := by decide
    have kc1 : ((Int32.ofNat 27)).toInt = 27 := by decide
    have kz := sy_z0
    refine hq_F.st (s' := (1, _, _, _)) hj11_0 rfl rfl rfl (sy_al g1) ?_
    refine hq_F.st (s' := (4, _, _, _)) hj11_1 rfl rfl rfl (hq_gf hC sh_4 sk_2_11 (hq_ref hC sh_4 (b := 5) rfl)) ?_
    refine hq_F.st (s' := (5, _, _, _)) hj11_4 rfl rfl rfl (hs_al g0) ?_
    refine hq_F.st (s' := (8, _, _, _)) hj11_5 rfl rfl rfl (hq_gf hC sh_39 sk_2_11 (hq_ref hC sh_39 (b := 40) rfl)) ?_
    refine hq_F.call hj11_8 rfl rfl si_2_19 (by decide) (by decide) sz_161 (sy_argsS rfl rfl rfl (Nat.le_of_ble_eq_true rfl) (by decide) rfl (Nat.le_of_ble_eq_true rfl) (by decide)) ((cl_void (d := d + 1) (sh := [.inr (.inl 5), .inr (.inl 40)]) ah_336 (by omega) pz_161 hC rfl (show af_St 0 (fun _ => 0) [.inr (.inl 5), .inr (.inl 40)] [.ref 5, .ref 40] from ⟨rfl, rfl, trivial⟩) (by decide)).both (cc_copy hC sh_5 sh_40 (by decide))) (fun _ _ q => by rw [q.1.2.1.1, hC.1]) ?_
    rintro r8 w1 ⟨⟨rfl, hC1, F1⟩, c1⟩
    try dsimp only
    refine hq_F.st (s' := (12, _, _, _)) hj11_11 rfl rfl rfl (sy_al g1) ?_
    refine hq_F.st (s' := (15, _, _, _)) hj11_12 rfl rfl rfl (hq_gf hC1 sh_4 sk_2_15 (hq_ref hC1 sh_4 (b := 6) rfl)) ?_
    refine hq_F.st (s' := (16, _, _, _)) hj11_15 rfl rfl rfl rfl ?_
    refine hq_F.st (s' := (17, _, _, _)) hj11_16 rfl rfl rfl (hs_al g0) ?_
    refine hq_F.st (s' := (20, _, _, _)) hj11_17 rfl rfl rfl (hq_gf hC1 sh_39 sk_2_15 (hq_ref hC1 sh_39 (b := 41) rfl)) ?_
    refine hq_F.st (s' := (21, _, _, _)) hj11_20 rfl rfl rfl rfl ?_
    refine hq_F.st (s' := (22, _, _, _)) hj11_21 rfl rfl rfl (sy_al g1) ?_
    refine hq_F.st (s' := (25, _, _, _)) hj11_22 rfl rfl rfl (hq_gf hC1 sh_4 sk_2_15 (hq_ref hC1 sh_4 (b := 6) rfl)) ?_
    refine hq_F.st (s' := (26, _, _, _)) hj11_25 rfl rfl rfl (sy_len hC1 sh_6) ?_
    refine hq_F.st (s' := (27, _, _, _)) hj11_26 rfl rfl rfl (hs_al g0) ?_
    refine hq_F.st (s' := (30, _, _, _)) hj11_27 rfl rfl rfl (hq_gf hC1 sh_39 sk_2_15 (hq_ref hC1 sh_39 (b := 41) rfl)) ?_
    refine hq_F.st (s' := (31, _, _, _)) hj11_30 rfl rfl rfl (sy_len hC1 sh_41) ?_
    refine sy_spec hj11_31 rfl rfl si_2_23 (by decide) (by decide) (by decide) rfl ?_
    obtain ⟨f, e0⟩ := ac_l hC1 sh_6
    obtain ⟨g, e1⟩ := ac_l hC1 sh_41
    rw [cc_min]
    refine sy_spec hj11_34 rfl rfl si_2_29 (by decide) (by decide) (by decide) (sp_acl e0 e1 rfl (by decide) (Nat.zero_le _)) ?_
    refine hq_F.en hj11_37 rfl rfl ?_
    refine ⟨fun j hj => ?_, fun j hj => ?_⟩
    · rw [← c1 j hj]
      exact gv_eq (by rw [af_wloc_set e1, if_neg (by decide)])
    · rw [acl_c e0 e1 hj]
      exact gl_eq (hq_cell F1 (by decide))
  refine ((cl_void (d := d + 2) (sh := [.inr (.inl 39), .inr (.inl 4)]) ah_337 (by omega) pz_11 hC rfl (show af_St 0 (fun _ => 0) [.inr (.inl 39), .inr (.inl 4)] [.ref 39, .ref 4] from ⟨rfl, rfl, trivial⟩) (by decide)).both hq).imp ?_
  rintro r w' ⟨⟨q1, q2, q3⟩, q4, q5⟩
  exact ⟨q1, q2, q3, q4, q5⟩
theorem cc_50_4 {d : Nat} {w : pi_W} (hC : af_Conf aw_Sh w) : hq_F (d + 2) sm11 (fun r w' => r = none ∧ af_Conf aw_Sh w' ∧ af_Fr [(51, 0, 170), (52, 0, 27)] w w' ∧ (∀ j, j < 170 → gv w' 51 j = gv w 5 j) ∧ ∀ j, j < 27 → gl w' 52 j = gl w 6 j) (0, lv_args 0 [.ref 50, .ref 4], [], w) := by
  have hq : hq_F (d + 2) sm11 (fun _ w' => (∀ j, j < 170 → gv w' 51 j = gv w 5 j) ∧ ∀ j, j < 27 → gl w' 52 j = gl w 6 j) (0, lv_args 0 [.ref 50, .ref 4], [], w) := by
    have g0 : pi_get (lv_args 0 [.ref 50, .ref 4]) 0 = some (.ref 50) := rfl
    have g1 : pi_get (lv_args 0 [.ref 50, .ref 4]) 1 = some (.ref 4) := rfl
    have kc0 : ((Int32.ofInt 0)).toInt = 0 := by decide
    have kc1 : ((Int32.ofNat 27)).toInt = 27 := by decide
    have kz := sy_z0
    refine hq_F.st (s' := (1, _, _, _)) hj11_0 rfl rfl rfl (sy_al g1) ?_
    refine hq_F.st (s' := (4, _, _, _)) hj11_1 rfl rfl rfl (hq_gf hC sh_4 sk_2_11 (hq_ref hC sh_4 (b := 5) rfl)) ?_
    refine hq_F.st (s' := (5, _, _, _)) hj11_4 rfl rfl rfl (hs_al g0) ?_
    refine hq_F.st (s' := (8, _, _, _)) hj11_5 rfl rfl rfl (hq_gf hC sh_50 sk_2_11 (hq_ref hC sh_50 (b := 51) rfl)) ?_
    refine hq_F.call hj11_8 rfl rfl si_2_19 (by decide) (by decide) sz_161 (sy_argsS rfl rfl rfl (Nat.le_of_ble_eq_true rfl) (by decide) rfl (Nat.le_of_ble_eq_true rfl) (by decide)) ((cl_void (d := d + 1) (sh := [.inr (.inl 5), .inr (.inl 51)]) ah_327 (by omega) pz_161 hC rfl (show af_St 0 (fun _ => 0) [.inr (.inl 5), .inr (.inl 51)] [.ref 5, .ref 51] from ⟨rfl, rfl, trivial⟩) (by decide)).both (cc_copy hC sh_5 sh_51 (by decide))) (fun _ _ q => by rw [q.1.2.1.1, hC.1]) ?_
    rintro r8 w1 ⟨⟨rfl, hC1, F1⟩, c1⟩
    try dsimp only
    refine hq_F.st (s' := (12, _, _, _)) hj11_11 rfl rfl rfl (sy_al g1) ?_
    refine hq_F.st (s' := (15, _, _, _)) hj11_12 rfl rfl rfl (hq_gf hC1 sh_4 sk_2_15 (hq_ref hC1 sh_4 (b := 6) rfl)) ?_
    refine hq_F.st (s' := (16, _, _, _)) hj11_15 rfl rfl rfl rfl ?_
    refine hq_F.st (s' := (17, _, _, _)) hj11_16 rfl rfl rfl (hs_al g0) ?_
    refine hq_F.st (s' := (20, _, _, _)) hj11_17 rfl rfl rfl (hq_gf hC1 sh_50 sk_2_15 (hq_ref hC1 sh_50 (b := 52) rfl)) ?_
    refine hq_F.st (s' := (21, _, _, _)) hj11_20 rfl rfl rfl rfl ?_
    refine hq_F.st (s' := (22, _, _, _)) hj11_21 rfl rfl rfl (sy_al g1) ?_
    refine hq_F.st (s' := (25, _, _, _)) hj11_22 rfl rfl rfl (hq_gf hC1 sh_4 sk_2_15 (hq_ref hC1 sh_4 (b := 6) rfl)) ?_
    refine hq_F.st (s' := (26, _, _, _)) hj11_25 rfl rfl rfl (sy_len hC1 sh_6) ?_
    refine hq_F.st (s' := (27, _, _, _)) hj11_26 rfl rfl rfl (hs_al g0) ?_
    refine hq_F.st (s' := (30, _, _, _)) hj11_27 rfl rfl rfl (hq_gf hC1 sh_50 sk_2_15 (hq_ref hC1 sh_50 (b := 52) rfl)) ?_
    refine hq_F.st (s' := (31, _, _, _)) hj11_30 rfl rfl rfl (sy_len hC1 sh_52) ?_
    refine sy_spec hj11_31 rfl rfl si_2_23 (by decide) (by decide) (by decide) rfl ?_
    obtain ⟨f, e0⟩ := ac_l hC1 sh_6
    obtain ⟨g, e1⟩ := ac_l hC1 sh_52
    rw [cc_min]
    refine sy_spec hj11_34 rfl rfl si_2_29 (by decide) (by decide) (by decide) (sp_acl e0 e1 rfl (by decide) (Nat.zero_le _)) ?_
    refine hq_F.en hj11_37 rfl rfl ?_
    refine ⟨fun j hj => ?_, fun j hj => ?_⟩
    · rw [← c1 j hj]
      exact gv_eq (by rw [af_wloc_set e1, if_neg (by decide)])
    · rw [acl_c e0 e1 hj]
      exact gl_eq (hq_cell F1 (by decide))
  refine ((cl_void (d := d + 2) (sh := [.inr (.inl 50), .inr (.inl 4)]) ah_328 (by omega) pz_11 hC rfl (show af_St 0 (fun _ => 0) [.inr (.inl 50), .inr (.inl 4)] [.ref 50, .ref 4] from ⟨rfl, rfl, trivial⟩) (by decide)).both hq).imp ?_
  rintro r w' ⟨⟨q1, q2, q3⟩, q4, q5⟩
  exact ⟨q1, q2, q3, q4, q5⟩
theorem cc_4_39 {d : Nat} {w : pi_W} (hC : af_Conf aw_Sh w) : hq_F (d + 2) sm11 (fun r w' => r = none ∧ af_Conf aw_Sh w' ∧ af_Fr [(5, 0, 170), (6, 0, 27)] w w' ∧ (∀ j, j < 170 → gv w' 5 j = gv w 40 j) ∧ ∀ j, j < 27 → gl w' 6 j = gl w 41 j) (0, lv_args 0 [.ref 4, .ref 39], [], w) := by
  have hq : hq_F (d + 2) sm11 (fun _ w' => (∀ j, j < 170 → gv w' 5 j = gv w 40 j) ∧ ∀ j, j < 27 → gl w' 6 j = gl w 41 j) (0, lv_args 0 [.ref 4, .ref 39], [], w) := by
    have g0 : pi_get (lv_args 0 [.ref 4, .ref 39]) 0 = some (.ref 4) := rfl
    have g1 : pi_get (lv_args 0 [.ref 4, .ref 39]) 1 = some (.ref 39) := rfl
    have kc0 : ((Int32.ofInt 0)).toInt = 0 := by decide
    have kc1 : ((Int32.ofNat 27)).toInt = 27 := by decide
    have kz := sy_z0
    refine hq_F.st (s' := (1, _, _, _)) hj11_0 rfl rfl rfl (sy_al g1) ?_
    refine hq_F.st (s' := (4, _, _, _)) hj11_1 rfl rfl rfl (hq_gf hC sh_39 sk_2_11 (hq_ref hC sh_39 (b := 40) rfl)) ?_
    refine hq_F.st (s' := (5, _, _, _)) hj11_4 rfl rfl rfl (hs_al g0) ?_
    refine hq_F.st (s' := (8, _, _, _)) hj11_5 rfl rfl rfl (hq_gf hC sh_4 sk_2_11 (hq_ref hC sh_4 (b := 5) rfl)) ?_
    refine hq_F.call hj11_8 rfl rfl si_2_19 (by decide) (by decide) sz_161 (sy_argsS rfl rfl rfl (Nat.le_of_ble_eq_true rfl) (by decide) rfl (Nat.le_of_ble_eq_true rfl) (by decide)) ((cl_void (d := d + 1) (sh := [.inr (.inl 40), .inr (.inl 5)]) ah_355 (by omega) pz_161 hC rfl (show af_St 0 (fun _ => 0) [.inr (.inl 40), .inr (.inl 5)] [.ref 40, .ref 5] from ⟨rfl, rfl, trivial⟩) (by decide)).both (cc_copy hC sh_40 sh_5 (by decide))) (fun _ _ q => by rw [q.1.2.1.1, hC.1]) ?_
    rintro r8 w1 ⟨⟨rfl, hC1, F1⟩, c1⟩
    try dsimp only
    refine hq_F.st (s' := (12, _, _, _)) hj11_11 rfl rfl rfl (sy_al g1) ?_
    refine hq_F.st (s' := (15, _, _, _)) hj11_12 rfl rfl rfl (hq_gf hC1 sh_39 sk_2_15 (hq_ref hC1 sh_39 (b := 41) rfl)) ?_
    refine hq_F.st (s' := (16, _, _, _)) hj11_15 rfl rfl rfl rfl ?_
    refine hq_F.st (s' := (17, _, _, _)) hj11_16 rfl rfl rfl (hs_al g0) ?_
    refine hq_F.st (s' := (20, _, _, _)) hj11_17 rfl rfl rfl (hq_gf hC1 sh_4 sk_2_15 (hq_ref hC1 sh_4 (b := 6) rfl)) ?_
    refine hq_F.st (s' := (21, _, _, _)) hj11_20 rfl rfl rfl rfl ?_
    refine hq_F.st (s' := (22, _, _, _)) hj11_21 rfl rfl rfl (sy_al g1) ?_
    refine hq_F.st (s' := (25, _, _, _)) hj11_22 rfl rfl rfl (hq_gf hC1 sh_39 sk_2_15 (hq_ref hC1 sh_39 (b := 41) rfl)) ?_
    refine hq_F.st (s' := (26, _, _, _)) hj11_25 rfl rfl rfl (sy_len hC1 sh_41) ?_
    refine hq_F.st (s' := (27, _, _, _)) hj11_26 rfl rfl rfl (hs_al g0) ?_
    refine hq_F.st (s' := (30, _, _, _)) hj11_27 rfl rfl rfl (hq_gf hC1 sh_4 sk_2_15 (hq_ref hC1 sh_4 (b := 6) rfl)) ?_
    refine hq_F.st (s' := (31, _, _, _)) hj11_30 rfl rfl rfl (sy_len hC1 sh_6) ?_
    refine sy_spec hj11_31 rfl rfl si_2_23 (by decide) (by decide) (by decide) rfl ?_
    obtain ⟨f, e0⟩ := ac_l hC1 sh_41
    obtain ⟨g, e1⟩ := ac_l hC1 sh_6
    rw [cc_min]
    refine sy_spec hj11_34 rfl rfl si_2_29 (by decide) (by decide) (by decide) (sp_acl e0 e1 rfl (by decide) (Nat.zero_le _)) ?_
    refine hq_F.en hj11_37 rfl rfl ?_
    refine ⟨fun j hj => ?_, fun j hj => ?_⟩
    · rw [← c1 j hj]
      exact gv_eq (by rw [af_wloc_set e1, if_neg (by decide)])
    · rw [acl_c e0 e1 hj]
      exact gl_eq (hq_cell F1 (by decide))
  refine ((cl_void (d := d + 2) (sh := [.inr (.inl 4), .inr (.inl 39)]) ah_356 (by omega) pz_11 hC rfl (show af_St 0 (fun _ => 0) [.inr (.inl 4), .inr (.inl 39)] [.ref 4, .ref 39] from ⟨rfl, rfl, trivial⟩) (by decide)).both hq).imp ?_
  rintro r w' ⟨⟨q1, q2, q3⟩, q4, q5⟩
  exact ⟨q1, q2, q3, q4, q5⟩
theorem cc_4_50 {d : Nat} {w : pi_W} (hC : af_Conf aw_Sh w) : hq_F (d + 2) sm11 (fun r w' => r = none ∧ af_Conf aw_Sh w' ∧ af_Fr [(5, 0, 170), (6, 0, 27)] w w' ∧ (∀ j, j < 170 → gv w' 5 j = gv w 51 j) ∧ ∀ j, j < 27 → gl w' 6 j = gl w 52 j) (0, lv_args 0 [.ref 4, .ref 50], [], w) := by
  have hq : hq_F (d + 2) sm11 (fun _ w' => (∀ j, j < 170 → gv w' 5 j = gv w 51 j) ∧ ∀ j, j < 27 → gl w' 6 j = gl w 52 j) (0, lv_args 0 [.ref 4, .ref 50], [], w) := by
    have g0 : pi_get (lv_args 0 [.ref 4, .ref 50]) 0 = some (.ref 4) := rfl
    have g1 : pi_get (lv_args 0 [.ref 4, .ref 50]) 1 = some (.ref 50) := rfl
    have kc0 : ((Int32.ofInt 0)).toInt = 0 := by decide
    have kc1 : ((Int32.ofNat 27)).toInt = 27 := by decide
    have kz := sy_z0
    refine hq_F.st (s' := (1, _, _, _)) hj11_0 rfl rfl rfl (sy_al g1) ?_
    refine hq_F.st (s' := (4, _, _, _)) hj11_1 rfl rfl rfl (hq_gf hC sh_50 sk_2_11 (hq_ref hC sh_50 (b := 51) rfl)) ?_
    refine hq_F.st (s' := (5, _, _, _)) hj11_4 rfl rfl rfl (hs_al g0) ?_
    refine hq_F.st (s' := (8, _, _, _)) hj11_5 rfl rfl rfl (hq_gf hC sh_4 sk_2_11 (hq_ref hC sh_4 (b := 5) rfl)) ?_
    refine hq_F.call hj11_8 rfl rfl si_2_19 (by decide) (by decide) sz_161 (sy_argsS rfl rfl rfl (Nat.le_of_ble_eq_true rfl) (by decide) rfl (Nat.le_of_ble_eq_true rfl) (by decide)) ((cl_void (d := d + 1) (sh := [.inr (.inl 51), .inr (.inl 5)]) ah_346 (by omega) pz_161 hC rfl (show af_St 0 (fun _ => 0) [.inr (.inl 51), .inr (.inl 5)] [.ref 51, .ref 5] from ⟨rfl, rfl, trivial⟩) (by decide)).both (cc_copy hC sh_51 sh_5 (by decide))) (fun _ _ q => by rw [q.1.2.1.1, hC.1]) ?_
    rintro r8 w1 ⟨⟨rfl, hC1, F1⟩, c1⟩
    try dsimp only
    refine hq_F.st (s' := (12, _, _, _)) hj11_11 rfl rfl rfl (sy_al g1) ?_
    refine hq_F.st (s' := (15, _, _, _)) hj11_12 rfl rfl rfl (hq_gf hC1 sh_50 sk_2_15 (hq_ref hC1 sh_50 (b := 52) rfl)) ?_
    refine hq_F.st (s' := (16, _, _, _)) hj11_15 rfl rfl rfl rfl ?_
    refine hq_F.st (s' := (17, _, _, _)) hj11_16 rfl rfl rfl (hs_al g0) ?_
    refine hq_F.st (s' := (20, _, _, _)) hj11_17 rfl rfl rfl (hq_gf hC1 sh_4 sk_2_15 (hq_ref hC1 sh_4 (b := 6) rfl)) ?_
    refine hq_F.st (s' := (21, _, _, _)) hj11_20 rfl rfl rfl rfl ?_
    refine hq_F.st (s' := (22, _, _, _)) hj11_21 rfl rfl rfl (sy_al g1) ?_
    refine hq_F.st (s' := (25, _, _, _)) hj11_22 rfl rfl rfl (hq_gf hC1 sh_50 sk_2_15 (hq_ref hC1 sh_50 (b := 52) rfl)) ?_
    refine hq_F.st (s' := (26, _, _, _)) hj11_25 rfl rfl rfl (sy_len hC1 sh_52) ?_
    refine hq_F.st (s' := (27, _, _, _)) hj11_26 rfl rfl rfl (hs_al g0) ?_
    refine hq_F.st (s' := (30, _, _, _)) hj11_27 rfl rfl rfl (hq_gf hC1 sh_4 sk_2_15 (hq_ref hC1 sh_4 (b := 6) rfl)) ?_
    refine hq_F.st (s' := (31, _, _, _)) hj11_30 rfl rfl rfl (sy_len hC1 sh_6) ?_
    refine sy_spec hj11_31 rfl rfl si_2_23 (by decide) (by decide) (by decide) rfl ?_
    obtain ⟨f, e0⟩ := ac_l hC1 sh_52
    obtain ⟨g, e1⟩ := ac_l hC1 sh_6
    rw [cc_min]
    refine sy_spec hj11_34 rfl rfl si_2_29 (by decide) (by decide) (by decide) (sp_acl e0 e1 rfl (by decide) (Nat.zero_le _)) ?_
    refine hq_F.en hj11_37 rfl rfl ?_
    refine ⟨fun j hj => ?_, fun j hj => ?_⟩
    · rw [← c1 j hj]
      exact gv_eq (by rw [af_wloc_set e1, if_neg (by decide)])
    · rw [acl_c e0 e1 hj]
      exact gl_eq (hq_cell F1 (by decide))
  refine ((cl_void (d := d + 2) (sh := [.inr (.inl 4), .inr (.inl 50)]) ah_347 (by omega) pz_11 hC rfl (show af_St 0 (fun _ => 0) [.inr (.inl 4), .inr (.inl 50)] [.ref 4, .ref 50] from ⟨rfl, rfl, trivial⟩) (by decide)).both hq).imp ?_
  rintro r w' ⟨⟨q1, q2, q3⟩, q4, q5⟩
  exact ⟨q1, q2, q3, q4, q5⟩
theorem ct_38 {d : Nat} {w : pi_W} (hC : af_Conf aw_Sh w) : hq_F (d + 3) sm7 (fun r w' => r = none ∧ af_Conf aw_Sh w' ∧ af_Fr [(38, 3, 4), (40, 0, 170), (41, 0, 27), (43, 0, 114), (44, 4, 5), (45, 0, 40), (46, 0, 40), (47, 0, 40)] w w' ∧ (∀ j, j < 170 → gv w' 40 j = gv w 5 j) ∧ ∀ j, j < 27 → gl w' 41 j = gl w 6 j) (0, lv_args 0 [.ref 38, .ref 4, .ref 11, .ref 17], [], w) := by
  have g0 : pi_get (lv_args 0 [.ref 38, .ref 4, .ref 11, .ref 17]) 0 = some (.ref 38) := rfl
  have g1 : pi_get (lv_args 0 [.ref 38, .ref 4, .ref 11, .ref 17]) 1 = some (.ref 4) := rfl
  have g2 : pi_get (lv_args 0 [.ref 38, .ref 4, .ref 11, .ref 17]) 2 = some (.ref 11) := rfl
  have g3 : pi_get (lv_args 0 [.ref 38, .ref 4, .ref 11, .ref 17]) 3 = some (.ref 17) := rfl
  have kc0 : ((Int32.ofInt 1)).toInt = 1 := by decide
  have kz := sy_z0
  refine hq_F.st (s' := (1, _, _, _)) hj7_0 rfl rfl rfl (hs_al g0) ?_
  refine hq_F.st (s' := (4, _, _, _)) hj7_1 rfl rfl rfl (hq_gf hC sh_38 sk_1_10 (hq_ref hC sh_38 (b := 39) rfl)) ?_
  refine hq_F.st (s' := (5, _, _, _)) hj7_4 rfl rfl rfl (sy_al g1) ?_
  refine hq_F.call hj7_5 rfl rfl si_1_36 (by decide) (by decide) sz_11 (sy_argsV hC sh_39 rfl rfl rfl (Nat.le_of_ble_eq_true rfl) rfl (Nat.le_of_ble_eq_true rfl) rfl (by decide)) (cc_39_4 (d := d) hC) (fun _ _ q => by rw [q.2.1.1, hC.1]) ?_
  rintro r5 v1 ⟨rfl, c1, f1, d1, e1⟩
  try dsimp only
  refine hq_F.st (s' := (9, _, _, _)) hj7_8 rfl rfl rfl (hs_al g0) ?_
  refine hq_F.st (s' := (12, _, _, _)) hj7_9 rfl rfl rfl (hq_gf c1 sh_38 sk_1_25 (hq_ref c1 sh_38 (b := 42) rfl)) ?_
  refine hq_F.st (s' := (13, _, _, _)) hj7_12 rfl rfl rfl (sy_al g2) ?_
  refine hq_F.call hj7_13 rfl rfl si_1_40 (by decide) (by decide) sz_36 (sy_argsV c1 sh_42 rfl rfl rfl (Nat.le_of_ble_eq_true rfl) rfl (Nat.le_of_ble_eq_true rfl) rfl (by decide)) (cl_void (d := d + 2) (sh := [.inr (.inl 42), .inr (.inl 11)]) ah_339 (by omega) pz_36 c1 rfl (⟨rfl, rfl, trivial⟩) (by decide)) (fun _ _ q => by rw [q.2.1.1, c1.1]) ?_
  rintro r13 v2 ⟨rfl, c2, f2⟩
  try dsimp only
  refine hq_F.st (s' := (17, _, _, _)) hj7_16 rfl rfl rfl (hs_al g0) ?_
  refine hq_F.st (s' := (20, _, _, _)) hj7_17 rfl rfl rfl (hq_gf c2 sh_38 sk_1_32 (hq_ref c2 sh_38 (b := 44) rfl)) ?_
  refine hq_F.st (s' := (21, _, _, _)) hj7_20 rfl rfl rfl (sy_al g3) ?_
  refine hq_F.call hj7_21 rfl rfl si_1_43 (by decide) (by decide) sz_81 (sy_argsV c2 sh_44 rfl rfl rfl (Nat.le_of_ble_eq_true rfl) rfl (Nat.le_of_ble_eq_true rfl) rfl (by decide)) (cl_void (d := d + 2) (sh := [.inr (.inl 44), .inr (.inl 17)]) ah_343 (by omega) pz_81 c2 rfl (⟨rfl, rfl, trivial⟩) (by decide)) (fun _ _ q => by rw [q.2.1.1, c2.1]) ?_
  rintro r21 v3 ⟨rfl, c3, f3⟩
  try dsimp only
  refine hq_F.st (s' := (25, _, _, _)) hj7_24 rfl rfl rfl (hs_al g0) ?_
  refine hq_F.st (s' := (26, _, _, _)) hj7_25 rfl rfl rfl rfl ?_
  refine sy_pf hj7_26 c3 sh_38 sk_1_46 (lo := 0) (hi := 1) rfl (by omega) (by decide) (by decide) rfl (fun w21 hC21 hw21 => ?_)
  refine hq_F.en hj7_29 rfl rfl ?_
  refine ⟨rfl, hC21, (f1.cov (by decide)).tr ((f2.cov (by decide)).tr ((f3.cov (by decide)).tr ((wpF hw21).cov (by decide)))), fun j hj => ?_, fun j hj => ?_⟩
  · rw [← d1 j hj, wpv hw21, if_neg (by omega)]
    exact (gv_eq (hq_cell f3 (by decide))).trans (gv_eq (hq_cell f2 (by decide)))
  · rw [← e1 j hj, wpvl hw21, if_neg (by omega)]
    exact (gl_eq (hq_cell f3 (by decide))).trans (gl_eq (hq_cell f2 (by decide)))
theorem cg_38 {d : Nat} {w : pi_W} (hC : af_Conf aw_Sh w) : hq_F (d + 3) sm8 (fun r w' => r = none ∧ af_Conf aw_Sh w' ∧ (∀ j, j < 170 → gv w' 5 j = gv w 40 j) ∧ ∀ j, j < 27 → gl w' 6 j = gl w 41 j) (0, lv_args 0 [.ref 38, .ref 4, .ref 11, .ref 17], [], w) := by
  have g0 : pi_get (lv_args 0 [.ref 38, .ref 4, .ref 11, .ref 17]) 0 = some (.ref 38) := rfl
  have g1 : pi_get (lv_args 0 [.ref 38, .ref 4, .ref 11, .ref 17]) 1 = some (.ref 4) := rfl
  have g2 : pi_get (lv_args 0 [.ref 38, .ref 4, .ref 11, .ref 17]) 2 = some (.ref 11) := rfl
  have g3 : pi_get (lv_args 0 [.ref 38, .ref 4, .ref 11, .ref 17]) 3 = some (.ref 17) := rfl
  have kz := sy_z0
  refine hq_F.st (s' := (1, _, _, _)) hj8_0 rfl rfl rfl (sy_al g1) ?_
  refine hq_F.st (s' := (2, _, _, _)) hj8_1 rfl rfl rfl (hs_al g0) ?_
  refine hq_F.st (s' := (5, _, _, _)) hj8_2 rfl rfl rfl (hq_gf hC sh_38 sk_1_10 (hq_ref hC sh_38 (b := 39) rfl)) ?_
  refine hq_F.call hj8_5 rfl rfl si_1_36 (by decide) (by decide) sz_11 (sy_argsV hC sh_4 rfl rfl rfl (Nat.le_of_ble_eq_true rfl) rfl (Nat.le_of_ble_eq_true rfl) rfl (by decide)) (cc_4_39 (d := d) hC) (fun _ _ q => by rw [q.2.1.1, hC.1]) ?_
  rintro r5 v1 ⟨rfl, c1, f1, d1, e1⟩
  try dsimp only
  refine hq_F.st (s' := (9, _, _, _)) hj8_8 rfl rfl rfl (sy_al g2) ?_
  refine hq_F.st (s' := (10, _, _, _)) hj8_9 rfl rfl rfl (hs_al g0) ?_
  refine hq_F.st (s' := (13, _, _, _)) hj8_10 rfl rfl rfl (hq_gf c1 sh_38 sk_1_25 (hq_ref c1 sh_38 (b := 42) rfl)) ?_
  refine hq_F.call hj8_13 rfl rfl si_1_40 (by decide) (by decide) sz_36 (sy_argsV c1 sh_11 rfl rfl rfl (Nat.le_of_ble_eq_true rfl) rfl (Nat.le_of_ble_eq_true rfl) rfl (by decide)) (cl_void (d := d + 2) (sh := [.inr (.inl 11), .inr (.inl 42)]) ah_358 (by omega) pz_36 c1 rfl (⟨rfl, rfl, trivial⟩) (by decide)) (fun _ _ q => by rw [q.2.1.1, c1.1]) ?_
  rintro r13 v2 ⟨rfl, c2, f2⟩
  try dsimp only
  refine hq_F.st (s' := (17, _, _, _)) hj8_16 rfl rfl rfl (sy_al g3) ?_
  refine hq_F.st (s' := (18, _, _, _)) hj8_17 rfl rfl rfl (hs_al g0) ?_
  refine hq_F.st (s' := (21, _, _, _)) hj8_18 rfl rfl rfl (hq_gf c2 sh_38 sk_1_32 (hq_ref c2 sh_38 (b := 44) rfl)) ?_
  refine hq_F.call hj8_21 rfl rfl si_1_43 (by decide) (by decide) sz_81 (sy_argsV c2 sh_17 rfl rfl rfl (Nat.le_of_ble_eq_true rfl) rfl (Nat.le_of_ble_eq_true rfl) rfl (by decide)) (cl_void (d := d + 2) (sh := [.inr (.inl 17), .inr (.inl 44)]) ah_362 (by omega) pz_81 c2 rfl (⟨rfl, rfl, trivial⟩) (by decide)) (fun _ _ q => by rw [q.2.1.1, c2.1]) ?_
  rintro r21 v3 ⟨rfl, c3, f3⟩
  try dsimp only
  refine hq_F.en hj8_24 rfl rfl ?_
  refine ⟨rfl, c3, fun j hj => ?_, fun j hj => ?_⟩
  · rw [← d1 j hj]
    exact (gv_eq (hq_cell f3 (by decide))).trans (gv_eq (hq_cell f2 (by decide)))
  · rw [← e1 j hj]
    exact (gl_eq (hq_cell f3 (by decide))).trans (gl_eq (hq_cell f2 (by decide)))
theorem ct_49 {d : Nat} {w : pi_W} (hC : af_Conf aw_Sh w) : hq_F (d + 3) sm7 (fun r w' => r = none ∧ af_Conf aw_Sh w' ∧ af_Fr [(49, 3, 4), (51, 0, 170), (52, 0, 27), (54, 0, 114), (55, 4, 5), (56, 0, 40), (57, 0, 40), (58, 0, 40)] w w' ∧ (∀ j, j < 170 → gv w' 51 j = gv w 5 j) ∧ ∀ j, j < 27 → gl w' 52 j = gl w 6 j) (0, lv_args 0 [.ref 49, .ref 4, .ref 11, .ref 17], [], w) := by
  have g0 : pi_get (lv_args 0 [.ref 49, .ref 4, .ref 11, .ref 17]) 0 = some (.ref 49) := rfl
  have g1 : pi_get (lv_args 0 [.ref 49, .ref 4, .ref 11, .ref 17]) 1 = some (.ref 4) := rfl
  have g2 : pi_get (lv_args 0 [.ref 49, .ref 4, .ref 11, .ref 17]) 2 = some (.ref 11) := rfl
  have g3 : pi_get (lv_args 0 [.ref 49, .ref 4, .ref 11, .ref 17]) 3 = some (.ref 17) := rfl
  have kc0 : ((Int32.ofInt 1)).toInt = 1 := by decide
  have kz := sy_z0
  refine hq_F.st (s' := (1, _, _, _)) hj7_0 rfl rfl rfl (hs_al g0) ?_
  refine hq_F.st (s' := (4, _, _, _)) hj7_1 rfl rfl rfl (hq_gf hC sh_49 sk_1_10 (hq_ref hC sh_49 (b := 50) rfl)) ?_
  refine hq_F.st (s' := (5, _, _, _)) hj7_4 rfl rfl rfl (sy_al g1) ?_
  refine hq_F.call hj7_5 rfl rfl si_1_36 (by decide) (by decide) sz_11 (sy_argsV hC sh_50 rfl rfl rfl (Nat.le_of_ble_eq_true rfl) rfl (Nat.le_of_ble_eq_true rfl) rfl (by decide)) (cc_50_4 (d := d) hC) (fun _ _ q => by rw [q.2.1.1, hC.1]) ?_
  rintro r5 v1 ⟨rfl, c1, f1, d1, e1⟩
  try dsimp only
  refine hq_F.st (s' := (9, _, _, _)) hj7_8 rfl rfl rfl (hs_al g0) ?_
  refine hq_F.st (s' := (12, _, _, _)) hj7_9 rfl rfl rfl (hq_gf c1 sh_49 sk_1_25 (hq_ref c1 sh_49 (b := 53) rfl)) ?_
  refine hq_F.st (s' := (13, _, _, _)) hj7_12 rfl rfl rfl (sy_al g2) ?_
  refine hq_F.call hj7_13 rfl rfl si_1_40 (by decide) (by decide) sz_36 (sy_argsV c1 sh_53 rfl rfl rfl (Nat.le_of_ble_eq_true rfl) rfl (Nat.le_of_ble_eq_true rfl) rfl (by decide)) (cl_void (d := d + 2) (sh := [.inr (.inl 53), .inr (.inl 11)]) ah_330 (by omega) pz_36 c1 rfl (⟨rfl, rfl, trivial⟩) (by decide)) (fun _ _ q => by rw [q.2.1.1, c1.1]) ?_
  rintro r13 v2 ⟨rfl, c2, f2⟩
  try dsimp only
  refine hq_F.st (s' := (17, _, _, _)) hj7_16 rfl rfl rfl (hs_al g0) ?_
  refine hq_F.st (s' := (20, _, _, _)) hj7_17 rfl rfl rfl (hq_gf c2 sh_49 sk_1_32 (hq_ref c2 sh_49 (b := 55) rfl)) ?_
  refine hq_F.st (s' := (21, _, _, _)) hj7_20 rfl rfl rfl (sy_al g3) ?_
  refine hq_F.call hj7_21 rfl rfl si_1_43 (by decide) (by decide) sz_81 (sy_argsV c2 sh_55 rfl rfl rfl (Nat.le_of_ble_eq_true rfl) rfl (Nat.le_of_ble_eq_true rfl) rfl (by decide)) (cl_void (d := d + 2) (sh := [.inr (.inl 55), .inr (.inl 17)]) ah_334 (by omega) pz_81 c2 rfl (⟨rfl, rfl, trivial⟩) (by decide)) (fun _ _ q => by rw [q.2.1.1, c2.1]) ?_
  rintro r21 v3 ⟨rfl, c3, f3⟩
  try dsimp only
  refine hq_F.st (s' := (25, _, _, _)) hj7_24 rfl rfl rfl (hs_al g0) ?_
  refine hq_F.st (s' := (26, _, _, _)) hj7_25 rfl rfl rfl rfl ?_
  refine sy_pf hj7_26 c3 sh_49 sk_1_46 (lo := 0) (hi := 1) rfl (by omega) (by decide) (by decide) rfl (fun w21 hC21 hw21 => ?_)
  refine hq_F.en hj7_29 rfl rfl ?_
  refine ⟨rfl, hC21, (f1.cov (by decide)).tr ((f2.cov (by decide)).tr ((f3.cov (by decide)).tr ((wpF hw21).cov (by decide)))), fun j hj => ?_, fun j hj => ?_⟩
  · rw [← d1 j hj, wpv hw21, if_neg (by omega)]
    exact (gv_eq (hq_cell f3 (by decide))).trans (gv_eq (hq_cell f2 (by decide)))
  · rw [← e1 j hj, wpvl hw21, if_neg (by omega)]
    exact (gl_eq (hq_cell f3 (by decide))).trans (gl_eq (hq_cell f2 (by decide)))
theorem cg_49 {d : Nat} {w : pi_W} (hC : af_Conf aw_Sh w) : hq_F (d + 3) sm8 (fun r w' => r = none ∧ af_Conf aw_Sh w' ∧ (∀ j, j < 170 → gv w' 5 j = gv w 51 j) ∧ ∀ j, j < 27 → gl w' 6 j = gl w 52 j) (0, lv_args 0 [.ref 49, .ref 4, .ref 11, .ref 17], [], w) := by
  have g0 : pi_get (lv_args 0 [.ref 49, .ref 4, .ref 11, .ref 17]) 0 = some (.ref 49) := rfl
  have g1 : pi_get (lv_args 0 [.ref 49, .ref 4, .ref 11, .ref 17]) 1 = some (.ref 4) := rfl
  have g2 : pi_get (lv_args 0 [.ref 49, .ref 4, .ref 11, .ref 17]) 2 = some (.ref 11) := rfl
  have g3 : pi_get (lv_args 0 [.ref 49, .ref 4, .ref 11, .ref 17]) 3 = some (.ref 17) := rfl
  have kz := sy_z0
  refine hq_F.st (s' := (1, _, _, _)) hj8_0 rfl rfl rfl (sy_al g1) ?_
  refine hq_F.st (s' := (2, _, _, _)) hj8_1 rfl rfl rfl (hs_al g0) ?_
  refine hq_F.st (s' := (5, _, _, _)) hj8_2 rfl rfl rfl (hq_gf hC sh_49 sk_1_10 (hq_ref hC sh_49 (b := 50) rfl)) ?_
  refine hq_F.call hj8_5 rfl rfl si_1_36 (by decide) (by decide) sz_11 (sy_argsV hC sh_4 rfl rfl rfl (Nat.le_of_ble_eq_true rfl) rfl (Nat.le_of_ble_eq_true rfl) rfl (by decide)) (cc_4_50 (d := d) hC) (fun _ _ q => by rw [q.2.1.1, hC.1]) ?_
  rintro r5 v1 ⟨rfl, c1, f1, d1, e1⟩
  try dsimp only
  refine hq_F.st (s' := (9, _, _, _)) hj8_8 rfl rfl rfl (sy_al g2) ?_
  refine hq_F.st (s' := (10, _, _, _)) hj8_9 rfl rfl rfl (hs_al g0) ?_
  refine hq_F.st (s' := (13, _, _, _)) hj8_10 rfl rfl rfl (hq_gf c1 sh_49 sk_1_25 (hq_ref c1 sh_49 (b := 53) rfl)) ?_
  refine hq_F.call hj8_13 rfl rfl si_1_40 (by decide) (by decide) sz_36 (sy_argsV c1 sh_11 rfl rfl rfl (Nat.le_of_ble_eq_true rfl) rfl (Nat.le_of_ble_eq_true rfl) rfl (by decide)) (cl_void (d := d + 2) (sh := [.inr (.inl 11), .inr (.inl 53)]) ah_349 (by omega) pz_36 c1 rfl (⟨rfl, rfl, trivial⟩) (by decide)) (fun _ _ q => by rw [q.2.1.1, c1.1]) ?_
  rintro r13 v2 ⟨rfl, c2, f2⟩
  try dsimp only
  refine hq_F.st (s' := (17, _, _, _)) hj8_16 rfl rfl rfl (sy_al g3) ?_
  refine hq_F.st (s' := (18, _, _, _)) hj8_17 rfl rfl rfl (hs_al g0) ?_
  refine hq_F.st (s' := (21, _, _, _)) hj8_18 rfl rfl rfl (hq_gf c2 sh_49 sk_1_32 (hq_ref c2 sh_49 (b := 55) rfl)) ?_
  refine hq_F.call hj8_21 rfl rfl si_1_43 (by decide) (by decide) sz_81 (sy_argsV c2 sh_17 rfl rfl rfl (Nat.le_of_ble_eq_true rfl) rfl (Nat.le_of_ble_eq_true rfl) rfl (by decide)) (cl_void (d := d + 2) (sh := [.inr (.inl 17), .inr (.inl 55)]) ah_353 (by omega) pz_81 c2 rfl (⟨rfl, rfl, trivial⟩) (by decide)) (fun _ _ q => by rw [q.2.1.1, c2.1]) ?_
  rintro r21 v3 ⟨rfl, c3, f3⟩
  try dsimp only
  refine hq_F.en hj8_24 rfl rfl ?_
  refine ⟨rfl, c3, fun j hj => ?_, fun j hj => ?_⟩
  · rw [← d1 j hj]
    exact (gv_eq (hq_cell f3 (by decide))).trans (gv_eq (hq_cell f2 (by decide)))
  · rw [← e1 j hj]
    exact (gl_eq (hq_cell f3 (by decide))).trans (gl_eq (hq_cell f2 (by decide)))
theorem ci_in0 {d : Nat} {w : pi_W} {x : Int32} (hC : af_Conf aw_Sh w) (hx : x.toInt = 0) : hq_F d sm155 (fun r w' => w' = w ∧ r = some (.ref 38)) (0, lv_args 0 [.ref 0, .int x], [], w) := by
  have g0 : pi_get (lv_args 0 [.ref 0, .int x]) 0 = some (.ref 0) := rfl
  have g1 : pi_get (lv_args 0 [.ref 0, .int x]) 1 = some (.int x) := rfl
  have kz := sy_z0
  refine hq_F.st (s' := (1, _, _, _)) hj155_0 rfl rfl rfl (hs_iln g1) ?_
  refine hq_F.st (s' := (4, _, _, _)) hj155_1 rfl rfl rfl (hs_ifn (t := 11) (ci_nen (by omega)) rfl) ?_
  refine hq_F.st (s' := (5, _, _, _)) hj155_4 rfl rfl rfl (hs_al g0) ?_
  refine hq_F.st (s' := (8, _, _, _)) hj155_5 rfl rfl rfl (hq_gf hC sh_0 sk_10_97 (hq_ref hC sh_0 (b := 38) rfl)) ?_
  refine hq_F.st (s' := (15, _, _, _)) hj155_8 rfl rfl rfl rfl ?_
  refine hq_F.en hj155_15 rfl rfl ?_
  exact ⟨rfl, rfl⟩
theorem ci_in1 {d : Nat} {w : pi_W} {x : Int32} (hC : af_Conf aw_Sh w) (hx : x.toInt = 1) : hq_F d sm155 (fun r w' => w' = w ∧ r = some (.ref 49)) (0, lv_args 0 [.ref 0, .int x], [], w) := by
  have g0 : pi_get (lv_args 0 [.ref 0, .int x]) 0 = some (.ref 0) := rfl
  have g1 : pi_get (lv_args 0 [.ref 0, .int x]) 1 = some (.int x) := rfl
  have kz := sy_z0
  refine hq_F.st (s' := (1, _, _, _)) hj155_0 rfl rfl rfl (hs_iln g1) ?_
  refine hq_F.st (s' := (11, _, _, _)) hj155_1 rfl rfl rfl (hs_if (ci_ne (by omega)) rfl) ?_
  refine hq_F.st (s' := (12, _, _, _)) hj155_11 rfl rfl rfl (hs_al g0) ?_
  refine hq_F.st (s' := (15, _, _, _)) hj155_12 rfl rfl rfl (hq_gf hC sh_0 sk_10_101 (hq_ref hC sh_0 (b := 49) rfl)) ?_
  refine hq_F.en hj155_15 rfl rfl ?_
  exact ⟨rfl, rfl⟩
theorem ci_im0 {d : Nat} {w : pi_W} {x : Int32} (hC : af_Conf aw_Sh w) (hx : x.toInt = 0) : hq_F (d + 4) sm149 (fun _ w' => af_Fr [(38, 3, 4), (40, 0, 170), (41, 0, 27), (43, 0, 114), (44, 4, 5), (45, 0, 40), (46, 0, 40), (47, 0, 40)] w w' ∧ (∀ j, j < 170 → gv w' 40 j = gv w 5 j) ∧ ∀ j, j < 27 → gl w' 41 j = gl w 6 j) (0, lv_args 0 [.ref 0, .int x], [], w) := by
  have g0 : pi_get (lv_args 0 [.ref 0, .int x]) 0 = some (.ref 0) := rfl
  have g1 : pi_get (lv_args 0 [.ref 0, .int x]) 1 = some (.int x) := rfl
  have kc0 : ((Int32.ofInt 1)).toInt = 1 := by decide
  have kz := sy_z0
  refine hq_F.st (s' := (1, _, _, _)) hj149_0 rfl rfl rfl (hs_iln g1) ?_
  refine hq_F.st (s' := (11, _, _, _)) hj149_1 rfl rfl rfl (hs_if (ci_eq (by omega)) rfl) ?_
  refine hq_F.st (s' := (12, _, _, _)) hj149_11 rfl rfl rfl (hs_al g0) ?_
  refine hq_F.st (s' := (13, _, _, _)) hj149_12 rfl rfl rfl (hs_iln g1) ?_
  refine hq_F.call hj149_13 rfl rfl si_10_296 (by decide) (by decide) sz_155 (sy_argsV hC sh_0 rfl rfl rfl (Nat.le_of_ble_eq_true rfl) rfl (Nat.le_of_ble_eq_true rfl) rfl (by decide)) (ci_in0 hC hx) (fun _ _ q => by rw [q.1]) ?_
  rintro r13 w ⟨rfl, rfl⟩
  try dsimp only
  refine hq_F.st (s' := (17, _, _, _)) hj149_16 rfl rfl rfl (hs_al g0) ?_
  refine hq_F.st (s' := (20, _, _, _)) hj149_17 rfl rfl rfl (hq_gf hC sh_0 sk_10_19 (hq_ref hC sh_0 (b := 4) rfl)) ?_
  refine hq_F.st (s' := (21, _, _, _)) hj149_20 rfl rfl rfl (hs_al g0) ?_
  refine hq_F.st (s' := (24, _, _, _)) hj149_21 rfl rfl rfl (hq_gf hC sh_0 sk_10_44 (hq_ref hC sh_0 (b := 11) rfl)) ?_
  refine hq_F.st (s' := (25, _, _, _)) hj149_24 rfl rfl rfl (hs_al g0) ?_
  refine hq_F.st (s' := (28, _, _, _)) hj149_25 rfl rfl rfl (hq_gf hC sh_0 sk_10_61 (hq_ref hC sh_0 (b := 17) rfl)) ?_
  refine hq_F.call hj149_28 rfl rfl si_10_300 (by decide) (by decide) sz_7 (sy_argsV hC sh_38 rfl rfl rfl (Nat.le_of_ble_eq_true rfl) rfl (Nat.le_of_ble_eq_true rfl) rfl (by decide)) (ct_38 (d := d) hC) (fun _ _ q => by rw [q.2.1.1, hC.1]) ?_
  rintro r28 v1 ⟨rfl, c1, f1, d1, e1⟩
  try dsimp only
  refine hq_F.st (s' := (32, _, _, _)) hj149_31 rfl rfl rfl rfl ?_
  refine hq_F.en hj149_32 rfl rfl ?_
  exact ⟨f1, d1, e1⟩
theorem ci_re0 {d : Nat} {w : pi_W} {x : Int32} (hC : af_Conf aw_Sh w) (hx : x.toInt = 0) : hq_F (d + 4) sm150 (fun _ w' => (¬ (gv w 38 3).toInt = 0 → (∀ j, j < 170 → gv w' 5 j = gv w 40 j) ∧ ∀ j, j < 27 → gl w' 6 j = gl w 41 j) ∧ ((gv w 38 3).toInt = 0 → (∀ j, j < 170 → gv w' 5 j = gv w 5 j) ∧ ∀ j, j < 27 → gl w' 6 j = gl w 6 j)) (0, lv_args 0 [.ref 0, .int x], [], w) := by
  have g0 : pi_get (lv_args 0 [.ref 0, .int x]) 0 = some (.ref 0) := rfl
  have g1 : pi_get (lv_args 0 [.ref 0, .int x]) 1 = some (.int x) := rfl
  have kc0 : ((Int32.ofInt 0)).toInt = 0 := by decide
  have kc1 : ((Int32.ofInt 1)).toInt = 1 := by decide
  have kz := sy_z0
  refine hq_F.st (s' := (1, _, _, _)) hj150_0 rfl rfl rfl (hs_iln g1) ?_
  refine hq_F.st (s' := (9, _, _, _)) hj150_1 rfl rfl rfl (hs_if (ci_eq (by omega)) rfl) ?_
  refine hq_F.st (s' := (10, _, _, _)) hj150_9 rfl rfl rfl (hs_al g0) ?_
  refine hq_F.st (s' := (11, _, _, _)) hj150_10 rfl rfl rfl (hs_iln g1) ?_
  refine hq_F.call hj150_11 rfl rfl si_10_296 (by decide) (by decide) sz_155 (sy_argsV hC sh_0 rfl rfl rfl (Nat.le_of_ble_eq_true rfl) rfl (Nat.le_of_ble_eq_true rfl) rfl (by decide)) (ci_in0 hC hx) (fun _ _ q => by rw [q.1]) ?_
  rintro r11 w ⟨rfl, rfl⟩
  try dsimp only
  refine hq_F.st (s' := (17, _, _, _)) hj150_14 rfl rfl rfl (hq_gf hC sh_38 sk_10_304 (sy_v hC (by decide) rfl)) ?_
  by_cases b17 : ¬ ((gv w 38 3)).toInt = 0
  · skip
    refine hq_F.st (s' := (22, _, _, _)) hj150_17 rfl rfl rfl (hs_if (ci_ne (by omega)) rfl) ?_
    refine hq_F.st (s' := (23, _, _, _)) hj150_22 rfl rfl rfl (hs_al g0) ?_
    refine hq_F.st (s' := (24, _, _, _)) hj150_23 rfl rfl rfl (hs_iln g1) ?_
    refine hq_F.call hj150_24 rfl rfl si_10_296 (by decide) (by decide) sz_155 (sy_argsV hC sh_0 rfl rfl rfl (Nat.le_of_ble_eq_true rfl) rfl (Nat.le_of_ble_eq_true rfl) rfl (by decide)) (ci_in0 hC hx) (fun _ _ q => by rw [q.1]) ?_
    rintro r24 w ⟨rfl, rfl⟩
    try dsimp only
    refine hq_F.st (s' := (28, _, _, _)) hj150_27 rfl rfl rfl (hs_al g0) ?_
    refine hq_F.st (s' := (31, _, _, _)) hj150_28 rfl rfl rfl (hq_gf hC sh_0 sk_10_19 (hq_ref hC sh_0 (b := 4) rfl)) ?_
    refine hq_F.st (s' := (32, _, _, _)) hj150_31 rfl rfl rfl (hs_al g0) ?_
    refine hq_F.st (s' := (35, _, _, _)) hj150_32 rfl rfl rfl (hq_gf hC sh_0 sk_10_44 (hq_ref hC sh_0 (b := 11) rfl)) ?_
    refine hq_F.st (s' := (36, _, _, _)) hj150_35 rfl rfl rfl (hs_al g0) ?_
    refine hq_F.st (s' := (39, _, _, _)) hj150_36 rfl rfl rfl (hq_gf hC sh_0 sk_10_61 (hq_ref hC sh_0 (b := 17) rfl)) ?_
    refine hq_F.call hj150_39 rfl rfl si_10_307 (by decide) (by decide) sz_8 (sy_argsV hC sh_38 rfl rfl rfl (Nat.le_of_ble_eq_true rfl) rfl (Nat.le_of_ble_eq_true rfl) rfl (by decide)) (cg_38 (d := d) hC) (fun _ _ q => by rw [q.2.1.1, hC.1]) ?_
    rintro r39 v1 ⟨rfl, c1, d1, e1⟩
    try dsimp only
    refine hq_F.st (s' := (43, _, _, _)) hj150_42 rfl rfl rfl (hs_al g0) ?_
    refine hq_F.st (s' := (46, _, _, _)) hj150_43 rfl rfl rfl (hq_gf c1 sh_0 sk_10_54 (hq_ref c1 sh_0 (b := 15) rfl)) ?_
    refine hq_F.call hj150_46 rfl rfl si_10_142 (by decide) (by decide) sz_71 (sy_argsV c1 sh_15 rfl rfl rfl (Nat.le_of_ble_eq_true rfl) rfl (Nat.le_of_ble_eq_true rfl) rfl (by decide)) (cl_void (d := d + 3) (sh := [.inr (.inl 15)]) ah_114 (by omega) pz_71 c1 rfl ⟨rfl, trivial⟩ (by decide)) (fun _ _ q => by rw [q.2.1.1, c1.1]) ?_
    rintro r46 v2 ⟨rfl, c2, f2⟩
    try dsimp only
    refine hq_F.st (s' := (50, _, _, _)) hj150_49 rfl rfl rfl rfl ?_
    refine hq_F.en hj150_50 rfl rfl ?_
    refine ⟨fun _ => ⟨fun j hj => ?_, fun j hj => ?_⟩, fun q => absurd q (by omega)⟩
    · rw [gv_eq (hq_cell f2 (by decide))]
      exact d1 j hj
    · rw [gl_eq (hq_cell f2 (by decide))]
      exact e1 j hj
  · skip
    refine hq_F.st (s' := (20, _, _, _)) hj150_17 rfl rfl rfl (hs_ifn (t := 22) (ci_nen (by omega)) rfl) ?_
    refine hq_F.st (s' := (21, _, _, _)) hj150_20 rfl rfl rfl rfl ?_
    refine hq_F.en hj150_21 rfl rfl ?_
    exact ⟨fun q => absurd q (by omega), fun _ => ⟨fun j hj => rfl, fun j hj => rfl⟩⟩
theorem ci_im1 {d : Nat} {w : pi_W} {x : Int32} (hC : af_Conf aw_Sh w) (hx : x.toInt = 1) : hq_F (d + 4) sm149 (fun _ w' => af_Fr [(49, 3, 4), (51, 0, 170), (52, 0, 27), (54, 0, 114), (55, 4, 5), (56, 0, 40), (57, 0, 40), (58, 0, 40)] w w' ∧ (∀ j, j < 170 → gv w' 51 j = gv w 5 j) ∧ ∀ j, j < 27 → gl w' 52 j = gl w 6 j) (0, lv_args 0 [.ref 0, .int x], [], w) := by
  have g0 : pi_get (lv_args 0 [.ref 0, .int x]) 0 = some (.ref 0) := rfl
  have g1 : pi_get (lv_args 0 [.ref 0, .int x]) 1 = some (.int x) := rfl
  have kc0 : ((Int32.ofInt 1)).toInt = 1 := by decide
  have kz := sy_z0
  refine hq_F.st (s' := (1, _, _, _)) hj149_0 rfl rfl rfl (hs_iln g1) ?_
  refine hq_F.st (s' := (4, _, _, _)) hj149_1 rfl rfl rfl (hs_ifn (t := 11) (ci_eqn (by omega)) rfl) ?_
  refine hq_F.st (s' := (5, _, _, _)) hj149_4 rfl rfl rfl (hs_iln g1) ?_
  refine hq_F.st (s' := (6, _, _, _)) hj149_5 rfl rfl rfl rfl ?_
  refine hq_F.st (s' := (11, _, _, _)) hj149_6 rfl rfl rfl (hs_ic (ci_eq (by omega)) rfl) ?_
  refine hq_F.st (s' := (12, _, _, _)) hj149_11 rfl rfl rfl (hs_al g0) ?_
  refine hq_F.st (s' := (13, _, _, _)) hj149_12 rfl rfl rfl (hs_iln g1) ?_
  refine hq_F.call hj149_13 rfl rfl si_10_296 (by decide) (by decide) sz_155 (sy_argsV hC sh_0 rfl rfl rfl (Nat.le_of_ble_eq_true rfl) rfl (Nat.le_of_ble_eq_true rfl) rfl (by decide)) (ci_in1 hC hx) (fun _ _ q => by rw [q.1]) ?_
  rintro r13 w ⟨rfl, rfl⟩
  try dsimp only
  refine hq_F.st (s' := (17, _, _, _)) hj149_16 rfl rfl rfl (hs_al g0) ?_
  refine hq_F.st (s' := (20, _, _, _)) hj149_17 rfl rfl rfl (hq_gf hC sh_0 sk_10_19 (hq_ref hC sh_0 (b := 4) rfl)) ?_
  refine hq_F.st (s' := (21, _, _, _)) hj149_20 rfl rfl rfl (hs_al g0) ?_
  refine hq_F.st (s' := (24, _, _, _)) hj149_21 rfl rfl rfl (hq_gf hC sh_0 sk_10_44 (hq_ref hC sh_0 (b := 11) rfl)) ?_
  refine hq_F.st (s' := (25, _, _, _)) hj149_24 rfl rfl rfl (hs_al g0) ?_
  refine hq_F.st (s' := (28, _, _, _)) hj149_25 rfl rfl rfl (hq_gf hC sh_0 sk_10_61 (hq_ref hC sh_0 (b := 17) rfl)) ?_
  refine hq_F.call hj149_28 rfl rfl si_10_300 (by decide) (by decide) sz_7 (sy_argsV hC sh_49 rfl rfl rfl (Nat.le_of_ble_eq_true rfl) rfl (Nat.le_of_ble_eq_true rfl) rfl (by decide)) (ct_49 (d := d) hC) (fun _ _ q => by rw [q.2.1.1, hC.1]) ?_
  rintro r28 v1 ⟨rfl, c1, f1, d1, e1⟩
  try dsimp only
  refine hq_F.st (s' := (32, _, _, _)) hj149_31 rfl rfl rfl rfl ?_
  refine hq_F.en hj149_32 rfl rfl ?_
  exact ⟨f1, d1, e1⟩
theorem ci_re1 {d : Nat} {w : pi_W} {x : Int32} (hC : af_Conf aw_Sh w) (hx : x.toInt = 1) : hq_F (d + 4) sm150 (fun _ w' => (¬ (gv w 49 3).toInt = 0 → (∀ j, j < 170 → gv w' 5 j = gv w 51 j) ∧ ∀ j, j < 27 → gl w' 6 j = gl w 52 j) ∧ ((gv w 49 3).toInt = 0 → (∀ j, j < 170 → gv w' 5 j = gv w 5 j) ∧ ∀ j, j < 27 → gl w' 6 j = gl w 6 j)) (0, lv_args 0 [.ref 0, .int x], [], w) := by
  have g0 : pi_get (lv_args 0 [.ref 0, .int x]) 0 = some (.ref 0) := rfl
  have g1 : pi_get (lv_args 0 [.ref 0, .int x]) 1 = some (.int x) := rfl
  have kc0 : ((Int32.ofInt 0)).toInt = 0 := by decide
  have kc1 : ((Int32.ofInt 1)).toInt = 1 := by decide
  have kz := sy_z0
  refine hq_F.st (s' := (1, _, _, _)) hj150_0 rfl rfl rfl (hs_iln g1) ?_
  refine hq_F.st (s' := (4, _, _, _)) hj150_1 rfl rfl rfl (hs_ifn (t := 9) (ci_eqn (by omega)) rfl) ?_
  refine hq_F.st (s' := (5, _, _, _)) hj150_4 rfl rfl rfl (hs_iln g1) ?_
  refine hq_F.st (s' := (6, _, _, _)) hj150_5 rfl rfl rfl rfl ?_
  refine hq_F.st (s' := (9, _, _, _)) hj150_6 rfl rfl rfl (hs_icn (t := 20) (ci_nen (by omega)) rfl) ?_
  refine hq_F.st (s' := (10, _, _, _)) hj150_9 rfl rfl rfl (hs_al g0) ?_
  refine hq_F.st (s' := (11, _, _, _)) hj150_10 rfl rfl rfl (hs_iln g1) ?_
  refine hq_F.call hj150_11 rfl rfl si_10_296 (by decide) (by decide) sz_155 (sy_argsV hC sh_0 rfl rfl rfl (Nat.le_of_ble_eq_true rfl) rfl (Nat.le_of_ble_eq_true rfl) rfl (by decide)) (ci_in1 hC hx) (fun _ _ q => by rw [q.1]) ?_
  rintro r11 w ⟨rfl, rfl⟩
  try dsimp only
  refine hq_F.st (s' := (17, _, _, _)) hj150_14 rfl rfl rfl (hq_gf hC sh_49 sk_10_304 (sy_v hC (by decide) rfl)) ?_
  by_cases b17 : ¬ ((gv w 49 3)).toInt = 0
  · skip
    refine hq_F.st (s' := (22, _, _, _)) hj150_17 rfl rfl rfl (hs_if (ci_ne (by omega)) rfl) ?_
    refine hq_F.st (s' := (23, _, _, _)) hj150_22 rfl rfl rfl (hs_al g0) ?_
    refine hq_F.st (s' := (24, _, _, _)) hj150_23 rfl rfl rfl (hs_iln g1) ?_
    refine hq_F.call hj150_24 rfl rfl si_10_296 (by decide) (by decide) sz_155 (sy_argsV hC sh_0 rfl rfl rfl (Nat.le_of_ble_eq_true rfl) rfl (Nat.le_of_ble_eq_true rfl) rfl (by decide)) (ci_in1 hC hx) (fun _ _ q => by rw [q.1]) ?_
    rintro r24 w ⟨rfl, rfl⟩
    try dsimp only
    refine hq_F.st (s' := (28, _, _, _)) hj150_27 rfl rfl rfl (hs_al g0) ?_
    refine hq_F.st (s' := (31, _, _, _)) hj150_28 rfl rfl rfl (hq_gf hC sh_0 sk_10_19 (hq_ref hC sh_0 (b := 4) rfl)) ?_
    refine hq_F.st (s' := (32, _, _, _)) hj150_31 rfl rfl rfl (hs_al g0) ?_
    refine hq_F.st (s' := (35, _, _, _)) hj150_32 rfl rfl rfl (hq_gf hC sh_0 sk_10_44 (hq_ref hC sh_0 (b := 11) rfl)) ?_
    refine hq_F.st (s' := (36, _, _, _)) hj150_35 rfl rfl rfl (hs_al g0) ?_
    refine hq_F.st (s' := (39, _, _, _)) hj150_36 rfl rfl rfl (hq_gf hC sh_0 sk_10_61 (hq_ref hC sh_0 (b := 17) rfl)) ?_
    refine hq_F.call hj150_39 rfl rfl si_10_307 (by decide) (by decide) sz_8 (sy_argsV hC sh_49 rfl rfl rfl (Nat.le_of_ble_eq_true rfl) rfl (Nat.le_of_ble_eq_true rfl) rfl (by decide)) (cg_49 (d := d) hC) (fun _ _ q => by rw [q.2.1.1, hC.1]) ?_
    rintro r39 v1 ⟨rfl, c1, d1, e1⟩
    try dsimp only
    refine hq_F.st (s' := (43, _, _, _)) hj150_42 rfl rfl rfl (hs_al g0) ?_
    refine hq_F.st (s' := (46, _, _, _)) hj150_43 rfl rfl rfl (hq_gf c1 sh_0 sk_10_54 (hq_ref c1 sh_0 (b := 15) rfl)) ?_
    refine hq_F.call hj150_46 rfl rfl si_10_142 (by decide) (by decide) sz_71 (sy_argsV c1 sh_15 rfl rfl rfl (Nat.le_of_ble_eq_true rfl) rfl (Nat.le_of_ble_eq_true rfl) rfl (by decide)) (cl_void (d := d + 3) (sh := [.inr (.inl 15)]) ah_114 (by omega) pz_71 c1 rfl ⟨rfl, trivial⟩ (by decide)) (fun _ _ q => by rw [q.2.1.1, c1.1]) ?_
    rintro r46 v2 ⟨rfl, c2, f2⟩
    try dsimp only
    refine hq_F.st (s' := (50, _, _, _)) hj150_49 rfl rfl rfl rfl ?_
    refine hq_F.en hj150_50 rfl rfl ?_
    refine ⟨fun _ => ⟨fun j hj => ?_, fun j hj => ?_⟩, fun q => absurd q (by omega)⟩
    · rw [gv_eq (hq_cell f2 (by decide))]
      exact d1 j hj
    · rw [gl_eq (hq_cell f2 (by decide))]
      exact e1 j hj
  · skip
    refine hq_F.st (s' := (20, _, _, _)) hj150_17 rfl rfl rfl (hs_ifn (t := 22) (ci_nen (by omega)) rfl) ?_
    refine hq_F.st (s' := (21, _, _, _)) hj150_20 rfl rfl rfl rfl ?_
    refine hq_F.en hj150_21 rfl rfl ?_
    exact ⟨fun q => absurd q (by omega), fun _ => ⟨fun j hj => rfl, fun j hj => rfl⟩⟩
theorem ci_imN {d : Nat} {w : pi_W} {x : Int32} (h0 : ¬ x.toInt = 0) (h1 : ¬ x.toInt = 1) : hq_F d sm149 (fun _ w' => w' = w) (0, lv_args 0 [.ref 0, .int x], [], w) := by
  have g0 : pi_get (lv_args 0 [.ref 0, .int x]) 0 = some (.ref 0) := rfl
  have g1 : pi_get (lv_args 0 [.ref 0, .int x]) 1 = some (.int x) := rfl
  have kc0 : ((Int32.ofInt 0)).toInt = 0 := by decide
  have kc1 : ((Int32.ofInt 1)).toInt = 1 := by decide
  have kz := sy_z0
  refine hq_F.st (s' := (1, _, _, _)) hj149_0 rfl rfl rfl (hs_iln g1) ?_
  refine hq_F.st (s' := (4, _, _, _)) hj149_1 rfl rfl rfl (hs_ifn (t := 11) (ci_eqn (by omega)) rfl) ?_
  refine hq_F.st (s' := (5, _, _, _)) hj149_4 rfl rfl rfl (hs_iln g1) ?_
  refine hq_F.st (s' := (6, _, _, _)) hj149_5 rfl rfl rfl rfl ?_
  refine hq_F.st (s' := (9, _, _, _)) hj149_6 rfl rfl rfl (hs_icn (t := 11) (ci_eqn (by omega)) rfl) ?_
  refine hq_F.st (s' := (10, _, _, _)) hj149_9 rfl rfl rfl rfl ?_
  refine hq_F.en hj149_10 rfl rfl ?_
  rfl
theorem ci_reN {d : Nat} {w : pi_W} {x : Int32} (h0 : ¬ x.toInt = 0) (h1 : ¬ x.toInt = 1) : hq_F d sm150 (fun _ w' => w' = w) (0, lv_args 0 [.ref 0, .int x], [], w) := by
  have g0 : pi_get (lv_args 0 [.ref 0, .int x]) 0 = some (.ref 0) := rfl
  have g1 : pi_get (lv_args 0 [.ref 0, .int x]) 1 = some (.int x) := rfl
  have kc0 : ((Int32.ofInt 0)).toInt = 0 := by decide
  have kc1 : ((Int32.ofInt 1)).toInt = 1 := by decide
  have kz := sy_z0
  refine hq_F.st (s' := (1, _, _, _)) hj150_0 rfl rfl rfl (hs_iln g1) ?_
  refine hq_F.st (s' := (4, _, _, _)) hj150_1 rfl rfl rfl (hs_ifn (t := 9) (ci_eqn (by omega)) rfl) ?_
  refine hq_F.st (s' := (5, _, _, _)) hj150_4 rfl rfl rfl (hs_iln g1) ?_
  refine hq_F.st (s' := (6, _, _, _)) hj150_5 rfl rfl rfl rfl ?_
  refine hq_F.st (s' := (20, _, _, _)) hj150_6 rfl rfl rfl (hs_ic (ci_ne (by omega)) rfl) ?_
  refine hq_F.st (s' := (21, _, _, _)) hj150_20 rfl rfl rfl rfl ?_
  refine hq_F.en hj150_21 rfl rfl ?_
  rfl
