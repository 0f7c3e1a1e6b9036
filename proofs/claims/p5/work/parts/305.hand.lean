/-! ===== contracts by hand ===== -/
theorem pi_st {n d : Nat} {mi : pi_M} {s s' : pi_S} {i : Instr} {len : Nat} (hf : pi_fetch mi.2.2.2.2 s.1 = some (i, len)) (hE : pi_isEnd i = false) (hi : pi_inv i = none) (hN : pi_isNew i = false) (hs : pi_step mi.1 mi.2.2.2.1 mi.2.1 i len s = some s') : pi_run (n + 1) d mi s 0 0 = pi_run n d mi s' 0 0 := by
  rw [pi_run, hf]
  dsimp only
  rw [hE, hi]
  dsimp only
  rw [hN, hs]
  rfl
theorem pi_fi {n d : Nat} {mi : pi_M} {s : pi_S} {i : Instr} {len : Nat} {r : Option Value} (hf : pi_fetch mi.2.2.2.2 s.1 = some (i, len)) (hE : pi_isEnd i = true) (hr : pi_end mi.2.2.1 i len s = some r) : pi_run (n + 1) d mi s 0 0 = some (r, s.2.2.2, 0, 0) := by
  rw [pi_run, hf]
  dsimp only
  rw [if_pos hE, hr]
theorem pi_ri {pc : Nat} {lv : pi_L} {w : pi_W} (x : Int32) : pi_end (some .int) .ireturn 1 (pc, lv, [.int x], w) = some (some (.int x)) := by
  simp only [pi_end]
  rw [if_pos trivial, if_pos (show narrow FieldType.int (Value.int x) = Value.int x from rfl)]
def hb_m : pi_M := (11, 3, (some .int), false, mc_171)
theorem hb_dec {y : Int32} (h : ¬ y = 0) : (y &&& (y - 1)).toBitVec.toNat < y.toBitVec.toNat := by
  have h0 : y.toBitVec.toNat ≠ 0 := by
    intro q
    apply h
    apply Int32.toBitVec_inj.mp
    apply BitVec.eq_of_toNat_eq
    rw [q]
    rfl
  have h1 : (y - 1).toBitVec.toNat = y.toBitVec.toNat - 1 := by
    have e : (y - 1).toBitVec = y.toBitVec - 1#32 := rfl
    rw [e, BitVec.toNat_sub]
    have hl := y.toBitVec.isLt
    simp
    omega
  have h2 : (y &&& (y - 1)).toBitVec.toNat = y.toBitVec.toNat &&& (y - 1).toBitVec.toNat := by
    have e : (y &&& (y - 1)).toBitVec = y.toBitVec &&& (y - 1).toBitVec := rfl
    rw [e, BitVec.toNat_and]
  rw [h2, h1]
  have h3 : y.toBitVec.toNat &&& (y.toBitVec.toNat - 1) ≤ y.toBitVec.toNat - 1 := Nat.and_le_right
  omega
theorem hb_loop (d : Nat) (w : pi_W) (x : Int32) : ∀ (m : Nat) (y c : Int32), y.toBitVec.toNat < m → ∃ k r, pi_run k d hb_m (4, [(2, .int y), (1, .int c), (0, .int x)], [], w) 0 0 = some (some (.int r), w, 0, 0)
  | 0, y, c, h => by omega
  | m + 1, y, c, h => by
    by_cases hy : y = 0
    · subst hy
      refine ⟨4, c, ?_⟩
      refine (pi_st (s' := (5, [(2, .int 0), (1, .int c), (0, .int x)], [.int 0], w)) rfl rfl rfl rfl rfl).trans ?_
      refine (pi_st (s' := (20, [(2, .int 0), (1, .int c), (0, .int x)], [], w)) rfl rfl rfl rfl rfl).trans ?_
      refine (pi_st (s' := (21, [(2, .int 0), (1, .int c), (0, .int x)], [.int c], w)) rfl rfl rfl rfl rfl).trans ?_
      exact pi_fi (i := .ireturn) (len := 1) rfl rfl (pi_ri c)
    · obtain ⟨k, r, hk⟩ := hb_loop d w x m (y &&& (y - 1)) (c + 1) (by have := hb_dec hy; omega)
      refine ⟨k + 10, r, ?_⟩
      have hc : pi_cmp .eq y 0 = false := by simp [pi_cmp, hy]
      refine (pi_st (s' := (5, [(2, .int y), (1, .int c), (0, .int x)], [.int y], w)) rfl rfl rfl rfl rfl).trans ?_
      refine (pi_st (i := .ifCond .eq 15) (len := 3) (s' := (8, [(2, .int y), (1, .int c), (0, .int x)], [], w)) rfl rfl rfl rfl ?_).trans ?_
      · have ht : pi_tgt 5 15 = some 20 := rfl
        simp [pi_step, ht, hc]
      refine (pi_st (s' := (11, [(1, .int (c + 1)), (2, .int y), (0, .int x)], [], w)) rfl rfl rfl rfl rfl).trans ?_
      refine (pi_st (s' := (12, [(1, .int (c + 1)), (2, .int y), (0, .int x)], [.int y], w)) rfl rfl rfl rfl rfl).trans ?_
      refine (pi_st (s' := (13, [(1, .int (c + 1)), (2, .int y), (0, .int x)], [.int y, .int y], w)) rfl rfl rfl rfl rfl).trans ?_
      refine (pi_st (s' := (14, [(1, .int (c + 1)), (2, .int y), (0, .int x)], [.int 1, .int y, .int y], w)) rfl rfl rfl rfl rfl).trans ?_
      refine (pi_st (s' := (15, [(1, .int (c + 1)), (2, .int y), (0, .int x)], [.int (y - 1), .int y], w)) rfl rfl rfl rfl rfl).trans ?_
      refine (pi_st (s' := (16, [(1, .int (c + 1)), (2, .int y), (0, .int x)], [.int (y &&& (y - 1))], w)) rfl rfl rfl rfl rfl).trans ?_
      refine (pi_st (s' := (17, [(2, .int (y &&& (y - 1))), (1, .int (c + 1)), (0, .int x)], [], w)) rfl rfl rfl rfl rfl).trans ?_
      exact (pi_st (s' := (4, [(2, .int (y &&& (y - 1))), (1, .int (c + 1)), (0, .int x)], [], w)) rfl rfl rfl rfl rfl).trans hk
theorem ah_386 : af_Holds aw_Sh 6 ak_386 := by
  refine ⟨⟨by decide, by decide⟩, _, _, hb_m, pz_171, fun ρ As w hC hs _ _ => ?_⟩
  obtain ⟨x, vs, rfl, -, hx, hs1⟩ := st_i hs
  have hv := hs1.nil
  subst hv
  obtain ⟨k, r, hk⟩ := hb_loop 6 w x (x.toBitVec.toNat + 1) x 0 (Nat.lt_succ_self _)
  refine ⟨k + 4, some (.int r), w, ?_, hC, af_Fr.rf _ _, _, List.mem_cons_self, af_upd ρ 1 r.toInt, af_upd_ag ρ 1 _, ⟨⟨af_wf_1 1 0, r, rfl, ?_⟩, trivial⟩, (fun e he => by cases he), ?_, (fun e he => by cases he), (fun e he => by cases he)⟩
  · refine (pi_st (s' := (1, [(0, .int x)], [.int 0], w)) rfl rfl rfl rfl rfl).trans ?_
    refine (pi_st (s' := (2, [(1, .int 0), (0, .int x)], [], w)) rfl rfl rfl rfl rfl).trans ?_
    refine (pi_st (s' := (3, [(1, .int 0), (0, .int x)], [.int x], w)) rfl rfl rfl rfl rfl).trans ?_
    exact (pi_st (s' := (4, [(2, .int x), (1, .int 0), (0, .int x)], [], w)) rfl rfl rfl rfl rfl).trans hk
  · rw [af_ev_1, af_upd_at]
    omega
  · intro e he
    rcases List.mem_singleton.mp he with rfl
    refine ⟨Nat.lt_succ_self 1, ?_⟩
    show -2147483648 ≤ af_upd ρ 1 r.toInt 1 ∧ af_upd ρ 1 r.toInt 1 ≤ 2147483647
    rw [af_upd_at]
    exact af_i32 r
def hp_m : pi_M := (11, 1, (some .int), false, mc_173)
theorem hp_gf {own nL pc a ci k q cp : Nat} {ini : Bool} {lv : pi_L} {r fs : List Value} {w : pi_W} {v : Value} (hl : pi_look pi_fT own cp = some (ci, k, q)) (hw : w[a]? = some (.inr (ci, fs))) (hv : fs[k]? = some v) : pi_step own ini nL (.getfield cp) 3 (pc, lv, .ref a :: r, w) = some (pc + 3, lv, v :: r, w) := by
  simp only [pi_step, hl, hw, hv, if_true]
theorem ah_482 : af_Holds aw_Sh 6 ak_482 := by
  refine ⟨⟨by decide, by decide⟩, _, _, hp_m, pz_173, fun ρ As w hC hs hT hK => ?_⟩
  obtain ⟨vs, rfl, hs1⟩ := st_r hs
  have hv := hs1.nil
  subst hv
  obtain ⟨-, p, hp, hpv⟩ := hT ((61, 4), (0, [0])) (by simp [ak_482])
  obtain ⟨-, z, hz, hzv⟩ := hT ((61, 3), (0, [1])) (by simp [ak_482])
  obtain ⟨-, x, hx, hxv⟩ := hT ((1000, 0), (0, [2])) (by simp [ak_482])
  rw [af_ev_1] at hpv hzv hxv
  dsimp only at hp hz hx
  have k0 := (hK.1 (0, 0, 940) (by simp [ak_482])).2
  have k1 := (hK.1 (1, 0, 940) (by simp [ak_482])).2
  have k2 := (hK.1 (2, -1, 255) (by simp [ak_482])).2
  dsimp only at k0 k1 k2
  have hx2 : af_peek w = x := by
    have e : af_loc w 1000 0 = some (.int (af_peek w)) := rfl
    rw [e] at hx
    cases hx
    rfl
  have hp2 : af_wloc w 61 4 = some (.int p) := hp
  have hz2 : af_wloc w 61 3 = some (.int z) := hz
  obtain ⟨e, he, fs, rfl, hln, hfs⟩ := hC.at (a := 61) (c := .inr (11, _)) rfl
  obtain ⟨t, ht, htv⟩ := hfs 1 (.inl 62) rfl
  have htv2 : t = .ref 62 := htv
  subst htv2
  have hp3 : fs[4]? = some (.int p) := by
    unfold af_wloc at hp2
    rw [he] at hp2
    exact hp2
  have hz3 : fs[3]? = some (.int z) := by
    unfold af_wloc at hz2
    rw [he] at hz2
    exact hz2
  obtain ⟨e2, he2, hoc2⟩ := hC.at (a := 62) (c := .inl (1, 940, _)) rfl
  obtain ⟨fn, rfl, -⟩ := af_okA.int (by decide) hoc2
  have hlp : pi_look pi_fT 11 21 = some (11, 4, _) := rfl
  have hlz : pi_look pi_fT 11 18 = some (11, 3, _) := rfl
  have hlt : pi_look pi_fT 11 14 = some (11, 1, _) := rfl
  have hst : af_St 3 ρ [.inl (0, [2])] [.int x] := ⟨⟨fun v hv => by rcases List.mem_singleton.mp hv with rfl; decide, x, rfl, by rw [af_ev_1]; exact hxv⟩, trivial⟩
  by_cases hpz : p < z
  · have hpz2 := hpz
    rw [Int32.lt_iff_toInt_lt] at hpz2
    obtain ⟨c1, c2⟩ := af_cl (x := p) (by omega)
    have hin : ¬ (p < 0 ∨ 940 ≤ p.toNatClampNeg) := by
      rintro (q | q)
      · exact c1 q
      · omega
    have hxe : fn p.toNatClampNeg &&& 255 = x := by
      rw [← hx2]
      unfold af_peek
      rw [hp2, hz2]
      dsimp only
      rw [if_pos hpz]
      unfold af_wloc
      rw [he2]
      simp only [af_cloc]
      rw [if_pos (by omega)]
    have hge : pi_cmp .ge p z = false := by
      simp only [pi_cmp]
      simpa using hpz
    refine ⟨14, some (.int x), w, ?_, hC, af_Fr.rf _ _, _, List.mem_cons_self, ρ, af_ag.rf _ _, hst, (fun e he => by cases he), ?_, (fun e he => by cases he), (fun e he => by cases he)⟩
    · refine (pi_st (s' := (1, [(0, .ref 61)], [.ref 61], w)) rfl rfl rfl rfl rfl).trans ?_
      refine (pi_st (i := .getfield 21) (len := 3) (s' := (4, [(0, .ref 61)], [.int p], w)) rfl rfl rfl rfl (hp_gf hlp he hp3)).trans ?_
      refine (pi_st (s' := (5, [(0, .ref 61)], [.ref 61, .int p], w)) rfl rfl rfl rfl rfl).trans ?_
      refine (pi_st (i := .getfield 18) (len := 3) (s' := (8, [(0, .ref 61)], [.int z, .int p], w)) rfl rfl rfl rfl (hp_gf hlz he hz3)).trans ?_
      refine (pi_st (i := .if_icmp .ge 19) (len := 3) (s' := (11, [(0, .ref 61)], [], w)) rfl rfl rfl rfl ?_).trans ?_
      · have ht : pi_tgt 8 19 = some 27 := rfl
        simp [pi_step, ht, hge]
      refine (pi_st (s' := (12, [(0, .ref 61)], [.ref 61], w)) rfl rfl rfl rfl rfl).trans ?_
      refine (pi_st (i := .getfield 14) (len := 3) (s' := (15, [(0, .ref 61)], [.ref 62], w)) rfl rfl rfl rfl (hp_gf hlt he ht)).trans ?_
      refine (pi_st (s' := (16, [(0, .ref 61)], [.ref 61, .ref 62], w)) rfl rfl rfl rfl rfl).trans ?_
      refine (pi_st (i := .getfield 21) (len := 3) (s' := (19, [(0, .ref 61)], [.int p, .ref 62], w)) rfl rfl rfl rfl (hp_gf hlp he hp3)).trans ?_
      refine (pi_st (i := .baload) (len := 1) (s' := (20, [(0, .ref 61)], [.int (fn p.toNatClampNeg)], w)) rfl rfl rfl rfl (by simp only [pi_step, he2, hin, if_true, if_false])).trans ?_
      refine (pi_st (s' := (23, [(0, .ref 61)], [.int 255, .int (fn p.toNatClampNeg)], w)) rfl rfl rfl rfl rfl).trans ?_
      refine (pi_st (s' := (24, [(0, .ref 61)], [.int (fn p.toNatClampNeg &&& 255)], w)) rfl rfl rfl rfl rfl).trans ?_
      rw [hxe]
      refine (pi_st (s' := (28, [(0, .ref 61)], [.int x], w)) rfl rfl rfl rfl rfl).trans ?_
      exact pi_fi (i := .ireturn) (len := 1) rfl rfl (pi_ri x)
    · have hx0 := af_and_r (fn p.toNatClampNeg) 255 (by decide)
      rw [hxe] at hx0
      intro e he
      simp only [List.mem_cons, List.not_mem_nil, or_false] at he
      rcases he with rfl | rfl | rfl
      · exact ⟨by decide, by dsimp only; omega, by dsimp only; omega⟩
      · exact ⟨by decide, by dsimp only; omega, by dsimp only; omega⟩
      · exact ⟨by decide, by dsimp only; omega, by dsimp only; omega⟩
  · have hxe : x = -1 := by
      rw [← hx2]
      unfold af_peek
      rw [hp2, hz2]
      dsimp only
      rw [if_neg hpz]
    have hge : pi_cmp .ge p z = true := by
      simp only [pi_cmp]
      simpa using hpz
    refine ⟨7, some (.int x), w, ?_, hC, af_Fr.rf _ _, _, List.mem_cons_of_mem _ List.mem_cons_self, ρ, af_ag.rf _ _, hst, (fun e he => by cases he), ?_, (fun e he => by cases he), (fun e he => by cases he)⟩
    · refine (pi_st (s' := (1, [(0, .ref 61)], [.ref 61], w)) rfl rfl rfl rfl rfl).trans ?_
      refine (pi_st (i := .getfield 21) (len := 3) (s' := (4, [(0, .ref 61)], [.int p], w)) rfl rfl rfl rfl (hp_gf hlp he hp3)).trans ?_
      refine (pi_st (s' := (5, [(0, .ref 61)], [.ref 61, .int p], w)) rfl rfl rfl rfl rfl).trans ?_
      refine (pi_st (i := .getfield 18) (len := 3) (s' := (8, [(0, .ref 61)], [.int z, .int p], w)) rfl rfl rfl rfl (hp_gf hlz he hz3)).trans ?_
      refine (pi_st (i := .if_icmp .ge 19) (len := 3) (s' := (27, [(0, .ref 61)], [], w)) rfl rfl rfl rfl ?_).trans ?_
      · have ht : pi_tgt 8 19 = some 27 := rfl
        simp [pi_step, ht, hge]
      refine (pi_st (s' := (28, [(0, .ref 61)], [.int (-1)], w)) rfl rfl rfl rfl rfl).trans ?_
      rw [hxe]
      exact pi_fi (i := .ireturn) (len := 1) rfl rfl (pi_ri (-1))
    · have hx1 : x.toInt = -1 := by rw [hxe]; rfl
      intro e he
      rcases List.mem_singleton.mp he with rfl
      exact ⟨by decide, by dsimp only; omega, by dsimp only; omega⟩
