/-! ===== contracts by hand ===== -/
theorem pi_st {n d : Nat} {mi : pi_M} {s s' : pi_S} {i : Instr} {len : Nat} (hf : pi_fetch mi.2.2.2.2 s.1 = some (i, len)) (hE : pi_isEnd i = false) (hi : pi_inv i = none) (hN : pi_isNew i = false) (hs : pi_step mi.1 mi.2.2.2.1 mi.2.1 i len s = some s') : pi_run (n + 1) d mi s 0 0 = pi_run n d mi s' 0 0 := by
  rw [pi_run, hf]
  dsimp only
  rw [hE, hi]
  dsimp only
  rw [hN, hs]
  rfl
theorem pi_fi {n d : Nat} {mi : pi_M} {s : pi_S} {i : Instr} {len : Nat} {r : Option Value} (hf : pi_fetch mi.2.2.2.2 s.1 = some (i, len)) (hE : pi_isEnd i = true) (hr : pi_end mi.2.2.1 i len s = some r) : pi_run (n + 1) d mi s 0 0 = some (r, s.2.2.2, 0, 0) := by
  rw [pi_run, hf]
  dsimp only
  rw [if_pos hE, hr]
theorem pi_ri {pc : Nat} {lv : pi_L} {w : pi_W} (x : Int32) : pi_end (some .int) .ireturn 1 (pc, lv, [.int x], w) = some (some (.int x)) := by
  simp only [pi_end]
  rw [if_pos trivial, if_pos (show narrow FieldType.int (Value.int x) = Value.int x from rfl)]
def hb_m : pi_M := (11, 3, (some .int), false, mc_171)
theorem hb_dec {y : Int32} (h : ¬ y = 0) : (y &&& (y - 1)).toBitVec.toNat < y.toBitVec.toNat := by
  have h0 : y.toBitVec.toNat ≠ 0 := by
    intro q
    apply h
    apply Int32.toBitVec_inj.mp
    apply BitVec.eq_of_toNat_eq
    rw [q]
    rfl
  have h1 : (y - 1).toBitVec.toNat = y.toBitVec.toNat - 1 := by
    have e : (y - 1).toBitVec = y.toBitVec - 1#32 := rfl
    rw [e, BitVec.toNat_sub]
    have hl := y.toBitVec.isLt
    simp
    omega
  have h2 : (y &&& (y - 1)).toBitVec.toNat = y.toBitVec.toNat &&& (y - 1).toBitVec.toNat := by
    have e : (y &&& (y - 1)).toBitVec = y.toBitVec &&& (y - 1).toBitVec := rfl
    rw [e, BitVec.toNat_and]
  rw [h2, h1]
  have h3 : y.toBitVec.toNat &&& (y.toBitVec.toNat - 1) ≤ y.toBitVec.toNat - 1 := Nat.and_le_right
  omega
theorem hb_loop (d : Nat) (w : pi_W) (x : Int32) : ∀ (m : Nat) (y c : Int32), y.toBitVec.toNat < m → ∃ k r, pi_run k d hb_m (4, [(2, .int y), (1, .int c), (0, .int x)], [], w) 0 0 = some (some (.int r), w, 0, 0)
  | 0, y, c, h => by omega
  | m + 1, y, c, h => by
    by_cases hy : y = 0
    · subst hy
      refine ⟨4, c, ?_⟩
      refine (pi_st (s' := (5, [(2, .int 0), (1, .int c), (0, .int x)], [.int 0], w)) rfl rfl rfl rfl rfl).trans ?_
      refine (pi_st (s' := (20, [(2, .int 0), (1, .int c), (0, .int x)], [], w)) rfl rfl rfl rfl rfl).trans ?_
      refine (pi_st (s' := (21, [(2, .int 0), (1, .int c), (0, .int x)], [.int c], w)) rfl rfl rfl rfl rfl).trans ?_
      exact pi_fi (i := .ireturn) (len := 1) rfl rfl (pi_ri c)
    · obtain ⟨k, r, hk⟩ := hb_loop d w x m (y &&& (y - 1)) (c + 1) (by have := hb_dec hy; omega)
      refine ⟨k + 10, r, ?_⟩
      have hc : pi_cmp .eq y 0 = false := by simp [pi_cmp, hy]
      refine (pi_st (s' := (5, [(2, .int y), (1, .int c), (0, .int x)], [.int y], w)) rfl rfl rfl rfl rfl).trans ?_
      refine (pi_st (i := .ifCond .eq 15) (len := 3) (s' := (8, [(2, .int y), (1, .int c), (0, .int x)], [], w)) rfl rfl rfl rfl ?_).trans ?_
      · have ht : pi_tgt 5 15 = some 20 := rfl
        simp [pi_step, ht, hc]
      refine (pi_st (s' := (11, [(1, .int (c + 1)), (2, .int y), (0, .int x)], [], w)) rfl rfl rfl rfl rfl).trans ?_
      refine (pi_st (s' := (12, [(1, .int (c + 1)), (2, .int y), (0, .int x)], [.int y], w)) rfl rfl rfl rfl rfl).trans ?_
      refine (pi_st (s' := (13, [(1, .int (c + 1)), (2, .int y), (0, .int x)], [.int y, .int y], w)) rfl rfl rfl rfl rfl).trans ?_
      refine (pi_st (s' := (14, [(1, .int (c + 1)), (2, .int y), (0, .int x)], [.int 1, .int y, .int y], w)) rfl rfl rfl rfl rfl).trans ?_
      refine (pi_st (s' := (15, [(1, .int (c + 1)), (2, .int y), (0, .int x)], [.int (y - 1), .int y], w)) rfl rfl rfl rfl rfl).trans ?_
      refine (pi_st (s' := (16, [(1, .int (c + 1)), (2, .int y), (0, .int x)], [.int (y &&& (y - 1))], w)) rfl rfl rfl rfl rfl).trans ?_
      refine (pi_st (s' := (17, [(2, .int (y &&& (y - 1))), (1, .int (c + 1)), (0, .int x)], [], w)) rfl rfl rfl rfl rfl).trans ?_
      exact (pi_st (s' := (4, [(2, .int (y &&& (y - 1))), (1, .int (c + 1)), (0, .int x)], [], w)) rfl rfl rfl rfl rfl).trans hk
theorem hb_bits : af_Holds aw_Sh 6 ak_386 := by
  refine ⟨⟨by decide, by decide⟩, _, _, hb_m, pz_171, fun ρ As w hC hs _ _ => ?_⟩
  obtain ⟨x, vs, rfl, -, hx, hs1⟩ := st_i hs
  have hv := hs1.nil
  subst hv
  obtain ⟨k, r, hk⟩ := hb_loop 6 w x (x.toBitVec.toNat + 1) x 0 (Nat.lt_succ_self _)
  refine ⟨k + 4, some (.int r), w, ?_, hC, af_Fr.rf _ _, _, List.mem_cons_self, af_upd ρ 1 r.toInt, af_upd_ag ρ 1 _, ⟨⟨af_wf_1 1 0, r, rfl, ?_⟩, trivial⟩, (fun e he => by cases he), ?_, (fun e he => by cases he), (fun e he => by cases he)⟩
  · refine (pi_st (s' := (1, [(0, .int x)], [.int 0], w)) rfl rfl rfl rfl rfl).trans ?_
    refine (pi_st (s' := (2, [(1, .int 0), (0, .int x)], [], w)) rfl rfl rfl rfl rfl).trans ?_
    refine (pi_st (s' := (3, [(1, .int 0), (0, .int x)], [.int x], w)) rfl rfl rfl rfl rfl).trans ?_
    exact (pi_st (s' := (4, [(2, .int x), (1, .int 0), (0, .int x)], [], w)) rfl rfl rfl rfl rfl).trans hk
  · rw [af_ev_1, af_upd_at]
    omega
  · intro e he
    rcases List.mem_singleton.mp he with rfl
    refine ⟨Nat.lt_succ_self 1, ?_⟩
    show -2147483648 ≤ af_upd ρ 1 r.toInt 1 ∧ af_upd ρ 1 r.toInt 1 ≤ 2147483647
    rw [af_upd_at]
    exact af_i32 r
