/-! ===== at and put of the class ===== -/
theorem sy_iav {own nL pc a m n : Nat} {ini : Bool} {lv : pi_L} {r : List Value} {w : pi_W} {j : Int32} {S : List (Nat × Int × Int)} (hC : af_Conf aw_Sh w) (hSh : aw_Sh[a]? = some (.inl (0, m, S))) (hj : j.toInt = (n : Int)) (hn : n < m) : pi_step own ini nL .iaload 1 (pc, lv, .int j :: .ref a :: r, w) = some (pc + 1, lv, .int (gv w a n) :: r, w) := by
  obtain ⟨f, hf⟩ := hq_arr hC hSh (by decide)
  have h := hf n hn
  rw [gv_of h]
  exact hq_ia hC hSh hj h
theorem sy_isv {d pc a m n : Nat} {mi : pi_M} {Q : Option Value → pi_W → Prop} {lv : pi_L} {r : List Value} {w : pi_W} {x j : Int32} {S : List (Nat × Int × Int)} (hf : pi_fetch mi.2.2.2.2 pc = some (.iastore, 1)) (hC : af_Conf aw_Sh w) (hSh : aw_Sh[a]? = some (.inl (0, m, S))) (hj : j.toInt = (n : Int)) (hn : n < m) (hx : ∀ q, af_seg S n = some q → q.1 ≤ x.toInt ∧ x.toInt ≤ q.2) (h : ∀ w', af_Conf aw_Sh w' → wr1 w a n (.int x) w' → hq_F d mi Q (pc + 1, lv, r, w')) : hq_F d mi Q (pc, lv, .int x :: .int j :: .ref a :: r, w) :=
  hq_F.is hf hC hSh hj hn hx (fun w' h1 h2 h3 => h w' h1 (wp_of h2 h3))
def sm159 : pi_M := (10, 2, (some .int), false, mc_159)
def sm160 : pi_M := (10, 3, none, false, mc_160)
theorem ca_at {d a m j : Nat} {S : List (Nat × Int × Int)} {w : pi_W} (hC : af_Conf aw_Sh w) (hSh : aw_Sh[a]? = some (.inl (0, m, S))) (hj : j < m) (hm : m < 1000) : hq_F d sm159 (fun r w' => w' = w ∧ r = some (.int (gv w a j))) (0, lv_args 0 [.ref a, .int (Int32.ofNat j)], [], w) := by
  have tj : (Int32.ofNat j).toInt = (j : Int) := hn_t (by omega)
  have tm : (Int32.ofNat m).toInt = (m : Int) := hn_t (by omega)
  have kz := sy_z0
  refine hq_F.st (s' := (1, _, [.int (Int32.ofNat j)], w)) (i := .iload_n 1) (len := 1) rfl rfl rfl rfl rfl ?_
  refine hq_F.st (s' := (4, _, [], w)) (i := .ifCond .lt 15) (len := 3) rfl rfl rfl rfl (hs_ifn (t := 16) (ci_ltn (by omega)) rfl) ?_
  refine hq_F.st (s' := (5, _, [.int (Int32.ofNat j)], w)) (i := .iload_n 1) (len := 1) rfl rfl rfl rfl rfl ?_
  refine hq_F.st (s' := (6, _, [.ref a, .int (Int32.ofNat j)], w)) (i := .aload_n 0) (len := 1) rfl rfl rfl rfl rfl ?_
  refine hq_F.st (s' := (7, _, [.int (Int32.ofNat m), .int (Int32.ofNat j)], w)) (i := .arraylength) (len := 1) rfl rfl rfl rfl (sy_len hC hSh) ?_
  refine hq_F.st (s' := (10, _, [], w)) (i := .if_icmp .ge 9) (len := 3) rfl rfl rfl rfl (hs_icn (t := 16) (ci_gen (by omega)) rfl) ?_
  refine hq_F.st (s' := (11, _, [.ref a], w)) (i := .aload_n 0) (len := 1) rfl rfl rfl rfl rfl ?_
  refine hq_F.st (s' := (12, _, [.int (Int32.ofNat j), .ref a], w)) (i := .iload_n 1) (len := 1) rfl rfl rfl rfl rfl ?_
  refine hq_F.st (s' := (13, _, [.int (gv w a j)], w)) (i := .iaload) (len := 1) rfl rfl rfl rfl (sy_iav hC hSh tj hj) ?_
  refine hq_F.st (s' := (17, _, [.int (gv w a j)], w)) (i := .goto 4) (len := 3) rfl rfl rfl rfl rfl ?_
  exact hq_F.en (i := .ireturn) (len := 1) rfl rfl (pi_ri _) ⟨rfl, rfl⟩
theorem ca_put {d a m j : Nat} {S : List (Nat × Int × Int)} {w : pi_W} {x : Int32} (hC : af_Conf aw_Sh w) (hSh : aw_Sh[a]? = some (.inl (0, m, S))) (hj : j < m) (hm : m < 1000) (hx : ∀ q, af_seg S j = some q → q.1 ≤ x.toInt ∧ x.toInt ≤ q.2) : hq_F d sm160 (fun r w' => r = none ∧ af_Conf aw_Sh w' ∧ wr1 w a j (.int x) w') (0, lv_args 0 [.ref a, .int (Int32.ofNat j), .int x], [], w) := by
  have tj : (Int32.ofNat j).toInt = (j : Int) := hn_t (by omega)
  have tm : (Int32.ofNat m).toInt = (m : Int) := hn_t (by omega)
  have kz := sy_z0
  refine hq_F.st (s' := (1, _, [.int (Int32.ofNat j)], w)) (i := .iload_n 1) (len := 1) rfl rfl rfl rfl rfl ?_
  refine hq_F.st (s' := (4, _, [], w)) (i := .ifCond .lt 13) (len := 3) rfl rfl rfl rfl (hs_ifn (t := 14) (ci_ltn (by omega)) rfl) ?_
  refine hq_F.st (s' := (5, _, [.int (Int32.ofNat j)], w)) (i := .iload_n 1) (len := 1) rfl rfl rfl rfl rfl ?_
  refine hq_F.st (s' := (6, _, [.ref a, .int (Int32.ofNat j)], w)) (i := .aload_n 0) (len := 1) rfl rfl rfl rfl rfl ?_
  refine hq_F.st (s' := (7, _, [.int (Int32.ofNat m), .int (Int32.ofNat j)], w)) (i := .arraylength) (len := 1) rfl rfl rfl rfl (sy_len hC hSh) ?_
  refine hq_F.st (s' := (10, _, [], w)) (i := .if_icmp .ge 7) (len := 3) rfl rfl rfl rfl (hs_icn (t := 14) (ci_gen (by omega)) rfl) ?_
  refine hq_F.st (s' := (11, _, [.ref a], w)) (i := .aload_n 0) (len := 1) rfl rfl rfl rfl rfl ?_
  refine hq_F.st (s' := (12, _, [.int (Int32.ofNat j), .ref a], w)) (i := .iload_n 1) (len := 1) rfl rfl rfl rfl rfl ?_
  refine hq_F.st (s' := (13, _, [.int x, .int (Int32.ofNat j), .ref a], w)) (i := .iload_n 2) (len := 1) rfl rfl rfl rfl rfl ?_
  refine sy_isv (mi := sm160) (pc := 13) rfl hC hSh tj hj hx (fun w' h1 h2 => ?_)
  exact hq_F.en (i := .return_) (len := 1) rfl rfl rfl ⟨rfl, h1, h2⟩
