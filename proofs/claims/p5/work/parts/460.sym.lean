/-! ===== symbolic steps: values by gv and gl, writes by wr1 ===== -/
def gv (w : pi_W) (c i : Nat) : Int32 := match af_wloc w c i with
  | some (.int x) => x
  | _ => 0
def gl (w : pi_W) (c i : Nat) : Int64 := match af_wloc w c i with
  | some (.long x) => x
  | _ => 0
theorem gv_of {w : pi_W} {c i : Nat} {x : Int32} (h : af_wloc w c i = some (.int x)) : gv w c i = x := by
  simp only [gv, h]
theorem gl_of {w : pi_W} {c i : Nat} {x : Int64} (h : af_wloc w c i = some (.long x)) : gl w c i = x := by
  simp only [gl, h]
theorem gv_eq {w w' : pi_W} {c i : Nat} (h : af_wloc w' c i = af_wloc w c i) : gv w' c i = gv w c i := by
  simp only [gv, h]
theorem gl_eq {w w' : pi_W} {c i : Nat} (h : af_wloc w' c i = af_wloc w c i) : gl w' c i = gl w c i := by
  simp only [gl, h]
theorem sy_v {w : pi_W} (hC : af_Conf aw_Sh w) {c i : Nat} {lo hi : Int} (hc : c ≠ af_virt) (h : af_bnd aw_Sh c i = some (lo, hi)) : af_wloc w c i = some (.int (gv w c i)) := by
  obtain ⟨x, hx, -⟩ := hq_int hC hc h
  rw [gv_of hx]
  exact hx
theorem sy_b {w : pi_W} (hC : af_Conf aw_Sh w) {c i : Nat} {lo hi : Int} (hc : c ≠ af_virt) (h : af_bnd aw_Sh c i = some (lo, hi)) : lo ≤ (gv w c i).toInt ∧ (gv w c i).toInt ≤ hi := by
  obtain ⟨x, hx, h1⟩ := hq_int hC hc h
  rw [gv_of hx]
  exact h1
theorem sy_vl {w : pi_W} {a ci k : Nat} {fts : List (Nat ⊕ (Int × Int) ⊕ Unit)} (hC : af_Conf aw_Sh w) (hSh : aw_Sh[a]? = some (.inr (ci, fts))) (hf : fts[k]? = some (.inr (.inr ()))) : af_wloc w a k = some (.long (gl w a k)) := by
  obtain ⟨e, he, fs, rfl, -, hfs⟩ := hC.at hSh
  obtain ⟨v, h1, h2⟩ := hfs k _ hf
  have h2 : ∃ x, v = .long x := h2
  obtain ⟨x, rfl⟩ := h2
  have h3 : af_wloc w a k = some (.long x) := by
    unfold af_wloc
    rw [he]
    exact h1
  rw [gl_of h3]
  exact h3
theorem sy_va {w : pi_W} {a m j : Nat} {S : List (Nat × Int × Int)} (hC : af_Conf aw_Sh w) (hSh : aw_Sh[a]? = some (.inl (2, m, S))) (hj : j < m) : af_wloc w a j = some (.long (gl w a j)) := by
  obtain ⟨e, he, hoc⟩ := hC.at hSh
  have h2 : ∃ f, e = .inl (2, m, .inr (.inl f)) := hoc
  obtain ⟨f, rfl⟩ := h2
  have h3 : af_wloc w a j = some (.long (f j)) := by
    unfold af_wloc
    rw [he]
    simp only [af_cloc, if_pos hj]
  rw [gl_of h3]
  exact h3
/-- one place is written -/
def wr1 (w : pi_W) (a k : Nat) (v : Value) (w' : pi_W) : Prop := ∀ c i, af_wloc w' c i = if c = a ∧ i = k then some v else af_wloc w c i
theorem wp_of {w w' : pi_W} {a k : Nat} {v : Value} (hF : af_Fr [(a, k, k + 1)] w w') (hv : af_wloc w' a k = some v) : wr1 w a k v w' := by
  intro c i
  by_cases h : c = a ∧ i = k
  · rw [if_pos h, h.1, h.2]
    exact hv
  · rw [if_neg h]
    exact hq_one hF (by omega)
theorem wpF {w w' : pi_W} {a k : Nat} {v : Value} (h : wr1 w a k v w') : af_Fr [(a, k, k + 1)] w w' := fun c i hc => by
  rw [h c i, if_neg]
  intro q
  rw [hq_cov1.mpr ⟨q.1.symm, q.2⟩] at hc
  cases hc
theorem wpv {w w' : pi_W} {a k : Nat} {x : Int32} (h : wr1 w a k (.int x) w') (c i : Nat) : gv w' c i = if c = a ∧ i = k then x else gv w c i := by
  unfold gv
  rw [h c i]
  by_cases hh : c = a ∧ i = k
  · simp only [if_pos hh]
  · simp only [if_neg hh]
theorem wpvl {w w' : pi_W} {a k : Nat} {x : Int32} (h : wr1 w a k (.int x) w') (c i : Nat) : gl w' c i = if c = a ∧ i = k then 0 else gl w c i := by
  unfold gl
  rw [h c i]
  by_cases hh : c = a ∧ i = k
  · simp only [if_pos hh]
  · simp only [if_neg hh]
theorem wplv {w w' : pi_W} {a k : Nat} {x : Int64} (h : wr1 w a k (.long x) w') (c i : Nat) : gv w' c i = if c = a ∧ i = k then 0 else gv w c i := by
  unfold gv
  rw [h c i]
  by_cases hh : c = a ∧ i = k
  · simp only [if_pos hh]
  · simp only [if_neg hh]
theorem wpl {w w' : pi_W} {a k : Nat} {x : Int64} (h : wr1 w a k (.long x) w') (c i : Nat) : gl w' c i = if c = a ∧ i = k then x else gl w c i := by
  unfold gl
  rw [h c i]
  by_cases hh : c = a ∧ i = k
  · simp only [if_pos hh]
  · simp only [if_neg hh]
section SC
variable {x y : Int32}
theorem ci_lt (h : x.toInt < y.toInt) : pi_cmp .lt x y = true := hc_lt h
theorem ci_ltn (h : ¬ x.toInt < y.toInt) : pi_cmp .lt x y = false := hc_ltn (by omega)
theorem ci_ge (h : y.toInt ≤ x.toInt) : pi_cmp .ge x y = true := hc_ge h
theorem ci_gen (h : ¬ y.toInt ≤ x.toInt) : pi_cmp .ge x y = false := hc_gen (by omega)
theorem ci_gt (h : y.toInt < x.toInt) : pi_cmp .gt x y = true := by
  simp only [pi_cmp, decide_eq_true_eq, Int32.lt_iff_toInt_lt]
  exact h
theorem ci_gtn (h : ¬ y.toInt < x.toInt) : pi_cmp .gt x y = false := by
  simp only [pi_cmp, decide_eq_false_iff_not, Int32.lt_iff_toInt_lt]
  exact h
theorem ci_le (h : x.toInt ≤ y.toInt) : pi_cmp .le x y = true := by
  simp only [pi_cmp, decide_eq_true_eq, Int32.le_iff_toInt_le]
  exact h
theorem ci_len (h : ¬ x.toInt ≤ y.toInt) : pi_cmp .le x y = false := by
  simp only [pi_cmp, decide_eq_false_iff_not, Int32.le_iff_toInt_le]
  exact h
theorem ci_eq (h : x.toInt = y.toInt) : pi_cmp .eq x y = true := hc_eq (Int32.toInt_inj.mp h)
theorem ci_eqn (h : ¬ x.toInt = y.toInt) : pi_cmp .eq x y = false := hc_eqn (fun q => h (by rw [q]))
theorem ci_ne (h : ¬ x.toInt = y.toInt) : pi_cmp .ne x y = true := hc_ne (fun q => h (by rw [q]))
theorem ci_nen (h : ¬ ¬ x.toInt = y.toInt) : pi_cmp .ne x y = false := hc_nen (Int32.toInt_inj.mp (by omega))
end SC
theorem sy_z0 : (0 : Int32).toInt = 0 := by decide
theorem hg_nr {lv : pi_L} {i j a : Nat} {v : Value} (h : pi_get lv j = some (.ref a)) (hj : j ≠ i) : pi_get (pi_set lv i v) j = some (.ref a) := pi_get_set_ne h hj (fun q => (show ¬ ((1 : Nat) = 2) by decide) q.2)
theorem hg_nl {lv : pi_L} {i j : Nat} {v : Value} {x : Int64} (h : pi_get lv j = some (.long x)) (hj : j ≠ i ∧ j + 1 ≠ i) : pi_get (pi_set lv i v) j = some (.long x) := pi_get_set_ne h hj.1 (fun q => hj.2 q.1)
section SY
variable {d pc a ci k q cp m n : Nat} {mi mz : pi_M} {Q : Option Value → pi_W → Prop} {lv : pi_L} {r : List Value} {w : pi_W} {x j : Int32} {fts : List (Nat ⊕ (Int × Int) ⊕ Unit)} {lo hi : Int} {S : List (Nat × Int × Int)} {own nL : Nat} {ini : Bool}
theorem sy_al {k : Fin 4} (h : pi_get lv (k : Nat) = some (.ref a)) : pi_step own ini nL (.aload_n k) 1 (pc, lv, r, w) = some (pc + 1, lv, .ref a :: r, w) := by
  simp only [pi_step, h, if_true]
theorem sy_ll {k : Fin 4} {x : Int64} (h : pi_get lv (k : Nat) = some (.long x)) : pi_step own ini nL (.lload_n k) 1 (pc, lv, r, w) = some (pc + 1, lv, .long x :: r, w) := by
  simp only [pi_step, h, if_true]
theorem sy_is (hk : k < nL) : pi_step own ini nL (.istore k) 2 (pc, lv, .int x :: r, w) = some (pc + 2, pi_set lv k (.int x), r, w) := by
  simp only [pi_step]
  rw [if_pos ⟨trivial, hk⟩]
theorem sy_len {t : Nat} (hC : af_Conf aw_Sh w) (hSh : aw_Sh[a]? = some (.inl (t, m, S))) : pi_step own ini nL .arraylength 1 (pc, lv, .ref a :: r, w) = some (pc + 1, lv, .int (Int32.ofNat m) :: r, w) := by
  obtain ⟨e, he, hoc⟩ := hC.at hSh
  have ho : af_okA t m S e := hoc
  unfold af_okA at ho
  split at ho
  · rename_i ht
    obtain ⟨f, rfl⟩ := ho
    simp [pi_step, he]
  · obtain ⟨h4, f, rfl, -⟩ := ho
    simp [pi_step, he, h4]
theorem sy_pf (hf : pi_fetch mi.2.2.2.2 pc = some (.putfield cp, 3)) (hC : af_Conf aw_Sh w) (hSh : aw_Sh[a]? = some (.inr (ci, fts))) (hl : pi_look pi_fT mi.1 cp = some (ci, k, q)) (hft : fts[k]? = some (.inr (.inl (lo, hi)))) (hx : lo ≤ x.toInt ∧ x.toInt ≤ hi) (hn : narrow (pi_ty ci k) (.int x) = .int x) (hfi : fits (pi_ty ci k) (.int x) = true) (hnf : (vwCl[ci]?.map (fun q => (q.2.1 k).2.2.2)) = some false) (h : ∀ w', af_Conf aw_Sh w' → wr1 w a k (.int x) w' → hq_F d mi Q (pc + 3, lv, r, w')) : hq_F d mi Q (pc, lv, .int x :: .ref a :: r, w) :=
  hq_F.pf hf hC hSh hl hft hx hn hfi hnf (fun w' h1 h2 h3 => h w' h1 (wp_of h2 h3))
theorem sy_pl {x : Int64} (hf : pi_fetch mi.2.2.2.2 pc = some (.putfield cp, 3)) (hC : af_Conf aw_Sh w) (hSh : aw_Sh[a]? = some (.inr (ci, fts))) (hl : pi_look pi_fT mi.1 cp = some (ci, k, q)) (hft : fts[k]? = some (.inr (.inr ()))) (hn : narrow (pi_ty ci k) (.long x) = .long x) (hfi : fits (pi_ty ci k) (.long x) = true) (hnf : (vwCl[ci]?.map (fun q => (q.2.1 k).2.2.2)) = some false) (h : ∀ w', af_Conf aw_Sh w' → wr1 w a k (.long x) w' → hq_F d mi Q (pc + 3, lv, r, w')) : hq_F d mi Q (pc, lv, .long x :: .ref a :: r, w) := by
  obtain ⟨e, he, fs, rfl, hln, hfs⟩ := hC.at hSh
  have hkl : k < fs.length := by
    rw [hln]
    exact (List.getElem?_eq_some_iff.mp hft).1
  have hC' : af_Conf aw_Sh (w.set a (.inr (ci, fs.set k (.long x)))) := hC.set hSh (af_okO_set hln hfs hft ⟨x, rfl⟩)
  refine hq_F.st (s' := (pc + 3, lv, r, w.set a (.inr (ci, fs.set k (.long x))))) hf rfl rfl rfl ?_ (h _ hC' ?_)
  · simp only [pi_step, hl, he]
    rw [if_pos trivial, if_pos ⟨trivial, hkl, hn, hfi, Or.inr hnf⟩]
  · intro c i
    rw [af_wloc_set he]
    by_cases hc : c = a
    · subst hc
      rw [if_pos rfl]
      by_cases hi : i = k
      · subst hi
        rw [if_pos ⟨rfl, rfl⟩]
        simp only [af_cloc]
        exact List.getElem?_set_self hkl
      · rw [if_neg (fun q => hi q.2)]
        unfold af_wloc
        rw [he]
        simp only [af_cloc]
        exact List.getElem?_set_ne (fun q => hi q.symm)
    · rw [if_neg hc, if_neg (fun q => hc q.1)]
theorem sy_spec {i : Instr} {len kind z na : Nat} {kinds : List Nat} {s s' : pi_S} (hf : pi_fetch mi.2.2.2.2 s.1 = some (i, len)) (hE : pi_isEnd i = false) (hi : pi_inv i = some (cp, kinds)) (hl : pi_look pi_iT mi.1 cp = some (kind, z, na, q)) (hk : ¬ (kinds.contains kind = false ∨ len ≠ 3)) (h3 : 3 < kind) (h5 : ¬ (kind = 6 ∨ kind = 7)) (hs : pi_spec kind s = some s') (hq : hq_F d mi Q s') : hq_F d mi Q s := by
  obtain ⟨n, r, w', h1, h2⟩ := hq
  refine ⟨n + 1, r, w', ?_, h2⟩
  rw [pi_run, hf]
  dsimp only
  rw [hE, hi]
  dsimp only
  rw [hl]
  dsimp only
  rw [if_neg (by decide), if_neg hk, if_pos h3, if_neg (fun q => h5 q.2), hs]
  exact h1
theorem sy_argsV {na : Nat} {st As rest : List Value} (hC : af_Conf aw_Sh w) (hSh : aw_Sh[a]? = some (.inr (ci, fts))) (h1 : (st.take (na + 1)).reverse = .ref a :: As) (h2 : st.drop (na + 1) = rest) (h3 : As.length = na) (h4 : pi_cats rest ≤ 8) (h5 : mz.1 = ci) (h6 : (lg_sl (.ref a :: As)).length ≤ mz.2.1) (h7 : mz.2.2.2.1 = false) (h8 : mz.2.1 ≤ 40) : pi_args 2 na mz (pc, lv, st, w) = some (.ref a :: As, rest) := by
  obtain ⟨e, he, fs, rfl, -, -⟩ := hC.at hSh
  have hr : pi_recv 2 mz.1 (.ref a :: As) w = true := by simp [pi_recv, he, h5]
  have e2 : (if (2 : Nat) < 2 then na else na + 1) = na + 1 := rfl
  unfold pi_args
  dsimp only
  rw [e2, h1, h2]
  exact if_pos ⟨by simp [h3], h4, hr, h6, by rw [h7]; rfl, Or.inl (by decide), h8⟩
theorem sy_argsS {kind na : Nat} {st As rest : List Value} (h1 : (st.take na).reverse = As) (h2 : st.drop na = rest) (h3 : As.length = na) (h4 : pi_cats rest ≤ 8) (hk : kind < 2) (h7 : mz.2.2.2.1 = false) (h6 : (lg_sl As).length ≤ mz.2.1) (h8 : mz.2.1 ≤ 40) : pi_args kind na mz (pc, lv, st, w) = some (As, rest) := by
  have e2 : (if kind < 2 then na else na + 1) = na := if_pos hk
  have hc : kind = 0 ∨ kind = 1 := by omega
  have hr : pi_recv kind mz.1 As w = true := by
    rcases hc with rfl | rfl <;> rfl
  unfold pi_args
  dsimp only
  rw [e2, h1, h2]
  refine if_pos ⟨h3, h4, hr, h6, ?_, Or.inl (by omega), h8⟩
  rw [h7]
  rcases hc with rfl | rfl <;> rfl
theorem sy_ba (hC : af_Conf aw_Sh w) (hSh : aw_Sh[a]? = some (.inl (1, m, S))) (hj : j.toInt = (n : Int)) (hn : n < m) : pi_step own ini nL .baload 1 (pc, lv, .int j :: .ref a :: r, w) = some (pc + 1, lv, .int (gv w a n) :: r, w) := by
  obtain ⟨e, he, hoc⟩ := hC.at hSh
  obtain ⟨fn, rfl, -⟩ := af_okA.int (by decide) hoc
  obtain ⟨c1, c2⟩ := af_cl (x := j) (by omega)
  have e1 : j.toNatClampNeg = n := by omega
  have hg : gv w a n = fn n := gv_of (by
    unfold af_wloc
    rw [he]
    simp only [af_cloc, if_pos hn])
  have h0 : ¬ (j < 0 ∨ m ≤ n) := by
    rintro (q | q)
    · exact c1 q
    · omega
  simp only [pi_step, he, e1, h0, if_true, if_false, hg]
theorem sy_la (hC : af_Conf aw_Sh w) (hSh : aw_Sh[a]? = some (.inl (2, m, S))) (hj : j.toInt = (n : Int)) (hn : n < m) : pi_step own ini nL .laload 1 (pc, lv, .int j :: .ref a :: r, w) = some (pc + 1, lv, .long (gl w a n) :: r, w) := by
  obtain ⟨e, he, hoc⟩ := hC.at hSh
  have h2 : ∃ f, e = .inl (2, m, .inr (.inl f)) := hoc
  obtain ⟨f, rfl⟩ := h2
  obtain ⟨c1, c2⟩ := af_cl (x := j) (by omega)
  have e1 : j.toNatClampNeg = n := by omega
  have hg : gl w a n = f n := gl_of (by
    unfold af_wloc
    rw [he]
    simp only [af_cloc, if_pos hn])
  have h0 : ¬ (j < 0 ∨ m ≤ n) := by
    rintro (q | q)
    · exact c1 q
    · omega
  simp only [pi_step, he, e1, h0, if_true, if_false, hg]
end SY
