/-! ===== stretches of code, by the abstract interpreter; and single steps, by hand ===== -/
theorem ax_run {Sh : af_H} {d : Nat} {mi : pi_M} {Φ : pi_S → Prop} {CT : List af_K} {E ns : Nat} {M NT : af_M} {Ps : List af_Q} {CL : List (Nat × af_S × af_U)} {SP : List (Nat × Nat × Nat)} {ρ0 ρs : Nat → Int} {w0 : pi_W} {old : Option af_U} (hΦ : ∀ s s', af_To (d + 1) mi s s' → Φ s' → Φ s) (hfin : ∀ s, af_Fin Sh (d + 1) mi M w0 E ρ0 Ps s → Φ s) (hCT : ∀ K ∈ CT, af_Holds Sh d K) (hwf : ∀ P ∈ Ps, af_wfQ P = true) (hCL : ∀ q ∈ CL, af_wfS q.2.1 = true) (hU : ∀ U, old = some U → ∀ u ∈ U, af_wf ns u.2.2)
    (hcut : ∀ (s' : pi_S) (q : Nat × af_S × af_U) (ρ' : Nat → Int), q ∈ CL → s'.1 = q.1 → af_Sat Sh ρ' q.2.1 s' → af_ag E ρ0 ρ' → af_Fr M w0 s'.2.2.2 → (∀ U, old = some U → af_ll (q.2.2.map (af_mu ρ')) (U.map (af_mu ρs))) → Φ s') : ∀ {fuel pc : Nat} {σ : af_S} {ρ : Nat → Int} {lv : pi_L} {st : List Value} {w : pi_W}, af_run fuel ((mi.1, mi.2.1, mi.2.2.1, mi.2.2.2.2), Sh, CT, E, M, Ps, CL, NT, SP) old (pc, σ) = true → af_Sat Sh ρ σ (pc, lv, st, w) → E ≤ σ.1 → af_ag E ρ0 ρ → af_Fr M w0 w → ns ≤ σ.1 → af_ag ns ρs ρ → Φ (pc, lv, st, w)
  | 0, _, _, _, _, _, _, h, _, _, _, _, _, _ => by cases h
  | fuel + 1, pc, σ, ρ, lv, st, w, h, hS, hE, hag, hF, hns, hags => by
    unfold af_run at h
    split at h
    · cases h
    · rename_i R hR
      rcases af_next_ok hCT hwf hE hS hR hag hF with hfn | ⟨⟨pc', lv', st', w'⟩, hto, hF', q, hq, e1, e2, ρ', e3, e4⟩
      · exact hfin _ hfn
      · refine hΦ _ _ hto ?_
        dsimp only at e1
        have hq2 := List.all_eq_true.mp h q hq
        have hag' : af_ag E ρ0 ρ' := hag.tr hE e3
        have hags' : af_ag ns ρs ρ' := hags.tr hns e3
        split at hq2
        · obtain ⟨c, hc, h1⟩ := List.any_eq_true.mp hq2
          rw [Bool.and_eq_true, beq_iff_eq] at h1
          obtain ⟨h1, h2⟩ := h1
          split at h2
          · cases h2
          · rename_i θ hθ
            have hm := af_mS_ok (Nat.le_trans hE e2) e4 hθ (hCL c hc)
            refine hcut (pc', lv', st', w') c (af_rho ρ' E θ) hc (e1.symm.trans h1.symm) hm.2 (hag'.tr (Nat.le_refl _) (af_rho_ag ρ' E θ)) (hF.tr hF') ?_
            intro U hold
            subst hold
            dsimp only at h2
            split at h2
            · cases h2
            · rename_i U' hU'
              have hl := af_lex_ok e4.2.2.2.2 h2
              rw [af_sU_ok (af_rho_th ρ' E θ) hU', af_mu_ag (hU U rfl) hags'] at hl
              exact hl
        · obtain ⟨qpc, qσ⟩ := q
          dsimp only at e1 e2 e4
          subst e1
          exact ax_run hΦ hfin hCT hwf hCL hU hcut hq2 e4 (Nat.le_trans hE e2) hag' (hF.tr hF') (Nat.le_trans hns e2) hags'
def ax_wf (E : Nat) (Ps : List af_Q) (CL : List (Nat × af_S × af_U)) : Bool := Ps.all af_wfQ && CL.all (fun q => af_wfS q.2.1 && (Nat.ble E q.2.1.1 && (Nat.ble q.2.2.length 12 && q.2.2.all (fun u => af_wfb q.2.1.1 u.2.2))))
theorem ax_seg {G : af_G} {d : Nat} {mi : pi_M} {Φ : pi_S → Prop} {fuel nl : Nat} {ρ0 : Nat → Int} {pc : Nat} {σ : af_S} {lv : pi_L} {st : List Value} {w0 : pi_W} (hG : G.1 = (mi.1, mi.2.1, mi.2.2.1, mi.2.2.2.2)) (hCT : ∀ K ∈ G.2.2.1, af_Holds G.2.1 d K) (hk : ax_wf G.2.2.2.1 G.2.2.2.2.2.1 G.2.2.2.2.2.2.1 = true) (hl : (G.2.2.2.2.2.2.1.take nl).all (fun q => af_pos q.2.1.2.2.2.2 q.2.2 && af_run fuel G (some q.2.2) (q.1, q.2.1)) = true) (h1 : af_run fuel G none (pc, σ) = true) (hE : Nat.ble G.2.2.2.1 σ.1 = true) (hS : af_Sat G.2.1 ρ0 σ (pc, lv, st, w0)) (hΦ : ∀ s s', af_To (d + 1) mi s s' → Φ s' → Φ s) (hfin : ∀ s, af_Fin G.2.1 (d + 1) mi G.2.2.2.2.1 w0 G.2.2.2.1 ρ0 G.2.2.2.2.2.1 s → Φ s)
    (hx : ∀ (s' : pi_S) (q : Nat × af_S × af_U) (ρ' : Nat → Int), q ∈ G.2.2.2.2.2.2.1.drop nl → s'.1 = q.1 → af_Sat G.2.1 ρ' q.2.1 s' → af_ag G.2.2.2.1 ρ0 ρ' → af_Fr G.2.2.2.2.1 w0 s'.2.2.2 → Φ s') : Φ (pc, lv, st, w0) := by
  obtain ⟨g, Sh, CT, E, M, Ps, CL, NT, SP⟩ := G
  dsimp only at hG hCT hk hl h1 hE hS hfin hx
  subst hG
  unfold ax_wf at hk
  rw [Bool.and_eq_true] at hk
  obtain ⟨hPs, hCLb⟩ := hk
  rw [Nat.ble_eq] at hE
  have hwf : ∀ P ∈ Ps, af_wfQ P = true := fun P hP => List.all_eq_true.mp hPs P hP
  have hCL : ∀ q ∈ CL, af_wfS q.2.1 = true ∧ E ≤ q.2.1.1 ∧ q.2.2.length ≤ 12 ∧ ∀ u ∈ q.2.2, af_wf q.2.1.1 u.2.2 := by
    intro q hq
    have r := List.all_eq_true.mp hCLb q hq
    rw [Bool.and_eq_true, Bool.and_eq_true, Bool.and_eq_true, Nat.ble_eq, Nat.ble_eq] at r
    exact ⟨r.1, r.2.1, r.2.2.1, fun u hu => af_wfb_ok (List.all_eq_true.mp r.2.2.2 u hu)⟩
  have hpart : ∀ q ∈ CL, q ∈ CL.take nl ∨ q ∈ CL.drop nl := by
    intro q hq
    rw [← List.take_append_drop nl CL] at hq
    exact List.mem_append.mp hq
  have hloop : ∀ (m : Nat) (q : Nat × af_S × af_U) (s : pi_S) (ρ' : Nat → Int), q ∈ CL.take nl → s.1 = q.1 → af_Sat Sh ρ' q.2.1 s → af_ag E ρ0 ρ' → af_Fr M w0 s.2.2.2 → af_enc 12 (q.2.2.map (af_mu ρ')) < m → Φ s := by
    intro m
    induction m with
    | zero => intro q s ρ' _ _ _ _ _ hm; omega
    | succ m ih =>
      intro q s ρ' hq hpc hS hag hF hm
      obtain ⟨pc, lv, st, w⟩ := s
      dsimp only at hpc hF
      subst hpc
      have r := List.all_eq_true.mp hl q hq
      rw [Bool.and_eq_true] at r
      obtain ⟨k1, k2, k3, k4⟩ := hCL q (List.mem_of_mem_take hq)
      have p1 := af_pos_ok hS.2.2.2.2 r.1
      refine ax_run (ns := q.2.1.1) (ρs := ρ') hΦ hfin hCT hwf (fun q hq => (hCL q hq).1) (fun U hU => by cases hU; exact k4) ?_ r.2 hS k2 hag hF (Nat.le_refl _) (af_ag.rf _ _)
      intro s' q' ρ'' hq' hpc' hS' hag' hF' hll
      rcases hpart q' hq' with hq1 | hq1
      · refine ih q' s' ρ'' hq1 hpc' hS' hag' hF' ?_
        have r' := List.all_eq_true.mp hl q' hq1
        rw [Bool.and_eq_true] at r'
        have p2 := af_pos_ok hS'.2.2.2.2 r'.1
        have hlt := af_enc_ll (m := 12) (by rw [List.length_map]; exact (hCL q' hq').2.2.1) p2 p1 (hll _ rfl)
        omega
      · exact hx s' q' ρ'' hq1 hpc' hS' hag' hF'
  refine ax_run (ns := 0) (ρs := ρ0) hΦ hfin hCT hwf (fun q hq => (hCL q hq).1) (fun U hU => by cases hU) ?_ h1 hS hE (af_ag.rf _ _) (af_Fr.rf _ _) (Nat.zero_le _) (af_ag.rf _ _)
  intro s' q' ρ'' hq' hpc' hS' hag' hF' _
  rcases hpart q' hq' with hq1 | hq1
  · exact hloop _ q' s' ρ'' hq1 hpc' hS' hag' hF' (Nat.lt_succ_self _)
  · exact hx s' q' ρ'' hq1 hpc' hS' hag' hF'
/-- it comes to an end, and then Q -/
def hq_F (d : Nat) (mi : pi_M) (Q : Option Value → pi_W → Prop) (s : pi_S) : Prop := ∃ n r w', pi_run n d mi s 0 0 = some (r, w', 0, 0) ∧ Q r w'
section HQ
variable {d : Nat} {mi mz : pi_M} {Q Q' : Option Value → pi_W → Prop} {s s' : pi_S} {i : Instr} {len : Nat}
theorem hq_F.to (h : af_To d mi s s') (hq : hq_F d mi Q s') : hq_F d mi Q s := by
  obtain ⟨n, r, w', h1, h2⟩ := hq
  obtain ⟨n', h3⟩ := h n _ h1
  exact ⟨n', r, w', h3, h2⟩
theorem hq_F.st (hf : pi_fetch mi.2.2.2.2 s.1 = some (i, len)) (hE : pi_isEnd i = false) (hi : pi_inv i = none) (hN : pi_isNew i = false) (hs : pi_step mi.1 mi.2.2.2.1 mi.2.1 i len s = some s') (hq : hq_F d mi Q s') : hq_F d mi Q s := hq_F.to (ht_st hf hE hi hN hs) hq
theorem hq_F.en {r : Option Value} (hf : pi_fetch mi.2.2.2.2 s.1 = some (i, len)) (hE : pi_isEnd i = true) (hr : pi_end mi.2.2.1 i len s = some r) (hq : Q r s.2.2.2) : hq_F d mi Q s := ⟨1, r, s.2.2.2, pi_fi hf hE hr, hq⟩
theorem hq_F.imp (hq : hq_F d mi Q s) (h : ∀ r w, Q r w → Q' r w) : hq_F d mi Q' s := by
  obtain ⟨n, r, w', h1, h2⟩ := hq
  exact ⟨n, r, w', h1, h r w' h2⟩
theorem hq_F.mono {d' : Nat} (hq : hq_F d mi Q s) (hd : d ≤ d') : hq_F d' mi Q s := by
  obtain ⟨n, r, w', h1, h2⟩ := hq
  exact ⟨n, r, w', pi_deep h1 hd, h2⟩
theorem hq_F.call {cp kind z na q : Nat} {kinds : List Nat} {y : MethodName} {cc : ByteArray} {As rest : List Value} {Qz : Option Value → pi_W → Prop} (hf : pi_fetch mi.2.2.2.2 s.1 = some (i, len)) (hE : pi_isEnd i = false) (hi : pi_inv i = some (cp, kinds)) (hl : pi_look pi_iT mi.1 cp = some (kind, z, na, q)) (hk : ¬ (kinds.contains kind = false ∨ len ≠ 3)) (h3 : ¬ 3 < kind) (hm : pi_mt[z]? = some (y, cc, mz)) (ha : pi_args kind na mz s = some (As, rest)) (hz : hq_F d mz Qz (0, lv_args 0 As, [], s.2.2.2)) (hw : ∀ r w', Qz r w' → w'.length = s.2.2.2.length) (hq : ∀ r w', Qz r w' → hq_F (d + 1) mi Q (s.1 + 3, s.2.1, r.toList ++ rest, w')) : hq_F (d + 1) mi Q s := by
  obtain ⟨n1, r1, w1, h1, h2⟩ := hz
  obtain ⟨n2, r2, w2, h4, h5⟩ := hq r1 w1 h2
  refine ⟨n1 + n2 + 1, r2, w2, ?_, h5⟩
  have e1 := pi_more (k := n1 + n2) h1 (by omega)
  have e2 := pi_more (k := n1 + n2) h4 (by omega)
  have hkp : pi_keep s.2.1 rest s.2.2.2 w1 = true := by simp [pi_keep, hw r1 w1 h2]
  rw [pi_run, hf]
  dsimp only
  rw [hE, hi]
  dsimp only
  rw [hl]
  dsimp only
  rw [if_neg (by decide), if_neg hk, if_neg h3, hm]
  dsimp only
  rw [ha]
  dsimp only
  rw [e1]
  dsimp only
  rw [if_pos hkp]
  exact e2
end HQ
theorem hq_args {na : Nat} {mz : pi_M} {pc : Nat} {lv : pi_L} {st As rest : List Value} {w : pi_W} (hC : af_Conf aw_Sh w) (h1 : (st.take (na + 1)).reverse = .ref 61 :: As) (h2 : st.drop (na + 1) = rest) (h3 : As.length = na) (h4 : pi_cats rest ≤ 8) (h5 : mz.1 = 11) (h6 : (lg_sl (.ref 61 :: As)).length ≤ mz.2.1) (h7 : mz.2.2.2.1 = false) (h8 : mz.2.1 ≤ 40) : pi_args 2 na mz (pc, lv, st, w) = some (.ref 61 :: As, rest) := by
  obtain ⟨e, he, fs, rfl, -, -⟩ := hC.at (a := 61) (c := .inr (11, _)) rfl
  have hr : pi_recv 2 mz.1 (.ref 61 :: As) w = true := by simp [pi_recv, he, h5]
  have e2 : (if (2 : Nat) < 2 then na else na + 1) = na + 1 := rfl
  unfold pi_args
  dsimp only
  rw [e2, h1, h2]
  exact if_pos ⟨by simp [h3], h4, hr, h6, by rw [h7]; rfl, Or.inl (by decide), h8⟩
/-- what a contract gives -/
def hq_K (K : af_K) (ρ : Nat → Int) (w : pi_W) (r : Option Value) (w' : pi_W) : Prop := af_Conf aw_Sh w' ∧ af_Fr K.2.2.2.1 w w' ∧ ∃ P ∈ K.2.2.2.2, af_End aw_Sh K.2.1 ρ P r.toList w'
theorem hq_holds {d d' : Nat} {K : af_K} {y : MethodName} {cc : ByteArray} {mz : pi_M} (h : af_Holds aw_Sh d' K) (hd : d' ≤ d) (hz : pi_mt[K.1]? = some (y, cc, mz)) (ρ : Nat → Int) {As : List Value} {w : pi_W} (hC : af_Conf aw_Sh w) (hs : af_St K.2.2.1.1 ρ K.2.2.1.2.1 As) (hT : af_Sl K.2.2.1.1 ρ K.2.2.1.2.2.1 w) (hK : af_Kn K.2.2.1.1 ρ aw_Sh K.2.2.1.2.2.2) : hq_F d mz (hq_K K ρ w) (0, lv_args 0 As, [], w) := by
  obtain ⟨-, y', cc', mz', h1, h2⟩ := h.mono hd
  rw [hz] at h1
  cases h1
  obtain ⟨n, r, w', k1, k2, k3, k4⟩ := h2 ρ As w hC hs hT hK
  exact ⟨n, r, w', k1, k2, k3, k4⟩
theorem hq_K.len {K : af_K} {ρ : Nat → Int} {w w' : pi_W} {r : Option Value} (hC : af_Conf aw_Sh w) (h : hq_K K ρ w r w') : w'.length = w.length := by rw [h.1.1, hC.1]
theorem hq_fin {Sh : af_H} {d : Nat} {mi : pi_M} {M : af_M} {w0 : pi_W} {E : Nat} {ρ0 : Nat → Int} {Ps : List af_Q} {s : pi_S} {Q : Option Value → pi_W → Prop} (h : af_Fin Sh d mi M w0 E ρ0 Ps s) (hq : ∀ r w', af_Conf Sh w' → af_Fr M w0 w' → (∃ P ∈ Ps, af_End Sh E ρ0 P r.toList w') → Q r w') : hq_F d mi Q s := by
  obtain ⟨n, r, w', h1, h2, h3, h4⟩ := h
  exact ⟨n, r, w', h1, hq r w' h2 h3 h4⟩
theorem hq_cov1 {a n c i : Nat} : af_cov [(a, n, n + 1)] c i i = true ↔ a = c ∧ i = n := by
  unfold af_cov
  simp only [List.any_cons, List.any_nil, Bool.or_false, Bool.and_eq_true, beq_iff_eq, Nat.ble_eq, Nat.blt_eq]
  omega
section HR
variable {own nL pc a ci k q cp m : Nat} {ini : Bool} {lv : pi_L} {r : List Value} {w w' : pi_W} {x j : Int32} {fts : List (Nat ⊕ (Int × Int) ⊕ Unit)} {lo hi : Int} {S : List (Nat × Int × Int)} {M : af_M} {v : Value}
theorem hq_int (hC : af_Conf aw_Sh w) {c i : Nat} (hc : c ≠ af_virt) (h : af_bnd aw_Sh c i = some (lo, hi)) : ∃ x : Int32, af_wloc w c i = some (.int x) ∧ lo ≤ x.toInt ∧ x.toInt ≤ hi := by
  obtain ⟨x, h1, h2⟩ := af_bnd_ok hC h
  unfold af_loc at h1
  rw [if_neg hc] at h1
  exact ⟨x, h1, h2⟩
theorem hq_gf (hC : af_Conf aw_Sh w) (hSh : aw_Sh[a]? = some (.inr (ci, fts))) (hl : pi_look pi_fT own cp = some (ci, k, q)) (hv : af_wloc w a k = some v) : pi_step own ini nL (.getfield cp) 3 (pc, lv, .ref a :: r, w) = some (pc + 3, lv, v :: r, w) := by
  obtain ⟨e, he, fs, rfl, -, -⟩ := hC.at hSh
  refine hp_gf hl he ?_
  unfold af_wloc at hv
  rw [he] at hv
  exact hv
theorem hq_ref {b : Nat} (hC : af_Conf aw_Sh w) (hSh : aw_Sh[a]? = some (.inr (ci, fts))) (hf : fts[k]? = some (.inl b)) : af_wloc w a k = some (.ref b) := by
  obtain ⟨e, he, fs, rfl, -, hfs⟩ := hC.at hSh
  obtain ⟨v, h1, h2⟩ := hfs k _ hf
  have h3 : v = .ref b := h2
  subst h3
  unfold af_wloc
  rw [he]
  exact h1
theorem hq_pf (hC : af_Conf aw_Sh w) (hSh : aw_Sh[a]? = some (.inr (ci, fts))) (hl : pi_look pi_fT own cp = some (ci, k, q)) (hft : fts[k]? = some (.inr (.inl (lo, hi)))) (hx : lo ≤ x.toInt ∧ x.toInt ≤ hi) (hn : narrow (pi_ty ci k) (.int x) = .int x) (hfi : fits (pi_ty ci k) (.int x) = true) (hnf : (vwCl[ci]?.map (fun q => (q.2.1 k).2.2.2)) = some false) : ∃ w', pi_step own ini nL (.putfield cp) 3 (pc, lv, .int x :: .ref a :: r, w) = some (pc + 3, lv, r, w') ∧ af_Conf aw_Sh w' ∧ af_Fr [(a, k, k + 1)] w w' ∧ af_wloc w' a k = some (.int x) := by
  obtain ⟨e, he, fs, rfl, hln, hfs⟩ := hC.at hSh
  have hkl : k < fs.length := by rw [hln]; exact (List.getElem?_eq_some_iff.mp hft).1
  refine ⟨w.set a (.inr (ci, fs.set k (.int x))), ?_, hC.set hSh (af_okO_set hln hfs hft ⟨x, rfl, hx.1, hx.2⟩), ?_, ?_⟩
  · simp only [pi_step, hl, he]
    rw [if_pos trivial, if_pos ⟨trivial, hkl, hn, hfi, Or.inr hnf⟩]
  · intro c i hcv
    rw [af_wloc_set he]
    by_cases hc : c = a
    · rw [if_pos hc]
      subst hc
      have hi : i ≠ k := by
        intro e
        rw [hq_cov1.mpr ⟨rfl, e⟩] at hcv
        cases hcv
      unfold af_wloc
      rw [he]
      simp only [af_cloc]
      exact List.getElem?_set_ne (fun q => hi q.symm)
    · rw [if_neg hc]
  · rw [af_wloc_set he, if_pos rfl]
    simp only [af_cloc]
    exact List.getElem?_set_self hkl
theorem hq_ia {n : Nat} (hC : af_Conf aw_Sh w) (hSh : aw_Sh[a]? = some (.inl (0, m, S))) (hj : j.toInt = (n : Int)) (hv : af_wloc w a n = some (.int x)) : pi_step own ini nL .iaload 1 (pc, lv, .int j :: .ref a :: r, w) = some (pc + 1, lv, .int x :: r, w) := by
  obtain ⟨e, he, hoc⟩ := hC.at hSh
  obtain ⟨fn, rfl, -⟩ := af_okA.int (by decide) hoc
  obtain ⟨c1, c2⟩ := af_cl (x := j) (by omega)
  have e1 : j.toNatClampNeg = n := by omega
  unfold af_wloc at hv
  rw [he] at hv
  simp only [af_cloc] at hv
  split at hv
  · rename_i hn
    cases hv
    have := hs_ia (own := own) (ini := ini) (nL := nL) (pc := pc) (lv := lv) (r := r) (x := j) he (by rw [e1]; rintro (q | q); exact c1 q; omega)
    rw [this, e1]
  · cases hv
theorem hq_is {n : Nat} (hC : af_Conf aw_Sh w) (hSh : aw_Sh[a]? = some (.inl (0, m, S))) (hj : j.toInt = (n : Int)) (hn : n < m) (hx : ∀ q, af_seg S n = some q → q.1 ≤ x.toInt ∧ x.toInt ≤ q.2) : ∃ w', pi_step own ini nL .iastore 1 (pc, lv, .int x :: .int j :: .ref a :: r, w) = some (pc + 1, lv, r, w') ∧ af_Conf aw_Sh w' ∧ af_Fr [(a, n, n + 1)] w w' ∧ af_wloc w' a n = some (.int x) := by
  obtain ⟨e, he, hoc⟩ := hC.at hSh
  obtain ⟨fn, rfl, hfn⟩ := af_okA.int (by decide) hoc
  obtain ⟨c1, c2⟩ := af_cl (x := j) (by omega)
  have e1 : j.toNatClampNeg = n := by omega
  refine ⟨w.set a (.inl (0, m, .inl (upd fn n x))), ?_, hC.set hSh (af_okA.upd (by decide) (by decide) hfn hx), ?_, ?_⟩
  · rw [hs_is he (by rw [e1]; rintro (q | q); exact c1 q; omega), e1]
  · intro c i hcv
    rw [af_wloc_set he]
    by_cases hc : c = a
    · rw [if_pos hc]
      subst hc
      have hi : i ≠ n := by
        intro e
        rw [hq_cov1.mpr ⟨rfl, e⟩] at hcv
        cases hcv
      unfold af_wloc
      rw [he]
      exact af_cloc_upd i hi
    · rw [if_neg hc]
  · rw [af_wloc_set he, if_pos rfl]
    exact af_cloc_at hn
theorem hq_ba {n : Nat} (hC : af_Conf aw_Sh w) (hSh : aw_Sh[a]? = some (.inl (3, m, S))) (hj : j.toInt = (n : Int)) (hv : af_wloc w a n = some (.int x)) : pi_step own ini nL .baload 1 (pc, lv, .int j :: .ref a :: r, w) = some (pc + 1, lv, .int x :: r, w) := by
  obtain ⟨e, he, hoc⟩ := hC.at hSh
  obtain ⟨fn, rfl, -⟩ := af_okA.int (by decide) hoc
  obtain ⟨c1, c2⟩ := af_cl (x := j) (by omega)
  have e1 : j.toNatClampNeg = n := by omega
  unfold af_wloc at hv
  rw [he] at hv
  simp only [af_cloc] at hv
  split at hv
  · rename_i hn
    cases hv
    have h0 : ¬ (j < 0 ∨ m ≤ n) := by rintro (q | q); exact c1 q; omega
    simp only [pi_step, he, h0, if_true, if_false, e1]
  · cases hv
theorem hq_bs {n : Nat} (hC : af_Conf aw_Sh w) (hSh : aw_Sh[a]? = some (.inl (3, m, S))) (hj : j.toInt = (n : Int)) (hn : n < m) (hb : vp_nar .boolean x = x) (hx : ∀ q, af_seg S n = some q → q.1 ≤ x.toInt ∧ x.toInt ≤ q.2) : ∃ w', pi_step own ini nL .bastore 1 (pc, lv, .int x :: .int j :: .ref a :: r, w) = some (pc + 1, lv, r, w') ∧ af_Conf aw_Sh w' ∧ af_Fr [(a, n, n + 1)] w w' ∧ af_wloc w' a n = some (.int x) := by
  obtain ⟨e, he, hoc⟩ := hC.at hSh
  obtain ⟨fn, rfl, hfn⟩ := af_okA.int (by decide) hoc
  obtain ⟨c1, c2⟩ := af_cl (x := j) (by omega)
  have e1 : j.toNatClampNeg = n := by omega
  have h0 : ¬ (j < 0 ∨ m ≤ n) := by rintro (q | q); exact c1 q; omega
  refine ⟨w.set a (.inl (3, m, .inl (upd fn n x))), ?_, hC.set hSh (af_okA.upd (by decide) (by decide) hfn hx), ?_, ?_⟩
  · simp only [pi_step, he, h0, if_true, if_false, e1, hb]
  · intro c i hcv
    rw [af_wloc_set he]
    by_cases hc : c = a
    · rw [if_pos hc]
      subst hc
      have hi : i ≠ n := by
        intro e
        rw [hq_cov1.mpr ⟨rfl, e⟩] at hcv
        cases hcv
      unfold af_wloc
      rw [he]
      exact af_cloc_upd i hi
    · rw [if_neg hc]
  · rw [af_wloc_set he, if_pos rfl]
    exact af_cloc_at hn
theorem hq_cell (hF : af_Fr M w w') {c i : Nat} (hM : ∀ e ∈ M, e.1 ≠ c) : af_wloc w' c i = af_wloc w c i := by
  refine hF c i ?_
  unfold af_cov
  rw [List.any_eq_false]
  intro e he
  simp [hM e he]
theorem hq_fr {M' : af_M} (hF : af_Fr M w w') (hM : ∀ c i, af_cov M c i i = true → af_cov M' c i i = true) : af_Fr M' w w' := by
  intro c i h
  refine hF c i ?_
  cases hk : af_cov M c i i with
  | false => rfl
  | true => rw [hM c i hk] at h; cases h
theorem hq_one {n : Nat} (hF : af_Fr [(a, n, n + 1)] w w') {c i : Nat} (h : c ≠ a ∨ i ≠ n) : af_wloc w' c i = af_wloc w c i := by
  refine hF c i ?_
  cases hk : af_cov [(a, n, n + 1)] c i i with
  | false => rfl
  | true =>
    have := hq_cov1.mp hk
    omega
end HR
def hq_f61 : List (Nat ⊕ (Int × Int) ⊕ Unit) := match (aw_Sh[61]? : Option af_C) with
  | some (.inr (_, f)) => f
  | _ => []
theorem hq_s61 : aw_Sh[61]? = some (.inr (11, hq_f61)) := rfl
theorem hq_s65 : aw_Sh[65]? = some (.inl (0, 135, [(135, (-2147483648), 2147483647)])) := rfl
theorem hq_s74 : aw_Sh[74]? = some (.inl (0, 45, [(45, (-2147483648), 2147483647)])) := rfl
theorem hq_any {m n : Nat} {x : Int32} (q : Int × Int) (h : af_seg [(m, (-2147483648), 2147483647)] n = some q) : q.1 ≤ x.toInt ∧ x.toInt ≤ q.2 := by
  unfold af_seg at h
  split at h
  · cases h
    exact af_i32 x
  · cases h
section HV
variable {d pc a ci k q cp m n : Nat} {mi : pi_M} {Q : Option Value → pi_W → Prop} {lv : pi_L} {r : List Value} {w : pi_W} {x j : Int32} {fts : List (Nat ⊕ (Int × Int) ⊕ Unit)} {lo hi : Int} {S : List (Nat × Int × Int)}
theorem hq_F.is (hf : pi_fetch mi.2.2.2.2 pc = some (.iastore, 1)) (hC : af_Conf aw_Sh w) (hSh : aw_Sh[a]? = some (.inl (0, m, S))) (hj : j.toInt = (n : Int)) (hn : n < m) (hx : ∀ q, af_seg S n = some q → q.1 ≤ x.toInt ∧ x.toInt ≤ q.2) (h : ∀ w', af_Conf aw_Sh w' → af_Fr [(a, n, n + 1)] w w' → af_wloc w' a n = some (.int x) → hq_F d mi Q (pc + 1, lv, r, w')) : hq_F d mi Q (pc, lv, .int x :: .int j :: .ref a :: r, w) := by
  obtain ⟨w', e1, e2, e3, e4⟩ := hq_is (own := mi.1) (ini := mi.2.2.2.1) (nL := mi.2.1) (pc := pc) (lv := lv) (r := r) hC hSh hj hn hx
  exact hq_F.st hf rfl rfl rfl e1 (h w' e2 e3 e4)
theorem hq_F.bs (hf : pi_fetch mi.2.2.2.2 pc = some (.bastore, 1)) (hC : af_Conf aw_Sh w) (hSh : aw_Sh[a]? = some (.inl (3, m, S))) (hj : j.toInt = (n : Int)) (hn : n < m) (hb : vp_nar .boolean x = x) (hx : ∀ q, af_seg S n = some q → q.1 ≤ x.toInt ∧ x.toInt ≤ q.2) (h : ∀ w', af_Conf aw_Sh w' → af_Fr [(a, n, n + 1)] w w' → af_wloc w' a n = some (.int x) → hq_F d mi Q (pc + 1, lv, r, w')) : hq_F d mi Q (pc, lv, .int x :: .int j :: .ref a :: r, w) := by
  obtain ⟨w', e1, e2, e3, e4⟩ := hq_bs (own := mi.1) (ini := mi.2.2.2.1) (nL := mi.2.1) (pc := pc) (lv := lv) (r := r) hC hSh hj hn hb hx
  exact hq_F.st hf rfl rfl rfl e1 (h w' e2 e3 e4)
theorem hq_F.pf (hf : pi_fetch mi.2.2.2.2 pc = some (.putfield cp, 3)) (hC : af_Conf aw_Sh w) (hSh : aw_Sh[a]? = some (.inr (ci, fts))) (hl : pi_look pi_fT mi.1 cp = some (ci, k, q)) (hft : fts[k]? = some (.inr (.inl (lo, hi)))) (hx : lo ≤ x.toInt ∧ x.toInt ≤ hi) (hn : narrow (pi_ty ci k) (.int x) = .int x) (hfi : fits (pi_ty ci k) (.int x) = true) (hnf : (vwCl[ci]?.map (fun q => (q.2.1 k).2.2.2)) = some false) (h : ∀ w', af_Conf aw_Sh w' → af_Fr [(a, k, k + 1)] w w' → af_wloc w' a k = some (.int x) → hq_F d mi Q (pc + 3, lv, r, w')) : hq_F d mi Q (pc, lv, .int x :: .ref a :: r, w) := by
  obtain ⟨w', e1, e2, e3, e4⟩ := hq_pf (own := mi.1) (ini := mi.2.2.2.1) (nL := mi.2.1) (pc := pc) (lv := lv) (r := r) hC hSh hl hft hx hn hfi hnf
  exact hq_F.st hf rfl rfl rfl e1 (h w' e2 e3 e4)
end HV
