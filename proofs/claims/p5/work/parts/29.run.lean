/-! ===== runs, cuts, measures: a method keeps its contract ===== -/
def af_mu (ρ : Nat → Int) (u : Int × Nat × af_F) : Int := if u.2.1 = 0 then u.1 else if u.2.1 = 1 then u.1 - af_ev ρ u.2.2 else u.1 + af_ev ρ u.2.2
def af_ll : List Int → List Int → Prop
  | a :: W, b :: O => a < b ∨ (a ≤ b ∧ af_ll W O)
  | _, _ => False
def af_B : Nat := 1099511627776
def af_enc : Nat → List Int → Nat
  | 0, _ => 0
  | _ + 1, [] => 0
  | m + 1, a :: l => a.toNat * af_B ^ m + af_enc m l
theorem af_enc_lt : ∀ {m : Nat} {l : List Int}, (∀ a ∈ l, 0 ≤ a ∧ a < (af_B : Int)) → af_enc m l < af_B ^ m
  | 0, l, _ => Nat.one_pos
  | m + 1, [], _ => Nat.pow_pos (by decide)
  | m + 1, a :: l, h => by
    have ih := af_enc_lt (m := m) (l := l) (fun b hb => h b (List.mem_cons_of_mem _ hb))
    have ha := h a List.mem_cons_self
    have h1 : a.toNat + 1 ≤ af_B := by omega
    have h2 : (a.toNat + 1) * af_B ^ m ≤ af_B * af_B ^ m := Nat.mul_le_mul_right _ h1
    rw [Nat.add_mul, Nat.one_mul] at h2
    unfold af_enc
    rw [Nat.pow_succ, Nat.mul_comm (af_B ^ m) af_B]
    omega
theorem af_enc_ll : ∀ {m : Nat} {W O : List Int}, W.length ≤ m → (∀ a ∈ W, 0 ≤ a ∧ a < (af_B : Int)) → (∀ a ∈ O, 0 ≤ a ∧ a < (af_B : Int)) → af_ll W O → af_enc m W < af_enc m O
  | 0, a :: W, _, hl, _, _, _ => by
    rw [List.length_cons] at hl
    omega
  | m + 1, a :: W, b :: O, hl, hW, hO, h => by
    have ha := hW a List.mem_cons_self
    have hb := hO b List.mem_cons_self
    have hW' := fun c hc => hW c (List.mem_cons_of_mem _ hc)
    have hO' := fun c hc => hO c (List.mem_cons_of_mem _ hc)
    unfold af_enc
    rcases h with h | ⟨h, h2⟩
    · have e := af_enc_lt (m := m) hW'
      have h1 : a.toNat + 1 ≤ b.toNat := by omega
      have h2 : (a.toNat + 1) * af_B ^ m ≤ b.toNat * af_B ^ m := Nat.mul_le_mul_right _ h1
      rw [Nat.add_mul, Nat.one_mul] at h2
      omega
    · rw [List.length_cons] at hl
      have ih := af_enc_ll (m := m) (by omega) hW' hO' h2
      have h1 : a.toNat ≤ b.toNat := by omega
      have h3 : a.toNat * af_B ^ m ≤ b.toNat * af_B ^ m := Nat.mul_le_mul_right _ h1
      omega
  | _, [], _, _, _, _, h => by cases h
  | _, _ :: _, [], _, _, _, h => by cases h
section AFX
variable {Sh : af_H} {n d : Nat} {ρ : Nat → Int} {N : af_N} {w : pi_W} {mi : pi_M} {lv : pi_L} {st : List Value}
theorem af_lex_ok (hK : af_Kn n ρ Sh N) : ∀ {O W : af_U}, af_lex N O W = true → af_ll (W.map (af_mu ρ)) (O.map (af_mu ρ))
  | [], _, h => by simp [af_lex] at h
  | _ :: _, [], h => by simp [af_lex] at h
  | (k, s, f) :: O, (k', s', f') :: W, h => by
    unfold af_lex at h
    rw [List.map_cons, List.map_cons]
    show af_mu ρ (k', s', f') < af_mu ρ (k, s, f) ∨ (af_mu ρ (k', s', f') ≤ af_mu ρ (k, s, f) ∧ _)
    split at h
    · rename_i hs
      rw [Bool.and_eq_true, beq_iff_eq, beq_iff_eq] at hs
      obtain ⟨rfl, rfl⟩ := hs
      rw [Bool.or_eq_true, Bool.and_eq_true, decide_eq_true_eq, decide_eq_true_eq] at h
      have e1 : af_mu ρ (k, 0, f) = k := rfl
      have e2 : af_mu ρ (k', 0, f') = k' := rfl
      rw [e1, e2]
      rcases h with h | ⟨h, h2⟩
      · exact Or.inl h
      · exact Or.inr ⟨by omega, af_lex_ok hK h2⟩
    · split at h
      · rename_i hs
        rw [Bool.and_eq_true, beq_iff_eq, beq_iff_eq] at hs
        obtain ⟨rfl, rfl⟩ := hs
        have e1 : af_mu ρ (k, 1, f) = k - af_ev ρ f := rfl
        have e2 : af_mu ρ (k', 1, f') = k' - af_ev ρ f' := rfl
        rw [e1, e2]
        split at h
        · cases h
        · rename_i D hD
          have q := af_low_ok hK hD
          rw [Bool.or_eq_true, Bool.and_eq_true, decide_eq_true_eq, decide_eq_true_eq] at h
          rcases h with h | ⟨h, h2⟩
          · exact Or.inl (by omega)
          · exact Or.inr ⟨by omega, af_lex_ok hK h2⟩
      · split at h
        · rename_i hs
          rw [Bool.and_eq_true, beq_iff_eq, beq_iff_eq] at hs
          obtain ⟨rfl, rfl⟩ := hs
          have e1 : af_mu ρ (k, 2, f) = k + af_ev ρ f := rfl
          have e2 : af_mu ρ (k', 2, f') = k' + af_ev ρ f' := rfl
          rw [e1, e2]
          split at h
          · cases h
          · rename_i D hD
            have q := af_low_ok hK hD
            rw [Bool.or_eq_true, Bool.and_eq_true, decide_eq_true_eq, decide_eq_true_eq] at h
            rcases h with h | ⟨h, h2⟩
            · exact Or.inl (by omega)
            · exact Or.inr ⟨by omega, af_lex_ok hK h2⟩
        · cases h
theorem af_pos_ok {U : af_U} (hK : af_Kn n ρ Sh N) (h : af_pos N U = true) : ∀ a ∈ U.map (af_mu ρ), 0 ≤ a ∧ a < (af_B : Int) := by
  intro a ha
  obtain ⟨u, hu, rfl⟩ := List.mem_map.mp ha
  have q := List.all_eq_true.mp h u hu
  have eB : (af_B : Int) = 1099511627776 := rfl
  rw [eB]
  unfold af_mu
  split at q
  · cases q
  · rename_i a b hab
    have r := af_iv_ok hK hab
    split at q
    · rename_i h0
      rw [Bool.and_eq_true, decide_eq_true_eq, decide_eq_true_eq] at q
      rw [if_pos (by simpa using h0)]
      exact q
    · rename_i h0
      rw [if_neg (by simpa using h0)]
      split at q
      · rename_i h1
        rw [Bool.and_eq_true, decide_eq_true_eq, decide_eq_true_eq] at q
        rw [if_pos (by simpa using h1)]
        omega
      · rename_i h1
        rw [Bool.and_eq_true, decide_eq_true_eq, decide_eq_true_eq] at q
        rw [if_neg (by simpa using h1)]
        omega
theorem af_mu_eq {ρ1 ρ2 : Nat → Int} {k : Int} {s : Nat} {f f' : af_F} (h : af_ev ρ1 f = af_ev ρ2 f') : af_mu ρ1 (k, s, f) = af_mu ρ2 (k, s, f') := by
  unfold af_mu
  dsimp only
  rw [h]
theorem af_sU_ok {ρ' : Nat → Int} {g : Nat → Option af_F} (hg : ∀ v f, g v = some f → ρ' v = af_ev ρ f) : ∀ {U U' : af_U}, af_sU g U = some U' → U'.map (af_mu ρ) = U.map (af_mu ρ')
  | [], U', h => by
    cases h
    rfl
  | (k, s, f) :: U, U', h => by
    unfold af_sU at h
    split at h
    · cases h
    · rename_i f' hf
      split at h
      · cases h
      · rename_i U1 hU
        cases h
        rw [List.map_cons, List.map_cons, af_sU_ok hg hU, af_mu_eq (af_sb_ok hg hf).symm]
theorem af_mu_ag {ρ' : Nat → Int} {U : af_U} (hU : ∀ u ∈ U, af_wf n u.2.2) (ha : af_ag n ρ ρ') : U.map (af_mu ρ') = U.map (af_mu ρ) :=
  List.map_congr_left (fun u hu => af_mu_eq (k := u.1) (s := u.2.1) (af_ev_ag (hU u hu) ha))
def af_Fin (Sh : af_H) (d : Nat) (mi : pi_M) (M : af_M) (w0 : pi_W) (E : Nat) (ρ0 : Nat → Int) (Ps : List af_Q) (s : pi_S) : Prop := ∃ n r w', pi_run n d mi s 0 0 = some (r, w', 0, 0) ∧ af_Conf Sh w' ∧ af_Fr M w0 w' ∧ ∃ P ∈ Ps, af_End Sh E ρ0 P r.toList w'
theorem af_To.fin {M : af_M} {w0 : pi_W} {E : Nat} {ρ0 : Nat → Int} {Ps : List af_Q} {s s' : pi_S} (h : af_To d mi s s') (hf : af_Fin Sh d mi M w0 E ρ0 Ps s') : af_Fin Sh d mi M w0 E ρ0 Ps s := by
  obtain ⟨n, r, w', h1, h2⟩ := hf
  obtain ⟨n', h1'⟩ := h n _ h1
  exact ⟨n', r, w', h1', h2⟩
theorem af_notnew {own nL len pc : Nat} {M NT : af_M} {i : Instr} {σ : af_S} {R : List (Nat × af_S)} (h : af_step own nL Sh M NT i len pc σ = some R) : ¬ pi_isNew i = true := by
  intro hn
  obtain ⟨n, L, as, T, N⟩ := σ
  cases i <;> first | (cases hn; done) | (simp [af_step] at h; done)
theorem af_plain_ok {CT : List af_K} {E pc : Nat} {M NT : af_M} {Ps : List af_Q} {CL : List (Nat × af_S × af_U)} {SP : List (Nat × Nat × Nat)} {σ : af_S} {R : List (Nat × af_S)} {ρ0 : Nat → Int} {w0 : pi_W} (hCT : ∀ K ∈ CT, af_Holds Sh d K) (hwf : ∀ P ∈ Ps, af_wfQ P = true) (hE : E ≤ σ.1) (hS : af_Sat Sh ρ σ (pc, lv, st, w)) (h : af_plain ((mi.1, mi.2.1, mi.2.2.1, mi.2.2.2.2), Sh, CT, E, M, Ps, CL, NT, SP) pc σ = some R) (hag : af_ag E ρ0 ρ) (hF : af_Fr M w0 w) : af_Fin Sh (d + 1) mi M w0 E ρ0 Ps (pc, lv, st, w) ∨ ∃ s', af_To (d + 1) mi (pc, lv, st, w) s' ∧ af_Ok Sh M R σ.1 ρ w s' := by
  unfold af_plain at h
  dsimp only at h
  split at h
  · cases h
  · rename_i i len hf
    split at h
    · rename_i hEnd
      split at h
      · rename_i he
        obtain ⟨r, e1, P, hP, ρ', a, b⟩ := af_end_ok hE hwf he hS
        refine Or.inl ⟨1, r, w, ?_, hS.2.2.1, hF, P, hP, ρ', hag.tr (Nat.le_refl _) a, b⟩
        rw [pi_run, hf]
        dsimp only
        rw [if_pos hEnd, e1]
      · cases h
    · rename_i hEnd
      split at h
      · rename_i cp kinds hi
        exact Or.inr (af_call_ok hCT hf hEnd hi h hS)
      · rename_i hi
        obtain ⟨s', e1, e2⟩ := as_step (ini := mi.2.2.2.1) h hS
        refine Or.inr ⟨s', fun n res hr => ⟨n + 1, ?_⟩, e2⟩
        rw [pi_run, hf]
        dsimp only
        rw [if_neg hEnd, hi]
        dsimp only
        rw [if_neg (af_notnew h), e1]
        exact hr
theorem af_spl_ok {pc : Nat} {L : af_L} {as : List af_V} {T : af_T} {f : af_F} (hK : af_Kn n ρ Sh N) (hf : af_wf n f) : ∀ {m : Nat} {k : Int}, k ≤ af_ev ρ f → af_ev ρ f < k + m → ∃ N1, (pc, n, L, as, T, N1) ∈ af_spl pc n L as T N f m k ∧ af_Kn n ρ Sh N1
  | 0, k, h1, h2 => by omega
  | m + 1, k, h1, h2 => by
    unfold af_spl
    by_cases hk : af_ev ρ f = k
    · obtain ⟨N1, e1, k1⟩ := af_clip_ok hK hf (lo := k) (hi := k) (by omega) (by omega)
      rw [e1]
      exact ⟨N1, List.mem_cons_self, k1⟩
    · obtain ⟨N1, hm, k1⟩ := af_spl_ok (m := m) (k := k + 1) hK hf (by omega) (by omega)
      refine ⟨N1, ?_, k1⟩
      split
      · exact hm
      · exact List.mem_cons_of_mem _ hm
theorem af_next_ok {CT : List af_K} {E pc : Nat} {M NT : af_M} {Ps : List af_Q} {CL : List (Nat × af_S × af_U)} {SP : List (Nat × Nat × Nat)} {σ : af_S} {R : List (Nat × af_S)} {ρ0 : Nat → Int} {w0 : pi_W} (hCT : ∀ K ∈ CT, af_Holds Sh d K) (hwf : ∀ P ∈ Ps, af_wfQ P = true) (hE : E ≤ σ.1) (hS : af_Sat Sh ρ σ (pc, lv, st, w)) (h : af_next ((mi.1, mi.2.1, mi.2.2.1, mi.2.2.2.2), Sh, CT, E, M, Ps, CL, NT, SP) pc σ = some R) (hag : af_ag E ρ0 ρ) (hF : af_Fr M w0 w) : af_Fin Sh (d + 1) mi M w0 E ρ0 Ps (pc, lv, st, w) ∨ ∃ s', af_To (d + 1) mi (pc, lv, st, w) s' ∧ af_Ok Sh M R σ.1 ρ w s' := by
  unfold af_next at h
  split at h
  · exact af_plain_ok hCT hwf hE hS h hag hF
  · rename_i x c i hfind
    obtain ⟨n, L, as, T, N⟩ := σ
    dsimp only at h hE
    split at h
    · cases h
    · rename_i n1 T1 N1 hm
      obtain ⟨hL, hs, hC, hT, hK⟩ := hS
      obtain ⟨g1, ρ1, g2, g3, g4⟩ := af_mat_ok hC hT hK hm
      dsimp only at g1 g2
      have hS1 : af_Sat Sh ρ1 (n1, L, as, T1, N1) (pc, lv, st, w) := ⟨hL.ag g1 g2, hs.ag g1 g2, hC, g3, g4⟩
      split at h
      · cases h
      · rename_i f hf
        split at h
        · cases h
        · rename_i a b hab
          split at h
          · rename_i hr
            cases h
            have q := af_iv_ok g4 hab
            have hwff : af_wf n1 f := (g3 _ (af_getT_mem hf)).1
            obtain ⟨N2, hm2, k2⟩ := af_spl_ok (pc := pc) (L := L) (as := as) (T := T1) g4 hwff (m := (b - a + 1).toNat) (k := a) q.1 (by omega)
            exact Or.inr ⟨_, af_To.rf _ _ _, af_Fr.rf _ _, _, hm2, rfl, g1, ρ1, g2, hS1.1, hS1.2.1, hC, g3, k2⟩
          · rcases af_plain_ok (σ := (n1, L, as, T1, N1)) hCT hwf (Nat.le_trans hE g1) hS1 h (hag.tr hE g2) hF with hfin | ⟨s', k1, k2, q, k3, k4, k5, ρ2, k6, k7⟩
            · exact Or.inl hfin
            · exact Or.inr ⟨s', k1, k2, q, k3, k4, Nat.le_trans g1 k5, ρ2, g2.tr g1 k6, k7⟩
theorem af_run_ok {CT : List af_K} {E ns : Nat} {M NT : af_M} {Ps : List af_Q} {CL : List (Nat × af_S × af_U)} {SP : List (Nat × Nat × Nat)} {ρ0 ρs : Nat → Int} {w0 : pi_W} {old : Option af_U} (hCT : ∀ K ∈ CT, af_Holds Sh d K) (hwf : ∀ P ∈ Ps, af_wfQ P = true) (hCL : ∀ q ∈ CL, af_wfS q.2.1 = true) (hU : ∀ U, old = some U → ∀ u ∈ U, af_wf ns u.2.2)
    (hcut : ∀ (s' : pi_S) (q : Nat × af_S × af_U) (ρ' : Nat → Int), q ∈ CL → s'.1 = q.1 → af_Sat Sh ρ' q.2.1 s' → af_ag E ρ0 ρ' → af_Fr M w0 s'.2.2.2 → (∀ U, old = some U → af_ll (q.2.2.map (af_mu ρ')) (U.map (af_mu ρs))) → af_Fin Sh (d + 1) mi M w0 E ρ0 Ps s') : ∀ {fuel pc : Nat} {σ : af_S} {ρ : Nat → Int} {lv : pi_L} {st : List Value} {w : pi_W}, af_run fuel ((mi.1, mi.2.1, mi.2.2.1, mi.2.2.2.2), Sh, CT, E, M, Ps, CL, NT, SP) old (pc, σ) = true → af_Sat Sh ρ σ (pc, lv, st, w) → E ≤ σ.1 → af_ag E ρ0 ρ → af_Fr M w0 w → ns ≤ σ.1 → af_ag ns ρs ρ → af_Fin Sh (d + 1) mi M w0 E ρ0 Ps (pc, lv, st, w)
  | 0, _, _, _, _, _, _, h, _, _, _, _, _, _ => by cases h
  | fuel + 1, pc, σ, ρ, lv, st, w, h, hS, hE, hag, hF, hns, hags => by
    unfold af_run at h
    split at h
    · cases h
    · rename_i R hR
      rcases af_next_ok hCT hwf hE hS hR hag hF with hfin | ⟨⟨pc', lv', st', w'⟩, hto, hF', q, hq, e1, e2, ρ', e3, e4⟩
      · exact hfin
      · refine hto.fin ?_
        dsimp only at e1
        have hq2 := List.all_eq_true.mp h q hq
        have hag' : af_ag E ρ0 ρ' := hag.tr hE e3
        have hags' : af_ag ns ρs ρ' := hags.tr hns e3
        split at hq2
        · obtain ⟨c, hc, h1⟩ := List.any_eq_true.mp hq2
          rw [Bool.and_eq_true, beq_iff_eq] at h1
          obtain ⟨h1, h2⟩ := h1
          split at h2
          · cases h2
          · rename_i θ hθ
            have hm := af_mS_ok (Nat.le_trans hE e2) e4 hθ (hCL c hc)
            refine hcut (pc', lv', st', w') c (af_rho ρ' E θ) hc (e1.symm.trans h1.symm) hm.2 (hag'.tr (Nat.le_refl _) (af_rho_ag ρ' E θ)) (hF.tr hF') ?_
            intro U hold
            subst hold
            dsimp only at h2
            split at h2
            · cases h2
            · rename_i U' hU'
              have hl := af_lex_ok e4.2.2.2.2 h2
              rw [af_sU_ok (af_rho_th ρ' E θ) hU', af_mu_ag (hU U rfl) hags'] at hl
              exact hl
        · obtain ⟨qpc, qσ⟩ := q
          dsimp only at e1 e2 e4
          subst e1
          exact af_run_ok hCT hwf hCL hU hcut hq2 e4 (Nat.le_trans hE e2) hag' (hF.tr hF') (Nat.le_trans hns e2) hags'
theorem af_argsA_le : ∀ {as : List af_V} {i : Nat}, ∀ e ∈ lv_argsA i as, i ≤ e.1
  | [], _, e, he => by cases he
  | a :: as, i, e, he => by
    rcases List.mem_cons.mp he with rfl | he
    · exact Nat.le_refl _
    · have q := af_argsA_le e he
      split at q <;> omega
theorem af_args_ok : ∀ {as : List af_V} {vs : List Value} {i : Nat}, af_St n ρ as vs → af_Lo n ρ (lv_argsA i as) (lv_args i vs)
  | [], [], _, _ => fun e he => by cases he
  | a :: as, v :: vs, i, ⟨h1, h2⟩ => by
    intro e he
    unfold lv_args
    rw [pi_get_cons]
    rcases List.mem_cons.mp he with rfl | he
    · exact ⟨v, if_pos rfl, h1⟩
    · have q := af_argsA_le e he
      rw [if_neg (by split at q <;> omega)]
      have ih := af_args_ok (i := if af_isLong a = true then i + 2 else i + 1) h2 e he
      have hc := h1.cat
      have hi : (if v.category = 2 then i + 2 else i + 1) = (if af_isLong a = true then i + 2 else i + 1) := by
        rw [hc]
        split <;> rfl
      rw [hi]
      exact ih
/-- all that is asked of a contract and its cuts beyond the run -/
def af_wfK (E : Nat) (pre : af_Q) (Ps : List af_Q) (CL : List (Nat × af_S × af_U)) : Bool := Nat.ble E pre.1 && (af_wfQ pre && (Ps.all af_wfQ && CL.all (fun q => af_wfS q.2.1 && (Nat.ble E q.2.1.1 && (Nat.ble q.2.2.length 12 && q.2.2.all (fun u => af_wfb q.2.1.1 u.2.2))))))
theorem af_sound {CT : List af_K} {M NT : af_M} {CL : List (Nat × af_S × af_U)} {SP : List (Nat × Nat × Nat)} {K : af_K} {fuel : Nat} {y : MethodName} {cc : ByteArray} (hz : pi_mt[K.1]? = some (y, cc, mi)) (hk : af_wfK K.2.1 K.2.2.1 K.2.2.2.2 CL = true) (h : af_meth fuel ((mi.1, mi.2.1, mi.2.2.1, mi.2.2.2.2), Sh, CT, K.2.1, K.2.2.2.1, K.2.2.2.2, CL, NT, SP) K.2.2.1 = true) (hCT : ∀ K ∈ CT, af_Holds Sh d K) : af_Holds Sh (d + 1) K := by
  obtain ⟨z, E, pre, M, Ps⟩ := K
  dsimp only at hz hk h
  unfold af_wfK at hk
  rw [Bool.and_eq_true, Bool.and_eq_true, Bool.and_eq_true] at hk
  obtain ⟨hE, hpre, hPs, hCLb⟩ := hk
  rw [Nat.ble_eq] at hE
  have hwf : ∀ P ∈ Ps, af_wfQ P = true := fun P hP => List.all_eq_true.mp hPs P hP
  have hCL : ∀ q ∈ CL, af_wfS q.2.1 = true ∧ E ≤ q.2.1.1 ∧ q.2.2.length ≤ 12 ∧ ∀ u ∈ q.2.2, af_wf q.2.1.1 u.2.2 := by
    intro q hq
    have r := List.all_eq_true.mp hCLb q hq
    rw [Bool.and_eq_true, Bool.and_eq_true, Bool.and_eq_true, Nat.ble_eq, Nat.ble_eq] at r
    exact ⟨r.1, r.2.1, r.2.2.1, fun u hu => af_wfb_ok (List.all_eq_true.mp r.2.2.2 u hu)⟩
  unfold af_meth at h
  rw [Bool.and_eq_true] at h
  obtain ⟨h1, h2⟩ := h
  refine ⟨⟨hpre, hwf⟩, y, cc, mi, hz, fun ρ0 As w0 hC hs hT hK => ?_⟩
  dsimp only at hs hT hK ⊢
  have hloop : ∀ (m : Nat) (q : Nat × af_S × af_U) (s : pi_S) (ρ' : Nat → Int), q ∈ CL → s.1 = q.1 → af_Sat Sh ρ' q.2.1 s → af_ag E ρ0 ρ' → af_Fr M w0 s.2.2.2 → af_enc 12 (q.2.2.map (af_mu ρ')) < m → af_Fin Sh (d + 1) mi M w0 E ρ0 Ps s := by
    intro m
    induction m with
    | zero => intro q s ρ' _ _ _ _ _ hm; omega
    | succ m ih =>
      intro q s ρ' hq hpc hS hag hF hm
      obtain ⟨pc, lv, st, w⟩ := s
      dsimp only at hpc hF
      subst hpc
      have r := List.all_eq_true.mp h2 q hq
      rw [Bool.and_eq_true] at r
      obtain ⟨k1, k2, k3, k4⟩ := hCL q hq
      have p1 := af_pos_ok hS.2.2.2.2 r.1
      refine af_run_ok (ns := q.2.1.1) (ρs := ρ') hCT hwf (fun q hq => (hCL q hq).1) (fun U hU => by cases hU; exact k4) ?_ r.2 hS k2 hag hF (Nat.le_refl _) (af_ag.rf _ _)
      intro s' q' ρ'' hq' hpc' hS' hag' hF' hll
      refine ih q' s' ρ'' hq' hpc' hS' hag' hF' ?_
      have r' := List.all_eq_true.mp h2 q' hq'
      rw [Bool.and_eq_true] at r'
      have p2 := af_pos_ok hS'.2.2.2.2 r'.1
      have hlt := af_enc_ll (m := 12) (by rw [List.length_map]; exact (hCL q' hq').2.2.1) p2 p1 (hll _ rfl)
      omega
  refine af_run_ok (ns := 0) (ρs := ρ0) hCT hwf (fun q hq => (hCL q hq).1) (fun U hU => by cases hU) ?_ h1 (⟨af_args_ok hs, trivial, hC, hT, hK⟩ : af_Sat Sh ρ0 (pre.1, lv_argsA 0 pre.2.1, [], pre.2.2.1, pre.2.2.2) (0, lv_args 0 As, [], w0)) hE (af_ag.rf _ _) (af_Fr.rf _ _) (Nat.zero_le _) (af_ag.rf _ _)
  intro s' q' ρ'' hq' hpc' hS' hag' hF' _
  exact hloop _ q' s' ρ'' hq' hpc' hS' hag' hF' (Nat.lt_succ_self _)
end AFX
theorem af_HN {Sh : af_H} {d : Nat} : ∀ K ∈ ([] : List af_K), af_Holds Sh d K := fun K hK => by cases hK
theorem af_HC {Sh : af_H} {d d' : Nat} {K : af_K} {Ks : List af_K} (h : af_Holds Sh d' K) (hd : d' ≤ d) (hs : ∀ K ∈ Ks, af_Holds Sh d K) : ∀ K' ∈ K :: Ks, af_Holds Sh d K' := fun K' hK => by
  rcases List.mem_cons.mp hK with rfl | hK
  · exact h.mono hd
  · exact hs K' hK
