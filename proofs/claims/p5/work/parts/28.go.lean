/-! ===== a call, an end ===== -/
section AFG
variable {Sh : af_H} {M : af_M} {n d : Nat} {ρ ρ' : Nat → Int} {N : af_N} {w w' : pi_W} {mi : pi_M} {L : af_L} {as : List af_V} {T : af_T} {lv : pi_L}
theorem af_cl {x : Int32} (h : 0 ≤ x.toInt) : ¬ x < 0 ∧ (x.toNatClampNeg : Int) = x.toInt := by
  have nx : ¬ x < 0 := by rw [Int32.lt_iff_toInt_lt, Int32.toInt_zero]; omega
  refine ⟨nx, ?_⟩
  obtain ⟨j, hj, rfl⟩ := nI_of nx
  rw [nI_clamp hj, nI_toInt hj]
theorem af_To.spec {s s' : pi_S} {i : Instr} {len cp kind z na : Nat} {kinds : List Nat} {q : Nat} (hf : pi_fetch mi.2.2.2.2 s.1 = some (i, len)) (hE : ¬ pi_isEnd i = true) (hi : pi_inv i = some (cp, kinds)) (hl : pi_look pi_iT mi.1 cp = some (kind, z, na, q)) (hk : ¬ (kinds.contains kind = false ∨ len ≠ 3)) (h3 : 3 < kind) (h6 : ¬ (kind = 6 ∨ kind = 7)) (hsp : pi_spec kind s = some s') : af_To d mi s s' := fun n res h => ⟨n + 1, by
  rw [pi_run, hf]
  dsimp only
  rw [if_neg hE, hi]
  dsimp only
  rw [hl]
  dsimp only
  rw [if_neg hk, if_pos h3, if_neg (fun q => h6 q.2), hsp]
  exact h⟩
theorem af_wrR {a x y : Nat} {c : af_C} {e0 e : pi_E} {pc' : Nat} {vs : List Value} (hL : af_Lo n ρ L lv) (hs : af_St n ρ as vs) (hC : af_Conf Sh w) (hT : af_Sl n ρ T w) (hK : af_Kn n ρ Sh N) (hSh : Sh[a]? = some c) (h0 : w[a]? = some e0) (hok : af_okC c e) (hne : ∀ i, ¬ (x ≤ i ∧ i ≤ y) → af_cloc e i = af_cloc e0 i) (hM : af_cov M a x y = true) : af_Ok Sh M [(pc', n, L, as, af_drop T a x y, N)] n ρ w (pc', lv, vs, w.set a e) := by
  have hw : ∀ c' i', ¬ (c' = a ∧ x ≤ i' ∧ i' ≤ y) → af_wloc (w.set a e) c' i' = af_wloc w c' i' := by
    intro c' i' hn
    rw [af_wloc_set h0]
    by_cases hc : c' = a
    · rw [if_pos hc, hne i' (fun q => hn ⟨hc, q⟩), hc]
      unfold af_wloc
      rw [h0]
    · rw [if_neg hc]
  refine af_Ok.one ?_ rfl (Nat.le_refl _) ⟨ρ, af_ag.rf _ _, hL, hs, hC.set hSh hok, hT.drop hw, hK⟩
  intro c' i' hcv
  refine hw c' i' ?_
  rintro ⟨rfl, h1, h2⟩
  rw [af_cov_in hM h1 h2] at hcv
  cases hcv
theorem af_recv_ok {kind own : Nat} {As : List af_V} {vals : List Value} (hk : kind ≤ 2) (h : kind < 2 ∨ af_rcv Sh own As = true) (hC : af_Conf Sh w) (hs : af_St n ρ As vals) : pi_recv kind own vals w = true := by
  match kind, hk with
  | 0, _ => rfl
  | 1, _ => rfl
  | 2, _ =>
    rcases h with h | h
    · omega
    · unfold af_rcv at h
      split at h
      · rename_i a r
        obtain ⟨vs, rfl, -⟩ := st_r hs
        split at h
        · rename_i c fts hSh
          obtain ⟨e, he, fs, rfl, -⟩ := hC.at hSh
          unfold pi_recv
          dsimp only
          rw [he]
          exact h
        · cases h
      · cases h
set_option maxHeartbeats 2000000 in
theorem af_call_ok {cp len pc : Nat} {kinds : List Nat} {CT : List af_K} {σ : af_S} {R : List (Nat × af_S)} {i : Instr} {st : List Value} (hCT : ∀ K ∈ CT, af_Holds Sh d K) (hf : pi_fetch mi.2.2.2.2 pc = some (i, len)) (hE : ¬ pi_isEnd i = true) (hi : pi_inv i = some (cp, kinds)) (h : af_call mi.1 Sh M CT kinds cp len pc σ = some R) (hS : af_Sat Sh ρ σ (pc, lv, st, w)) : ∃ s', af_To (d + 1) mi (pc, lv, st, w) s' ∧ af_Ok Sh M R σ.1 ρ w s' := by
  obtain ⟨n, L, as, T, N⟩ := σ
  obtain ⟨hL, hs, hC, hT, hK⟩ := hS
  dsimp only at hL hs hC hT hK
  simp only [af_call] at h
  split at h
  · cases h
  · rename_i kind z na q hl
    split at h
    · cases h
    · rename_i hk
      split at h
      · split at h
        · rename_i k dp a1 sp a0 r
          obtain ⟨kv, vs0, rfl, hk0, hkv, hs0⟩ := st_i hs
          obtain ⟨dv, vs1, rfl, hd0, hdv, hs1⟩ := st_i hs0
          obtain ⟨vs2, rfl, hs2⟩ := st_r hs1
          obtain ⟨sv, vs3, rfl, hsp0, hsv, hs3⟩ := st_i hs2
          obtain ⟨vs4, rfl, hs4⟩ := st_r hs3
          split at h
          · rename_i k1 k2 d1 d2 s1 s2 e1 e2 e3
            have b1 := af_iv_ok hK e1
            have b2 := af_iv_ok hK e2
            have b3 := af_iv_ok hK e3
            split at h
            · rename_i t0 m0 S0 t1 m1 S1 hSh0 hSh1
              split at h
              · rename_i hc
                cases h
                obtain ⟨c1, c2, c3, c4, c5, c6, c7, c8, c9, c10⟩ := hc
                subst c6
                obtain ⟨x1, x2⟩ := af_cl (x := kv) (by omega)
                obtain ⟨y1, y2⟩ := af_cl (x := dv) (by omega)
                obtain ⟨z1, z2⟩ := af_cl (x := sv) (by omega)
                have hcat : pi_cats vs4 ≤ 8 := by rw [hs4.cats]; exact c8
                have hb0 : sv.toNatClampNeg + kv.toNatClampNeg ≤ m0 := by omega
                have hb1 : dv.toNatClampNeg + kv.toNatClampNeg ≤ m1 := by omega
                obtain ⟨e, he, hoc⟩ := hC.at hSh0
                obtain ⟨e', he', hoc'⟩ := hC.at hSh1
                rcases c7 with rfl | ⟨rfl, c7⟩
                · obtain ⟨fn, rfl⟩ := af_okA.lng hoc
                  obtain ⟨gn, rfl⟩ := af_okA.lng hoc'
                  refine ⟨(pc + 3, lv, vs4, w.set a1 (.inl (2, m1, .inr (.inl (va_cpy fn gn sv.toNatClampNeg dv.toNatClampNeg kv.toNatClampNeg))))), af_To.spec hf hE hi hl hk (by decide) (by decide) ?_, af_wrR hL hs4 hC hT hK hSh1 he' ?_ ?_ c10⟩
                  · simp only [pi_spec]
                    rw [if_pos ⟨hcat, z1, y1, x1⟩]
                    simp only [he, he']
                    rw [if_pos ⟨hb0, hb1⟩]
                  · show af_okA 2 m1 S1 _
                    unfold af_okA
                    rw [if_pos rfl]
                    exact ⟨_, rfl⟩
                  · intro i' hi'
                    simp only [af_cloc]
                    rw [if_neg (by omega), if_neg (by omega)]
                · obtain ⟨fn, rfl, hfn⟩ := af_okA.int (by decide) hoc
                  obtain ⟨gn, rfl, hgn⟩ := af_okA.int (by decide) hoc'
                  refine ⟨(pc + 3, lv, vs4, w.set a1 (.inl (0, m1, .inl (va_cpy fn gn sv.toNatClampNeg dv.toNatClampNeg kv.toNatClampNeg)))), af_To.spec hf hE hi hl hk (by decide) (by decide) ?_, af_wrR hL hs4 hC hT hK hSh1 he' ?_ ?_ c10⟩
                  · simp only [pi_spec]
                    rw [if_pos ⟨hcat, z1, y1, x1⟩]
                    simp only [he, he']
                    rw [if_pos ⟨hb0, hb1⟩]
                  · show af_okA 0 m1 S1 _
                    unfold af_okA
                    rw [if_neg (by decide)]
                    refine ⟨by decide, _, rfl, fun j hj => ?_⟩
                    obtain ⟨q, q1, q2⟩ := hgn j hj
                    refine ⟨q, q1, ?_⟩
                    unfold va_cpy
                    split
                    · rename_i hjr
                      rcases c7 with c7 | ⟨c7, c11, c12, c13⟩
                      · rw [c7] at q1
                        unfold af_seg at q1
                        rw [if_pos hj] at q1
                        cases q1
                        exact af_i32 _
                      · subst c7
                        have hsd : sv.toNatClampNeg + (j - dv.toNatClampNeg) = j := by omega
                        rw [hsd]
                        obtain ⟨q', q1', q2'⟩ := hfn j (by omega)
                        rw [q1] at q1'
                        cases q1'
                        exact q2'
                    · exact q2
                  · intro i' hi'
                    simp only [af_cloc]
                    rw [if_neg (by omega), if_neg (by omega)]
              · cases h
            · cases h
          · cases h
        · cases h
      · split at h
        · rename_i g f r
          obtain ⟨yv, vs0, rfl, hg0, hyv, hs0⟩ := st_i hs
          obtain ⟨xv, vs1, rfl, hx0, hxv, hs1⟩ := st_i hs0
          split at h
          · rename_i a b c e ea ec
            have b1 := af_iv_ok hK ea
            have b2 := af_iv_ok hK ec
            split at h
            · rename_i hc
              cases h
              have hcat : pi_cats vs1 ≤ 8 := by rw [hs1.cats]; exact hc
              refine ⟨(pc + 3, lv, .int (if yv < xv then yv else xv) :: vs1, w), af_To.spec hf hE hi hl hk (by decide) (by decide) (by simp only [pi_spec]; rw [if_pos hcat]), af_Ok.put hL hs1 hC hT hK ?_⟩
              show _ ≤ _ ∧ _ ≤ _
              by_cases hlt : yv < xv
              · rw [if_pos hlt]
                rw [Int32.lt_iff_toInt_lt] at hlt
                constructor <;> split <;> omega
              · rw [if_neg hlt]
                rw [Int32.lt_iff_toInt_lt] at hlt
                constructor <;> split <;> omega
            · cases h
          · cases h
        · cases h
      · split at h
        · rename_i g f r
          obtain ⟨yv, vs0, rfl, hg0, hyv, hs0⟩ := st_i hs
          obtain ⟨xv, vs1, rfl, hx0, hxv, hs1⟩ := st_i hs0
          split at h
          · rename_i a b c e ea ec
            have b1 := af_iv_ok hK ea
            have b2 := af_iv_ok hK ec
            split at h
            · rename_i hc
              cases h
              have hcat : pi_cats vs1 ≤ 8 := by rw [hs1.cats]; exact hc
              refine ⟨(pc + 3, lv, .int (if xv < yv then yv else xv) :: vs1, w), af_To.spec hf hE hi hl hk (by decide) (by decide) (by simp only [pi_spec]; rw [if_pos hcat]), af_Ok.put hL hs1 hC hT hK ?_⟩
              show _ ≤ _ ∧ _ ≤ _
              by_cases hlt : xv < yv
              · rw [if_pos hlt]
                rw [Int32.lt_iff_toInt_lt] at hlt
                constructor <;> split <;> omega
              · rw [if_neg hlt]
                rw [Int32.lt_iff_toInt_lt] at hlt
                constructor <;> split <;> omega
            · cases h
          · cases h
        · cases h
      · split at h
        · cases h
        · rename_i hk2
          generalize hna : (if kind < 2 then na else na + 1) = na' at h
          split at h
          · rename_i hAs
            split at h
            · cases h
            · rename_i y cc mz hz
              split at h
              · rename_i hrc
                split at h
                · cases h
                · rename_i K θ n1 T1 N1 hfd
                  split at h
                  · rename_i hcv
                    obtain ⟨f1, f2, f3, f4⟩ := af_find_ok hfd
                    obtain ⟨⟨w1, w2⟩, y', cc', mz', hz', hrun⟩ := hCT K f1
                    rw [f2, hz] at hz'
                    cases hz'
                    obtain ⟨g1, ρ1, g2, g3, g4⟩ := af_mat_ok hC hT hK f3
                    have hst1 := hs.ag g1 g2
                    have hAs' := (hst1.take (k := na')).rev
                    have hrs := hst1.drop (k := na')
                    obtain ⟨j1, j2, j3, j4⟩ := af_mQ_ok (Nat.zero_le _) hAs' g3 g4 f4 w1
                    obtain ⟨nr, r, w', r1, r2, r3, P, hP, ρ', r4, r5, r6, r7⟩ := hrun _ _ w hC j2 j3 j4
                    obtain ⟨R1, q1, q2⟩ := af_posts_ok h hP
                    have hE' : ∀ v f, v < K.2.1 → af_thk θ v = some f → ρ' v = af_ev ρ1 f := by
                      intro v f hv hf
                      rw [r4 v hv]
                      refine af_rho_th ρ1 0 θ v f ?_
                      unfold af_th
                      rw [if_neg (Nat.not_lt_zero v)]
                      exact hf
                    obtain ⟨q, hq, z1, z2, ρ2, z3, z4⟩ := af_post_ok (hL.ag g1 g2) hrs g3 g4 r2 r3 j1 hE' (w2 P hP) r5 r6 r7 q1
                    refine ⟨(pc + 3, lv, r.toList ++ st.drop na', w'), ?_, r3.cov hcv, q, q2 q hq, z1, Nat.le_trans g1 z2, ρ2, g2.tr g1 z3, z4⟩
                    intro m res hres
                    refine ⟨(if m ≤ nr then nr else m) + 1, ?_⟩
                    have hargs : pi_args kind na mz (pc, lv, st, w) = some ((st.take na').reverse, st.drop na') := by
                      unfold pi_args
                      dsimp only
                      rw [hna]
                      rw [if_pos ⟨by rw [← hAs'.len]; exact hAs.1, by rw [hrs.cats]; exact hAs.2, af_recv_ok (by omega) hrc.1 hC hAs', by rw [hAs'.slots]; exact hrc.2.1, by rw [hrc.2.2.1]; exact (beq_eq_false_iff_ne.mpr (by omega)).symm, Or.inl (by omega), hrc.2.2.2⟩]
                    have hkeep : pi_keep lv (st.drop na') w w' = true := by
                      unfold pi_keep
                      rw [r2.1, hC.1]
                      simp
                    rw [pi_run, hf]
                    dsimp only
                    rw [if_neg hE, hi]
                    dsimp only
                    rw [hl]
                    dsimp only
                    rw [if_neg hk, if_neg (by omega), hz]
                    dsimp only
                    rw [hargs]
                    dsimp only
                    rw [pi_more r1 (by split <;> omega)]
                    dsimp only
                    rw [if_pos hkeep]
                    exact pi_more hres (by split <;> omega)
                  · cases h
              · cases h
          · cases h
theorem af_any_ok {E : Nat} {Ps : List af_Q} {vs : List af_V} {vals : List Value} (hE : E ≤ n) (hwf : ∀ P ∈ Ps, af_wfQ P = true) (hs : af_St n ρ vs vals) (hT : af_Sl n ρ T w) (hK : af_Kn n ρ Sh N) (h : Ps.any (fun P => (af_mQ E vs T N P).isSome) = true) : ∃ P ∈ Ps, af_End Sh E ρ P vals w := by
  obtain ⟨P, hP, h1⟩ := List.any_eq_true.mp h
  obtain ⟨θ, hθ⟩ := Option.isSome_iff_exists.mp h1
  obtain ⟨j1, j2, j3, j4⟩ := af_mQ_ok hE hs hT hK hθ (hwf P hP)
  exact ⟨P, hP, _, af_rho_ag ρ E θ, j2, j3, j4⟩
theorem af_St.nil {vs : List Value} (h : af_St n ρ [] vs) : vs = [] := by
  match vs, h with
  | [], _ => rfl
theorem af_end_ok {ret : Option FieldType} {E len pc : Nat} {Ps : List af_Q} {i : Instr} {σ : af_S} {st : List Value} (hE : E ≤ σ.1) (hwf : ∀ P ∈ Ps, af_wfQ P = true) (h : af_end ret E Ps i len σ = true) (hS : af_Sat Sh ρ σ (pc, lv, st, w)) : ∃ r, pi_end ret i len (pc, lv, st, w) = some r ∧ ∃ P ∈ Ps, af_End Sh E ρ P r.toList w := by
  obtain ⟨n, L, as, T, N⟩ := σ
  obtain ⟨hL, hs, hC, hT, hK⟩ := hS
  dsimp only at hL hs hC hT hK hE
  unfold af_end at h
  dsimp only at h
  split at h
  · rw [Bool.and_eq_true, decide_eq_true_eq] at h
    obtain ⟨rfl, h⟩ := h
    split at h
    · rename_i f
      obtain ⟨x, vs, rfl, hf, hx, hs1⟩ := st_i hs
      have hv := hs1.nil
      subst hv
      exact ⟨some (.int x), by simp only [pi_end]; rw [if_pos trivial, if_pos (show narrow FieldType.int (Value.int x) = Value.int x from rfl)], af_any_ok hE hwf hs hT hK h⟩
    · rename_i f
      obtain ⟨x, vs, rfl, hf, hx, hs1⟩ := st_i hs
      have hv := hs1.nil
      subst hv
      split at h
      · rename_i a b hab
        have q := af_iv_ok hK hab
        rw [Bool.and_eq_true, Bool.and_eq_true, decide_eq_true_eq, decide_eq_true_eq] at h
        exact ⟨some (.int x), by simp only [pi_end]; rw [if_pos trivial, if_pos (af_nz (by omega) (by omega))], af_any_ok hE hwf hs hT hK h.2.2⟩
      · cases h
    · cases h
  · rw [Bool.and_eq_true, decide_eq_true_eq] at h
    obtain ⟨rfl, h⟩ := h
    split at h
    · rename_i a c
      obtain ⟨vs, rfl, hs1⟩ := st_r hs
      have hv := hs1.nil
      subst hv
      exact ⟨some (.ref a), by simp only [pi_end]; rw [if_pos trivial], af_any_ok hE hwf hs hT hK h⟩
    · cases h
  · rw [Bool.and_eq_true, decide_eq_true_eq] at h
    obtain ⟨rfl, h⟩ := h
    split at h
    · have hv := hs.nil
      subst hv
      exact ⟨none, by simp only [pi_end]; rw [if_pos trivial], af_any_ok hE hwf hs hT hK h⟩
    · cases h
  · cases h
end AFG
