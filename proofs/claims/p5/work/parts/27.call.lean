/-! ===== contracts and calls ===== -/
def af_End (Sh : af_H) (E : Nat) (ρ : Nat → Int) (P : af_Q) (r : List Value) (w' : pi_W) : Prop := ∃ ρ', af_ag E ρ ρ' ∧ af_St P.1 ρ' P.2.1 r ∧ af_Sl P.1 ρ' P.2.2.1 w' ∧ af_Kn P.1 ρ' Sh P.2.2.2
def af_Holds (Sh : af_H) (d : Nat) (K : af_K) : Prop := (af_wfQ K.2.2.1 = true ∧ ∀ P ∈ K.2.2.2.2, af_wfQ P = true) ∧ ∃ y cc mz, pi_mt[K.1]? = some (y, cc, mz) ∧ ∀ (ρ : Nat → Int) (As : List Value) (w : pi_W), af_Conf Sh w → af_St K.2.2.1.1 ρ K.2.2.1.2.1 As → af_Sl K.2.2.1.1 ρ K.2.2.1.2.2.1 w → af_Kn K.2.2.1.1 ρ Sh K.2.2.1.2.2.2 → ∃ n r w', pi_run n d mz (0, lv_args 0 As, [], w) 0 0 = some (r, w', 0, 0) ∧ af_Conf Sh w' ∧ af_Fr K.2.2.2.1 w w' ∧ ∃ P ∈ K.2.2.2.2, af_End Sh K.2.1 ρ P r.toList w'
theorem af_Holds.mono {Sh : af_H} {d d' : Nat} {K : af_K} (h : af_Holds Sh d K) (hd : d ≤ d') : af_Holds Sh d' K := by
  obtain ⟨h0, y, cc, mz, h1, h2⟩ := h
  refine ⟨h0, y, cc, mz, h1, fun ρ As w a b c e => ?_⟩
  obtain ⟨n, r, w', k, k'⟩ := h2 ρ As w a b c e
  exact ⟨n, r, w', pi_deep k hd, k'⟩
def af_To (d : Nat) (mi : pi_M) (s s' : pi_S) : Prop := ∀ n res, pi_run n d mi s' 0 0 = some res → ∃ n', pi_run n' d mi s 0 0 = some res
theorem af_To.rf (d : Nat) (mi : pi_M) (s : pi_S) : af_To d mi s s := fun n _ h => ⟨n, h⟩
theorem af_To.tr {d : Nat} {mi : pi_M} {s s1 s2 : pi_S} (h1 : af_To d mi s s1) (h2 : af_To d mi s1 s2) : af_To d mi s s2 := fun n res h => by
  obtain ⟨n', h'⟩ := h2 n res h
  exact h1 n' res h'
section AFC
variable {Sh : af_H} {M : af_M} {n : Nat} {ρ ρ' : Nat → Int} {N : af_N} {w w' : pi_W} {g : Nat → Option af_F}
theorem af_peek_in (w : pi_W) : -1 ≤ (af_peek w).toInt ∧ (af_peek w).toInt ≤ 255 := by
  unfold af_peek
  split
  · split
    · split
      · rename_i b _
        have q := af_and_r b 255 (by decide)
        have e : (255 : Int32).toInt = 255 := by decide
        omega
      · decide
    · decide
  · decide
theorem af_bnd_ok {c i : Nat} {lo hi : Int} (hC : af_Conf Sh w) (h : af_bnd Sh c i = some (lo, hi)) : ∃ x : Int32, af_loc w c i = some (.int x) ∧ lo ≤ x.toInt ∧ x.toInt ≤ hi := by
  unfold af_bnd at h
  unfold af_loc
  split at h
  · rename_i hc
    rw [if_pos (by simpa using hc)]
    split at h
    · rename_i hi0
      cases h
      rw [if_pos (by simpa using hi0)]
      exact ⟨_, rfl, af_peek_in w⟩
    · cases h
  · rename_i hc
    rw [if_neg (by simpa using hc)]
    split at h
    · rename_i t m S hSh
      obtain ⟨e, he, hoc⟩ := hC.at hSh
      split at h
      · cases h
      · rename_i ht
        obtain ⟨fn, rfl, hfn⟩ := af_okA.int ht hoc
        split at h
        · rename_i him
          obtain ⟨q, q1, q2, q3⟩ := hfn i him
          rw [h] at q1
          cases q1
          refine ⟨fn i, ?_, q2, q3⟩
          unfold af_wloc
          rw [he]
          simp only [af_cloc, if_pos him]
        · cases h
    · rename_i ci fts hSh
      obtain ⟨e, he, hoc⟩ := hC.at hSh
      obtain ⟨fs, rfl, hln, hfs⟩ := hoc
      split at h
      · rename_i q hft
        cases h
        obtain ⟨v, hv, x, rfl, q1, q2⟩ := hfs i _ hft
        exact ⟨x, by unfold af_wloc; rw [he]; exact hv, q1, q2⟩
      · cases h
    · cases h
theorem af_mat_ok (hC : af_Conf Sh w) : ∀ {P T : af_T} {n n1 : Nat} {N N1 : af_N} {T1 : af_T} {ρ : Nat → Int}, af_Sl n ρ T w → af_Kn n ρ Sh N → af_mat Sh P n T N = some (n1, T1, N1) → n ≤ n1 ∧ ∃ ρ1, af_ag n ρ ρ1 ∧ af_Sl n1 ρ1 T1 w ∧ af_Kn n1 ρ1 Sh N1
  | [], T, n, n1, N, N1, T1, ρ, hT, hK, h => by
    cases h
    exact ⟨Nat.le_refl _, ρ, af_ag.rf _ _, hT, hK⟩
  | ((c, i), p) :: P, T, n, n1, N, N1, T1, ρ, hT, hK, h => by
    unfold af_mat at h
    split at h
    · exact af_mat_ok hC hT hK h
    · split at h
      · cases h
      · rename_i lo hi hb
        obtain ⟨x, hx, x1, x2⟩ := af_bnd_ok hC hb
        have ha := af_upd_ag ρ n x.toInt
        have hT2 : af_Sl (n + 1) (af_upd ρ n x.toInt) (((c, i), (0, [n])) :: T) w := by
          intro e he
          rcases List.mem_cons.mp he with rfl | he
          · exact ⟨af_wf_1 n 0, x, hx, by rw [af_ev_1, af_upd_at]; omega⟩
          · exact hT.ag (Nat.le_succ n) ha e he
        have hK2 := (hK.ag (Nat.le_succ n) ha).bn (Nat.lt_succ_self n) (lo := lo) (hi := hi) (by rw [af_upd_at]; exact x1) (by rw [af_upd_at]; exact x2)
        obtain ⟨k1, ρ1, k2, k3, k4⟩ := af_mat_ok hC hT2 hK2 h
        exact ⟨by omega, ρ1, ha.tr (Nat.le_succ n) k2, k3, k4⟩
theorem af_Fr.cov {K : af_M} (h : af_Fr K w w') (hc : af_covM M K = true) : af_Fr M w w' := by
  intro c i hm
  refine h c i ?_
  cases hk : af_cov K c i i with
  | false => rfl
  | true =>
    obtain ⟨q, hq, h1⟩ := List.any_eq_true.mp hk
    simp only [Bool.and_eq_true, beq_iff_eq, Nat.ble_eq, Nat.blt_eq] at h1
    have h2 := List.all_eq_true.mp hc q hq
    rw [Bool.or_eq_true, Nat.ble_eq] at h2
    rcases h2 with h2 | h2
    · omega
    · rw [h1.1] at h2
      rw [af_cov_in h2 h1.2.1 (by omega)] at hm
      cases hm
theorem af_Sl.keep {K : af_M} {T : af_T} (h : af_Sl n ρ T w) (hF : af_Fr K w w') : af_Sl n ρ (af_keepT K T) w' := by
  intro e he
  obtain ⟨he1, he2⟩ := List.mem_filter.mp he
  obtain ⟨k0, x, k1, k2⟩ := h e he1
  refine ⟨k0, x, ?_, k2⟩
  rw [Bool.and_eq_true, Bool.not_eq_true', Bool.not_eq_true'] at he2
  obtain ⟨p1, p2⟩ := he2
  unfold af_loc at k1 ⊢
  by_cases hv : e.1.1 = af_virt
  · rw [if_pos hv] at k1 ⊢
    have hd : ∀ k ∈ K, k.2.1 < k.2.2 → af_dep k.1 k.2.1 (k.2.2 - 1) = false := by
      rw [Bool.and_eq_false_iff, beq_eq_false_iff_ne] at p2
      rcases p2 with p2 | p2
      · exact absurd hv p2
      · intro k hk hlt
        have q := List.any_eq_false.mp p2 k hk
        cases hdp : af_dep k.1 k.2.1 (k.2.2 - 1) with
        | false => rfl
        | true => exact absurd (by rw [hdp, Nat.blt_eq.mpr hlt]; rfl) q
    have hcv : ∀ c i, (c = 62 ∨ (c = 61 ∧ (i = 3 ∨ i = 4))) → af_cov K c i i = false := by
      intro c i hci
      cases hk : af_cov K c i i with
      | false => rfl
      | true =>
        obtain ⟨q, hq, h1⟩ := List.any_eq_true.mp hk
        simp only [Bool.and_eq_true, beq_iff_eq, Nat.ble_eq, Nat.blt_eq] at h1
        have h2 := hd q hq (by omega)
        unfold af_dep at h2
        rw [Bool.or_eq_false_iff, beq_eq_false_iff_ne] at h2
        rcases hci with hci | ⟨hci, hi⟩
        · exact absurd (h1.1.trans hci) h2.1
        · have h3 : (q.1 == 61) = true := by rw [beq_iff_eq]; exact h1.1.trans hci
          have h4 : Nat.ble q.2.1 4 = true := Nat.ble_eq.mpr (by omega)
          have h5 : Nat.ble 3 (q.2.2 - 1) = true := Nat.ble_eq.mpr (by omega)
          have h6 := h2.2
          rw [h3, h4, h5] at h6
          cases h6
    have hp : af_peek w' = af_peek w := af_peek_eq (fun i hi => hF 61 i (hcv 61 i (Or.inr ⟨rfl, hi⟩))) (fun i => hF 62 i (hcv 62 i (Or.inl rfl)))
    rw [hp]
    exact k1
  · rw [if_neg hv] at k1 ⊢
    rw [hF _ _ p1]
    exact k1
theorem af_pN_ok {E n1 n2 : Nat} {θ : af_X} {ρ2 : Nat → Int} (hg : ∀ v f, v < E → af_thk θ v = some f → af_wf n2 f ∧ af_ev ρ2 f = ρ' v) (hn : ∀ v, ¬ v < E → ρ2 (n1 + (v - E)) = ρ' v) : ∀ {P : List (Nat × Int × Int)} {N : af_N} {r : Option af_N}, (∀ e ∈ P, (¬ e.1 < E → n1 + (e.1 - E) < n2) ∧ e.2.1 ≤ ρ' e.1 ∧ ρ' e.1 ≤ e.2.2) → af_Kn n2 ρ2 Sh N → af_pN E n1 θ N P = some r → ∃ N1, r = some N1 ∧ af_Kn n2 ρ2 Sh N1
  | [], N, r, _, hK, h => by
    cases h
    exact ⟨_, rfl, hK⟩
  | (v, lo, hi) :: P, N, r, hP, hK, h => by
    have hP' := fun e he => hP e (List.mem_cons_of_mem _ he)
    obtain ⟨q0, q1, q2⟩ := hP _ List.mem_cons_self
    dsimp only at q0 q1 q2
    unfold af_pN at h
    split at h
    · rename_i hv
      split at h
      · cases h
      · rename_i f hf
        obtain ⟨g1, g2⟩ := hg v f hv hf
        obtain ⟨N', e1, k1⟩ := af_clip_ok hK g1 (lo := lo) (hi := hi) (by rw [g2]; exact q1) (by rw [g2]; exact q2)
        rw [e1] at h
        exact af_pN_ok hg hn hP' k1 h
    · rename_i hv
      exact af_pN_ok hg hn hP' (hK.bn (q0 hv) (by rw [hn v hv]; exact q1) (by rw [hn v hv]; exact q2)) h
theorem af_addD_ok {u v : Nat} {d : Int} (hK : af_Kn n ρ Sh N) (hu : u < n) (hv : v < n) (hd : d ≤ ρ u - ρ v) : af_Kn n ρ Sh (af_addD u v d N) := by
  refine ⟨hK.1, fun e he => ?_, hK.2.2⟩
  rcases List.mem_cons.mp he with rfl | he
  · exact ⟨hu, hv, hd⟩
  · rcases List.mem_append.mp he with he | he
    · obtain ⟨q, hq, hs⟩ := List.mem_filterMap.mp he
      split at hs
      · rename_i hw
        cases hs
        have hw2 : q.1 = v := by simpa using hw
        obtain ⟨a1, a2, a3⟩ := hK.2.1 q hq
        rw [hw2] at a3
        exact ⟨hu, a2, by dsimp only; omega⟩
      · cases hs
    · exact hK.2.1 e he
theorem af_pD_ok (hg : ∀ v f, g v = some f → ρ' v = af_ev ρ f) : ∀ {P : List (Nat × Nat × Int)} {N : af_N}, (∀ e ∈ P, (∀ f, g e.1 = some f → af_wf n f) ∧ (∀ f, g e.2.1 = some f → af_wf n f) ∧ e.2.2 ≤ ρ' e.1 - ρ' e.2.1) → af_Kn n ρ Sh N → af_Kn n ρ Sh (af_pD g N P)
  | [], N, _, hK => hK
  | (u, v, d) :: P, N, hP, hK => by
    have hP' := fun e he => hP e (List.mem_cons_of_mem _ he)
    obtain ⟨q0, q1, q2⟩ := hP _ List.mem_cons_self
    dsimp only at q0 q1 q2
    unfold af_pD
    split
    · rename_i c1 a c2 b h1 h2
      have e1 := hg u _ h1
      have e2 := hg v _ h2
      rw [af_ev_1] at e1 e2
      exact af_pD_ok hg hP' (af_addD_ok hK (q0 _ h1 a List.mem_cons_self) (q1 _ h2 b List.mem_cons_self) (by omega))
    · exact af_pD_ok hg hP' hK
theorem af_pT_ok {k : Nat} (hg : ∀ v f, g v = some f → ρ' v = af_ev ρ f) : ∀ {P T : af_T}, (∀ e ∈ P, ∀ v ∈ e.2.2, ∀ f, g v = some f → af_wf n f) → af_Sl k ρ' P w → af_pT g P = some T → af_Sl n ρ T w
  | [], T, _, _, h => by
    cases h
    intro e he
    cases he
  | (l, f) :: P, T, hw, hP, h => by
    unfold af_pT at h
    split at h
    · cases h
    · rename_i f' hf
      split at h
      · cases h
      · rename_i T' hT'
        cases h
        have ih := af_pT_ok hg (fun e he => hw e (List.mem_cons_of_mem _ he)) (fun e he => hP e (List.mem_cons_of_mem _ he)) hT'
        intro e he
        rcases List.mem_cons.mp he with rfl | he
        · obtain ⟨_, x, k1, k2⟩ := hP _ List.mem_cons_self
          exact ⟨af_sb_wf (hw _ List.mem_cons_self) hf, x, k1, by rw [← af_sb_ok hg hf]; exact k2⟩
        · exact ih e he
theorem af_pV_ok {k : Nat} (hg : ∀ v f, g v = some f → ρ' v = af_ev ρ f) : ∀ {P vs : List af_V} {vals : List Value}, (∀ a ∈ P, ∀ fm, a = .inl fm → ∀ v ∈ fm.2, ∀ f, g v = some f → af_wf n f) → af_St k ρ' P vals → af_pV g P = some vs → af_St n ρ vs vals
  | [], vs, vals, _, hs, h => by
    cases h
    match vals, hs with
    | [], _ => exact trivial
  | .inl f :: P, vs, vals, hw, hs, h => by
    unfold af_pV at h
    split at h
    · cases h
    · rename_i f' hf
      split at h
      · cases h
      · rename_i vs' hvs
        cases h
        match vals, hs with
        | v :: vals, ⟨⟨_, x, k1, k2⟩, hs2⟩ =>
          exact ⟨⟨af_sb_wf (hw _ List.mem_cons_self f rfl) hf, x, k1, by rw [← af_sb_ok hg hf]; exact k2⟩, af_pV_ok hg (fun a ha => hw a (List.mem_cons_of_mem _ ha)) hs2 hvs⟩
  | .inr a :: P, vs, vals, hw, hs, h => by
    unfold af_pV at h
    split at h
    · cases h
    · rename_i vs' hvs
      cases h
      match vals, hs with
      | v :: vals, ⟨hv, hs2⟩ =>
        refine ⟨?_, af_pV_ok hg (fun a ha => hw a (List.mem_cons_of_mem _ ha)) hs2 hvs⟩
        match a, hv with
        | .inl _, hv => exact hv
        | .inr _, hv => exact hv
theorem af_St.app : ∀ {as bs : List af_V} {us vs : List Value}, af_St n ρ as us → af_St n ρ bs vs → af_St n ρ (as ++ bs) (us ++ vs)
  | [], _, [], _, _, h => h
  | _ :: _, _, _ :: _, _, ⟨h1, h2⟩, h => ⟨h1, h2.app h⟩
theorem af_post_ok {E n1 pc : Nat} {θ : af_X} {K : af_M} {L : af_L} {rest : List af_V} {T : af_T} {P : af_Q} {R : List (Nat × af_S)} {lv : pi_L} {rs vs : List Value} (hL : af_Lo n1 ρ L lv) (hs : af_St n1 ρ rest vs) (hT : af_Sl n1 ρ T w) (hK : af_Kn n1 ρ Sh N) (hC' : af_Conf Sh w') (hF : af_Fr K w w') (hθ : af_Tw n1 0 θ) (hE : ∀ v f, v < E → af_thk θ v = some f → ρ' v = af_ev ρ f) (hP : af_wfQ P = true) (h1 : af_St P.1 ρ' P.2.1 rs) (h2 : af_Sl P.1 ρ' P.2.2.1 w') (h3 : af_Kn P.1 ρ' Sh P.2.2.2) (h : af_post E θ K pc n1 L rest T N P = some R) : ∃ q ∈ R, q.1 = pc ∧ n1 ≤ q.2.1 ∧ ∃ ρ2, af_ag n1 ρ ρ2 ∧ af_Sat Sh ρ2 q.2 (pc, lv, rs ++ vs, w') := by
  unfold af_wfQ at hP
  rw [Bool.and_eq_true, Bool.and_eq_true] at hP
  obtain ⟨p1, p2, p3⟩ := hP
  obtain ⟨b1, b2⟩ := af_wfNb_ok p3
  have hag : af_ag n1 ρ (fun v => if v < n1 then ρ v else ρ' (v - n1 + E)) := fun v hv => if_pos hv
  generalize hρ2 : (fun v => if v < n1 then ρ v else ρ' (v - n1 + E)) = ρ2 at hag
  have hnew : ∀ v, ¬ v < E → ρ2 (n1 + (v - E)) = ρ' v := by
    intro v hv
    rw [← hρ2]
    dsimp only
    rw [if_neg (by omega), show n1 + (v - E) - n1 + E = v by omega]
  have hth : ∀ v, af_th 0 θ v = af_thk θ v := fun v => by
    unfold af_th
    rw [if_neg (Nat.not_lt_zero v)]
  have hg : ∀ v f, af_inst E n1 θ v = some f → ρ' v = af_ev ρ2 f := by
    intro v f hv
    unfold af_inst at hv
    split at hv
    · rename_i hvE
      rw [hE v f hvE hv, af_ev_ag (hθ v f (by rw [hth]; exact hv)) hag]
    · rename_i hvE
      cases hv
      rw [af_ev_1, hnew v hvE]
      omega
  have hn2 : n1 ≤ n1 + (P.1 - E) := Nat.le_add_right _ _
  have hgw : ∀ v, v < P.1 → ∀ f, af_inst E n1 θ v = some f → af_wf (n1 + (P.1 - E)) f := by
    intro v hvP f hv
    unfold af_inst at hv
    split at hv
    · exact (hθ v f (by rw [hth]; exact hv)).mono hn2
    · rename_i hvE
      cases hv
      intro u hu
      rcases List.mem_singleton.mp hu with rfl
      omega
  unfold af_post at h
  split at h
  · cases h
  · rename_i hpn
    obtain ⟨N1, e1, -⟩ := af_pN_ok (Sh := Sh) (ρ' := ρ') (ρ2 := ρ2) (n2 := n1 + (P.1 - E)) (fun v f hvE hv => ⟨(hθ v f (by rw [hth]; exact hv)).mono hn2, by rw [hE v f hvE hv, af_ev_ag (hθ v f (by rw [hth]; exact hv)) hag]⟩) hnew (fun e he => ⟨fun q => by have := b1 e he; omega, (h3.1 e he).2⟩) (hK.ag hn2 hag) hpn
    cases e1
  · rename_i N0 hpn
    obtain ⟨N1, e1, k1⟩ := af_pN_ok (Sh := Sh) (ρ' := ρ') (ρ2 := ρ2) (n2 := n1 + (P.1 - E)) (fun v f hvE hv => ⟨(hθ v f (by rw [hth]; exact hv)).mono hn2, by rw [hE v f hvE hv, af_ev_ag (hθ v f (by rw [hth]; exact hv)) hag]⟩) hnew (fun e he => ⟨fun q => by have := b1 e he; omega, (h3.1 e he).2⟩) (hK.ag hn2 hag) hpn
    cases e1
    split at h
    · cases h
    · rename_i vs1 hpv
      split at h
      · cases h
      · rename_i T1 hpt
        split at h
        · cases h
          refine ⟨_, List.mem_cons_self, rfl, hn2, ρ2, hag, hL.ag hn2 hag, ?_, hC', ?_, ?_⟩
          · refine (af_pV_ok hg ?_ h1 hpv).app (hs.ag hn2 hag)
            intro a ha fm hfm v hv f hf
            have q := af_wfVb_ok (List.all_eq_true.mp p1 a ha)
            subst hfm
            exact hgw v (q v hv) f hf
          · intro e he
            rcases List.mem_append.mp he with he | he
            · exact af_pT_ok hg (fun e he v hv f hf => hgw v (af_wfTb_ok p2 e he v hv) f hf) h2 hpt e he
            · exact (hT.ag hn2 hag).keep hF e he
          · exact af_pD_ok hg (fun e he => ⟨hgw _ (b2 e he).1, hgw _ (b2 e he).2, (h3.2.1 e he).2.2⟩) k1
        · cases h
theorem af_find_ok {z : Nat} {As : List af_V} {T T1 : af_T} {N1 : af_N} {n1 : Nat} {K : af_K} {θ : af_X} : ∀ {CT : List af_K}, af_find Sh z As n T N CT = some (K, θ, n1, T1, N1) → K ∈ CT ∧ K.1 = z ∧ af_mat Sh K.2.2.1.2.2.1 n T N = some (n1, T1, N1) ∧ af_mQ 0 As T1 N1 K.2.2.1 = some θ
  | [], h => by cases h
  | K0 :: CT, h => by
    unfold af_find at h
    split at h
    · rename_i hz
      split at h
      · have q := af_find_ok h
        exact ⟨List.mem_cons_of_mem _ q.1, q.2⟩
      · rename_i a b c hm
        split at h
        · rename_i θ0 hq
          cases h
          exact ⟨List.mem_cons_self, by simpa using hz, hm, hq⟩
        · have q := af_find_ok h
          exact ⟨List.mem_cons_of_mem _ q.1, q.2⟩
    · have q := af_find_ok h
      exact ⟨List.mem_cons_of_mem _ q.1, q.2⟩
theorem af_posts_ok {E pc n1 : Nat} {θ : af_X} {K : af_M} {L : af_L} {st : List af_V} {T : af_T} {P : af_Q} : ∀ {Ps : List af_Q} {R : List (Nat × af_S)}, af_posts E θ K pc n1 L st T N Ps = some R → P ∈ Ps → ∃ R1, af_post E θ K pc n1 L st T N P = some R1 ∧ ∀ q ∈ R1, q ∈ R
  | [], _, _, hP => by cases hP
  | P0 :: Ps, R, h, hP => by
    unfold af_posts at h
    split at h
    · cases h
    · rename_i R0 h0
      split at h
      · cases h
      · rename_i R' h'
        cases h
        rcases List.mem_cons.mp hP with rfl | hP
        · exact ⟨R0, h0, fun q hq => List.mem_append_left _ hq⟩
        · obtain ⟨R1, k1, k2⟩ := af_posts_ok h' hP
          exact ⟨R1, k1, fun q hq => List.mem_append_right _ (k2 q hq)⟩
theorem af_St.len : ∀ {as : List af_V} {vs : List Value}, af_St n ρ as vs → as.length = vs.length
  | [], [], _ => rfl
  | _ :: _, _ :: _, ⟨_, h2⟩ => by rw [List.length_cons, List.length_cons, h2.len]
theorem af_St.take : ∀ {k : Nat} {as : List af_V} {vs : List Value}, af_St n ρ as vs → af_St n ρ (as.take k) (vs.take k)
  | 0, _, _, _ => trivial
  | _ + 1, [], [], _ => trivial
  | _ + 1, _ :: _, _ :: _, ⟨h1, h2⟩ => ⟨h1, h2.take⟩
theorem af_St.drop : ∀ {k : Nat} {as : List af_V} {vs : List Value}, af_St n ρ as vs → af_St n ρ (as.drop k) (vs.drop k)
  | 0, _, _, h => h
  | _ + 1, [], [], _ => trivial
  | _ + 1, _ :: _, _ :: _, ⟨_, h2⟩ => h2.drop
theorem af_St.rev : ∀ {as : List af_V} {vs : List Value}, af_St n ρ as vs → af_St n ρ as.reverse vs.reverse
  | [], [], _ => trivial
  | _ :: _, _ :: _, ⟨h1, h2⟩ => by
    rw [List.reverse_cons, List.reverse_cons]
    exact h2.rev.app ⟨h1, trivial⟩
theorem af_St.cats : ∀ {as : List af_V} {vs : List Value}, af_St n ρ as vs → pi_cats vs = af_vcats as
  | [], [], _ => rfl
  | a :: as, v :: vs, ⟨h1, h2⟩ => by
    have e1 := h2.cats
    have e2 := h1.cat
    unfold pi_cats af_vcats at e1 ⊢
    rw [List.map_cons, List.map_cons, List.sum_cons, List.sum_cons, e1, e2]
theorem af_St.slots : ∀ {as : List af_V} {vs : List Value}, af_St n ρ as vs → (lg_sl vs).length = af_vcats as
  | [], [], _ => rfl
  | a :: as, v :: vs, ⟨h1, h2⟩ => by
    have e1 := h2.slots
    have e2 := h1.cat
    unfold lg_sl af_vcats at e1 ⊢
    rw [List.map_cons, List.sum_cons, List.flatMap_cons, List.length_append, e1]
    split at e2
    · rename_i hl
      rw [if_pos e2, if_pos hl]; rfl
    · rename_i hl
      rw [if_neg (by omega), if_neg hl]; rfl
end AFC
