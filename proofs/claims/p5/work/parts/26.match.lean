/-! ===== deeper does no harm ===== -/
theorem pi_deep_1 {n d : Nat} {mi : pi_M} {s : pi_S} {cu su : Nat} {res : pi_R} (ih : ∀ (d : Nat) (mi : pi_M) (s : pi_S) (cu su : Nat) (res : pi_R), pi_run n d mi s cu su = some res → pi_run n (d + 1) mi s cu su = some res) (h : pi_run (n + 1) d mi s cu su = some res) : pi_run (n + 1) (d + 1) mi s cu su = some res := by
  rw [pi_run] at h
  split at h
  · cases h
  · rename_i i len hf
    split at h
    · rename_i hE
      rw [pi_run, hf]
      dsimp only
      rw [if_pos hE]
      exact h
    · rename_i hE
      split at h
      · rename_i cp kinds hi
        split at h
        · cases h
        · rename_i kind z na q hl
          split at h
          · cases h
          · rename_i hk
            split at h
            · rename_i h3
              split at h
              · cases h
              · rename_i h5
                split at h
                · cases h
                · rename_i s' hs
                  rw [pi_run, hf]
                  dsimp only
                  rw [if_neg hE, hi]
                  dsimp only
                  rw [hl]
                  dsimp only
                  rw [if_neg hk, if_pos h3, if_neg (fun q => h5 ⟨Nat.lt_of_succ_lt q.1, q.2⟩), hs]
                  exact ih _ _ _ _ _ _ h
            · rename_i h3
              split at h
              · rename_i d' y cc mz hz
                split at h
                · cases h
                · rename_i As rest ha
                  split at h
                  · cases h
                  · rename_i r w' c' u' hr
                    split at h
                    · rename_i hkp
                      rw [pi_run, hf]
                      dsimp only
                      rw [if_neg hE, hi]
                      dsimp only
                      rw [hl]
                      dsimp only
                      rw [if_neg hk, if_neg h3, hz]
                      dsimp only
                      rw [ha]
                      dsimp only
                      rw [ih _ _ _ _ _ _ hr]
                      dsimp only
                      rw [if_pos hkp]
                      exact ih _ _ _ _ _ _ h
                    · cases h
              · cases h
      · rename_i hi
        split at h
        · rename_i hN
          split at h
          · cases h
          · rename_i s' k hs
            rw [pi_run, hf]
            dsimp only
            rw [if_neg hE, hi]
            dsimp only
            rw [if_pos hN, hs]
            exact ih _ _ _ _ _ _ h
        · rename_i hN
          split at h
          · cases h
          · rename_i s' hs
            rw [pi_run, hf]
            dsimp only
            rw [if_neg hE, hi]
            dsimp only
            rw [if_neg hN, hs]
            exact ih _ _ _ _ _ _ h
theorem pi_deep_s : ∀ (n d : Nat) (mi : pi_M) (s : pi_S) (cu su : Nat) (res : pi_R), pi_run n d mi s cu su = some res → pi_run n (d + 1) mi s cu su = some res
  | 0, _, _, _, _, _, _, h => by cases h
  | n + 1, _, _, _, _, _, _, h => pi_deep_1 (pi_deep_s n) h
theorem pi_deep {n d k : Nat} {mi : pi_M} {s : pi_S} {cu su : Nat} {res : pi_R} (h : pi_run n d mi s cu su = some res) (hk : d ≤ k) : pi_run n k mi s cu su = some res := by
  obtain ⟨j, rfl⟩ := Nat.le.dest hk
  clear hk
  induction j with
  | zero => exact h
  | succ j ih => exact pi_deep_s _ _ _ _ _ _ _ ih
/-! ===== patterns ===== -/
def af_Tw (n E : Nat) (θ : af_X) : Prop := ∀ v f, af_th E θ v = some f → af_wf n f
def af_Ex (E : Nat) (θ θ' : af_X) : Prop := ∀ v f, af_th E θ v = some f → af_th E θ' v = some f
def af_Th (ρ : Nat → Int) (E : Nat) (θ : af_X) (ρ' : Nat → Int) : Prop := ∀ v f, af_th E θ v = some f → ρ' v = af_ev ρ f
section AFM
variable {Sh : af_H} {n E : Nat} {ρ ρ' : Nat → Int} {θ θ' : af_X} {g : Nat → Option af_F} {N : af_N} {w : pi_W}
theorem af_Ex.rf (E : Nat) (θ : af_X) : af_Ex E θ θ := fun _ _ q => q
theorem af_Ex.tr {θ1 θ2 θ3 : af_X} (h : af_Ex E θ1 θ2) (h' : af_Ex E θ2 θ3) : af_Ex E θ1 θ3 := fun v f q => h' v f (h v f q)
theorem af_Th.of (h' : af_Th ρ E θ' ρ') (h : af_Ex E θ θ') : af_Th ρ E θ ρ' := fun v f q => h' v f (h v f q)
theorem af_sbs_ok (hg : ∀ v f, g v = some f → ρ' v = af_ev ρ f) : ∀ {vs : List Nat} {f : af_F}, af_sbs g vs = some f → (vs.map ρ').sum = af_ev ρ f
  | [], f, h => by
    cases h
    rfl
  | v :: vs, f, h => by
    unfold af_sbs at h
    split at h
    · cases h
    · rename_i f1 h1
      split at h
      · cases h
      · rename_i f2 h2
        cases h
        rw [List.map_cons, List.sum_cons, hg v f1 h1, af_sbs_ok hg h2, af_ev_add]
theorem af_sb_ok {p f : af_F} (hg : ∀ v f, g v = some f → ρ' v = af_ev ρ f) (h : af_sb g p = some f) : af_ev ρ' p = af_ev ρ f := by
  unfold af_sb at h
  split at h
  · cases h
  · rename_i k hk
    cases h
    have e := af_sbs_ok hg hk
    have e1 : af_ev ρ' p = p.1 + (p.2.map ρ').sum := rfl
    have e2 : af_ev ρ k = k.1 + (k.2.map ρ).sum := rfl
    have e3 : af_ev ρ (p.1 + k.1, k.2) = p.1 + k.1 + (k.2.map ρ).sum := rfl
    omega
theorem af_sbs_wf : ∀ {vs : List Nat} {f : af_F}, (∀ v ∈ vs, ∀ f, g v = some f → af_wf n f) → af_sbs g vs = some f → af_wf n f
  | [], f, _, h => by
    cases h
    exact af_wf_c n 0
  | v :: vs, f, hg, h => by
    unfold af_sbs at h
    split at h
    · cases h
    · rename_i f1 h1
      split at h
      · cases h
      · rename_i f2 h2
        cases h
        exact af_wf_app (hg v List.mem_cons_self f1 h1) (af_sbs_wf (fun u hu => hg u (List.mem_cons_of_mem _ hu)) h2) _
theorem af_sb_wf {p f : af_F} (hg : ∀ v ∈ p.2, ∀ f, g v = some f → af_wf n f) (h : af_sb g p = some f) : af_wf n f := by
  unfold af_sb at h
  split at h
  · cases h
  · rename_i k hk
    cases h
    exact fun v hv => af_sbs_wf hg hk v hv
theorem af_m1_ok {p c : af_F} (hw : af_Tw n E θ) (hc : af_wf n c) (h : af_m1 E θ p c = some θ') : af_Ex E θ θ' ∧ af_Tw n E θ' ∧ ∀ ρ ρ', af_Th ρ E θ' ρ' → af_ev ρ' p = af_ev ρ c := by
  unfold af_m1 at h
  split at h
  · split at h
    · cases h
    · rename_i f hf
      split at h
      · rename_i hl
        cases h
        refine ⟨fun _ _ q => q, hw, fun ρ ρ' hT => ?_⟩
        have e1 := af_sb_ok hT hf
        have e2 := (af_less_ok (ρ := ρ) hl).1
        rw [af_ev_c] at e2
        omega
      · cases h
  · rename_i u hfl
    split at h
    · cases h
    · rename_i us hus
      split at h
      · cases h
      · rename_i f hf
        split at h
        · cases h
        · rename_i g hl
          cases h
          have hu : af_th E θ u = none := by
            have h0 : u ∈ p.2.filter (fun v => (af_th E θ v).isNone) := by rw [hfl]; exact List.mem_cons_self
            have h1 := (List.mem_filter.mp h0).2
            exact Option.isNone_iff_eq_none.mp h1
          have hu2 : ¬ u < E := by
            intro q
            unfold af_th at hu
            rw [if_pos q] at hu
            cases hu
          have hnew : af_th E ((u, g) :: θ) u = some g := by
            unfold af_th
            rw [if_neg hu2, af_thk, if_pos (by simp)]
          have hold : ∀ v, v ≠ u → af_th E ((u, g) :: θ) v = af_th E θ v := by
            intro v hv
            unfold af_th
            split
            · rfl
            · rw [af_thk, if_neg (by simpa using fun q => hv q.symm)]
          have hex : af_Ex E θ ((u, g) :: θ) := by
            intro v f' hv
            have hne : v ≠ u := by
              rintro rfl
              rw [hu] at hv
              cases hv
            rw [hold v hne]
            exact hv
          refine ⟨hex, ?_, fun ρ ρ' hT => ?_⟩
          · intro v f' hv
            by_cases hvu : v = u
            · subst hvu
              rw [hnew] at hv
              cases hv
              exact (af_less_ok (ρ := fun _ => 0) hl).2 n hc
            · rw [hold v hvu] at hv
              exact hw v f' hv
          · have e1 := af_sb_ok (hT.of hex) hf
            have e2 := (af_less_ok (ρ := ρ) hl).1
            have e3 := (af_erase_ok (ρ := ρ') hus).1
            have e4 := hT u g hnew
            have e5 : af_ev ρ' p = p.1 + (p.2.map ρ').sum := rfl
            have e6 : af_ev ρ' (p.1, us) = p.1 + (us.map ρ').sum := rfl
            omega
  · cases h
def af_wfV (n : Nat) (a : af_V) : Prop := match a with
  | .inl f => af_wf n f
  | _ => True
theorem af_mv_ok {p c : af_V} {v : Value} (hw : af_Tw n E θ) (hc : af_val n ρ c v) (h : af_mv E θ p c = some θ') : af_Ex E θ θ' ∧ af_Tw n E θ' ∧ ∀ ρ' k, af_Th ρ E θ' ρ' → af_wfV k p → af_val k ρ' p v := by
  match p, c, hc, h with
  | .inl f, .inl g, ⟨h1, x, h2, h3⟩, h =>
    have q := af_m1_ok hw h1 h
    exact ⟨q.1, q.2.1, fun ρ' k hT hk => ⟨hk, x, h2, by rw [q.2.2 ρ ρ' hT]; exact h3⟩⟩
  | .inr (.inl a), .inr (.inl b), hc, h =>
    simp only [af_mv] at h
    split at h
    · rename_i hab
      cases h
      subst hab
      exact ⟨af_Ex.rf _ _, hw, fun _ _ _ _ => hc⟩
    · cases h
  | .inr (.inr _), .inr (.inr _), hc, h =>
    cases h
    exact ⟨af_Ex.rf _ _, hw, fun _ _ _ _ => hc⟩
theorem af_mvs_ok : ∀ {ps cs : List af_V} {θ θ' : af_X} {vs : List Value}, af_Tw n E θ → af_St n ρ cs vs → af_mvs E θ ps cs = some θ' → af_Ex E θ θ' ∧ af_Tw n E θ' ∧ ∀ ρ' k, af_Th ρ E θ' ρ' → (∀ p ∈ ps, af_wfV k p) → af_St k ρ' ps vs
  | [], [], θ, θ', vs, hw, hs, h => by
    cases h
    match vs, hs with
    | [], _ => exact ⟨af_Ex.rf _ _, hw, fun _ _ _ _ => trivial⟩
  | p :: ps, c :: cs, θ, θ', vs, hw, hs, h => by
    simp only [af_mvs] at h
    split at h
    · cases h
    · rename_i θ1 h1
      match vs, hs with
      | v :: vs, ⟨hs1, hs2⟩ =>
        obtain ⟨a1, a2, a3⟩ := af_mv_ok hw hs1 h1
        obtain ⟨b1, b2, b3⟩ := af_mvs_ok a2 hs2 h
        exact ⟨a1.tr b1, b2, fun ρ' k hT hk => ⟨a3 ρ' k (hT.of b1) (hk p List.mem_cons_self), b3 ρ' k hT (fun q hq => hk q (List.mem_cons_of_mem _ hq))⟩⟩
  | [], _ :: _, _, _, _, _, _, h => by cases h
  | _ :: _, [], _, _, _, _, _, h => by cases h
theorem af_mL_ok {L : af_L} {lv : pi_L} (hL : af_Lo n ρ L lv) : ∀ {ps : af_L} {θ θ' : af_X}, af_Tw n E θ → af_mL E L θ ps = some θ' → af_Ex E θ θ' ∧ af_Tw n E θ' ∧ ∀ ρ' k, af_Th ρ E θ' ρ' → (∀ p ∈ ps, af_wfV k p.2) → af_Lo k ρ' ps lv
  | [], θ, θ', hw, h => by
    cases h
    exact ⟨af_Ex.rf _ _, hw, fun _ _ _ _ e he => by cases he⟩
  | (i, p) :: ps, θ, θ', hw, h => by
    simp only [af_mL] at h
    split at h
    · cases h
    · rename_i c hc
      obtain ⟨v, hv, hval⟩ := hL _ (af_getL_mem hc)
      split at h
      · cases h
      · rename_i θ1 h1
        obtain ⟨a1, a2, a3⟩ := af_mv_ok hw hval h1
        obtain ⟨b1, b2, b3⟩ := af_mL_ok hL a2 h
        refine ⟨a1.tr b1, b2, fun ρ' k hT hk e he => ?_⟩
        rcases List.mem_cons.mp he with rfl | he
        · exact ⟨v, hv, a3 ρ' k (hT.of b1) (hk _ List.mem_cons_self)⟩
        · exact b3 ρ' k hT (fun q hq => hk q (List.mem_cons_of_mem _ hq)) e he
theorem af_mT_ok {T : af_T} (hT : af_Sl n ρ T w) : ∀ {ps : af_T} {θ θ' : af_X}, af_Tw n E θ → af_mT E T θ ps = some θ' → af_Ex E θ θ' ∧ af_Tw n E θ' ∧ ∀ ρ' k, af_Th ρ E θ' ρ' → (∀ p ∈ ps, af_wf k p.2) → af_Sl k ρ' ps w
  | [], θ, θ', hw, h => by
    cases h
    exact ⟨af_Ex.rf _ _, hw, fun _ _ _ _ e he => by cases he⟩
  | ((c, i), p) :: ps, θ, θ', hw, h => by
    simp only [af_mT] at h
    split at h
    · cases h
    · rename_i g hg
      obtain ⟨k0, x, k1, k2⟩ := hT _ (af_getT_mem hg)
      split at h
      · cases h
      · rename_i θ1 h1
        obtain ⟨a1, a2, a3⟩ := af_m1_ok hw k0 h1
        obtain ⟨b1, b2, b3⟩ := af_mT_ok hT a2 h
        refine ⟨a1.tr b1, b2, fun ρ' k hT hk e he => ?_⟩
        rcases List.mem_cons.mp he with rfl | he
        · exact ⟨hk _ List.mem_cons_self, x, k1, by rw [a3 ρ ρ' (hT.of b1)]; exact k2⟩
        · exact b3 ρ' k hT (fun q hq => hk q (List.mem_cons_of_mem _ hq)) e he
theorem af_canc_ok {ρ : Nat → Int} : ∀ {vs us a b : List Nat}, af_canc us vs = (a, b) → (us.map ρ).sum - (vs.map ρ).sum = (a.map ρ).sum - (b.map ρ).sum
  | [], us, a, b, h => by
    unfold af_canc at h
    cases h
    rfl
  | v :: vs, us, a, b, h => by
    unfold af_canc at h
    rw [List.map_cons, List.sum_cons]
    split at h
    · rename_i us' hu
      have e1 := (af_erase_ok (ρ := ρ) hu).1
      have e2 := af_canc_ok (ρ := ρ) h
      omega
    · split at h
      rename_i a' b' hc
      cases h
      have e2 := af_canc_ok (ρ := ρ) hc
      rw [List.map_cons, List.sum_cons]
      omega
theorem af_dlook_mem : ∀ {D : List (Nat × Nat × Int)} {u v : Nat} {d : Int}, af_dlook D u v = some d → (u, v, d) ∈ D
  | [], _, _, _, h => by cases h
  | (a, b, e) :: D, u, v, d, h => by
    unfold af_dlook at h
    split at h
    · rename_i hj
      rw [Bool.and_eq_true, beq_iff_eq, beq_iff_eq] at hj
      obtain ⟨rfl, rfl⟩ := hj
      cases h
      exact List.mem_cons_self
    · exact List.mem_cons_of_mem _ (af_dlook_mem h)
theorem af_low2_ok (hK : af_Kn n ρ Sh N) {k d : Int} {us vs : List Nat} (h : af_low2 N k us vs = some d) : d ≤ k + (us.map ρ).sum - (vs.map ρ).sum := by
  unfold af_low2 at h
  split at h
  · rename_i a x y e h1 h2
    cases h
    have q1 := af_ivs_ok hK h1
    have q2 := af_ivs_ok hK h2
    omega
  · cases h
theorem af_low_ok (hK : af_Kn n ρ Sh N) {d : Int} {f g : af_F} (h : af_low N f g = some d) : d ≤ af_ev ρ f - af_ev ρ g := by
  have e1 : af_ev ρ f = f.1 + (f.2.map ρ).sum := rfl
  have e2 : af_ev ρ g = g.1 + (g.2.map ρ).sum := rfl
  unfold af_low at h
  split at h
  · rename_i u v hc
    have e := af_canc_ok (ρ := ρ) hc
    split at h
    · rename_i d' hd
      cases h
      have q := (hK.2.1 _ (af_dlook_mem hd)).2.2
      simp only [List.map_cons, List.map_nil, List.sum_cons, List.sum_nil] at e
      dsimp only at q
      omega
    · have q := af_low2_ok hK h
      omega
  · rename_i us vs hne hc
    have e := af_canc_ok (ρ := ρ) hc
    have q := af_low2_ok hK h
    omega
theorem af_mN_ok {P : af_N} {k : Nat} (hK : af_Kn n ρ Sh N) (hT : af_Th ρ E θ ρ') (h : af_mN E θ N P = true) (h1 : ∀ e ∈ P.1, e.1 < k) (h2 : ∀ e ∈ P.2.1, e.1 < k ∧ e.2.1 < k) : af_Kn k ρ' Sh P := by
  unfold af_mN at h
  rw [Bool.and_eq_true, Bool.and_eq_true] at h
  obtain ⟨⟨q1, q2⟩, q3⟩ := h
  refine ⟨fun e he => ⟨h1 e he, ?_⟩, fun e he => ⟨(h2 e he).1, (h2 e he).2, ?_⟩, fun e he => ?_⟩
  · have q := List.all_eq_true.mp q1 e he
    split at q
    · cases q
    · rename_i f hf
      split at q
      · cases q
      · rename_i a b hab
        rw [Bool.and_eq_true, decide_eq_true_eq, decide_eq_true_eq] at q
        have r := af_iv_ok hK hab
        rw [hT _ _ hf]
        omega
  · have q := List.all_eq_true.mp q3 e he
    split at q
    · cases q
    · rename_i f hf
      split at q
      · cases q
      · rename_i g hg
        split at q
        · cases q
        · rename_i d hd
          rw [decide_eq_true_eq] at q
          have r := af_low_ok hK hd
          rw [hT _ _ hf, hT _ _ hg]
          omega
  · rw [List.isEmpty_iff] at q2
    rw [q2] at he
    cases he
/-- all variables are among the first n -/
def af_wfb (n : Nat) (f : af_F) : Bool := f.2.all (fun v => Nat.blt v n)
def af_wfVb (n : Nat) (a : af_V) : Bool := match a with
  | .inl f => af_wfb n f
  | _ => true
def af_wfTb (n : Nat) (T : af_T) : Bool := T.all (fun e => af_wfb n e.2)
def af_wfNb (n : Nat) (N : af_N) : Bool := N.1.all (fun e => Nat.blt e.1 n) && N.2.1.all (fun e => Nat.blt e.1 n && Nat.blt e.2.1 n)
def af_wfQ (P : af_Q) : Bool := P.2.1.all (af_wfVb P.1) && (af_wfTb P.1 P.2.2.1 && af_wfNb P.1 P.2.2.2)
def af_wfS (P : af_S) : Bool := P.2.1.all (fun e => af_wfVb P.1 e.2) && (P.2.2.1.all (af_wfVb P.1) && (af_wfTb P.1 P.2.2.2.1 && af_wfNb P.1 P.2.2.2.2))
theorem af_wfb_ok {f : af_F} (h : af_wfb n f = true) : af_wf n f := fun v hv => by
  have q := List.all_eq_true.mp h v hv
  exact Nat.blt_eq.mp q
theorem af_wfVb_ok {a : af_V} (h : af_wfVb n a = true) : af_wfV n a := by
  match a, h with
  | .inl f, h => exact af_wfb_ok h
  | .inr _, _ => trivial
theorem af_wfTb_ok {T : af_T} (h : af_wfTb n T = true) : ∀ p ∈ T, af_wf n p.2 := fun p hp => af_wfb_ok (List.all_eq_true.mp h p hp)
theorem af_wfNb_ok {N : af_N} (h : af_wfNb n N = true) : (∀ e ∈ N.1, e.1 < n) ∧ ∀ e ∈ N.2.1, e.1 < n ∧ e.2.1 < n := by
  unfold af_wfNb at h
  rw [Bool.and_eq_true] at h
  refine ⟨fun e he => Nat.blt_eq.mp (List.all_eq_true.mp h.1 e he), fun e he => ?_⟩
  have q := List.all_eq_true.mp h.2 e he
  rw [Bool.and_eq_true] at q
  exact ⟨Nat.blt_eq.mp q.1, Nat.blt_eq.mp q.2⟩
theorem af_Tw.nil (hE : E ≤ n) : af_Tw n E [] := by
  intro v f h
  unfold af_th at h
  split at h
  · rename_i hv
    cases h
    intro u hu
    rcases List.mem_singleton.mp hu with rfl
    exact Nat.lt_of_lt_of_le hv hE
  · cases h
def af_rho (ρ : Nat → Int) (E : Nat) (θ : af_X) : Nat → Int := fun v => match af_th E θ v with
  | some f => af_ev ρ f
  | none => 0
theorem af_rho_th (ρ : Nat → Int) (E : Nat) (θ : af_X) : af_Th ρ E θ (af_rho ρ E θ) := fun v f h => by
  unfold af_rho
  rw [h]
theorem af_rho_ag (ρ : Nat → Int) (E : Nat) (θ : af_X) : af_ag E ρ (af_rho ρ E θ) := fun v hv => by
  unfold af_rho af_th
  rw [if_pos hv]
  simp [af_ev_1]
theorem af_mQ_ok {vs : List af_V} {vals : List Value} {T : af_T} {P : af_Q} (hE : E ≤ n) (hs : af_St n ρ vs vals) (hT : af_Sl n ρ T w) (hK : af_Kn n ρ Sh N) (h : af_mQ E vs T N P = some θ) (hP : af_wfQ P = true) : af_Tw n E θ ∧ af_St P.1 (af_rho ρ E θ) P.2.1 vals ∧ af_Sl P.1 (af_rho ρ E θ) P.2.2.1 w ∧ af_Kn P.1 (af_rho ρ E θ) Sh P.2.2.2 := by
  unfold af_wfQ at hP
  rw [Bool.and_eq_true, Bool.and_eq_true] at hP
  obtain ⟨p1, p2, p3⟩ := hP
  unfold af_mQ at h
  split at h
  · cases h
  · rename_i θ1 h1
    obtain ⟨a1, a2, a3⟩ := af_mvs_ok (af_Tw.nil hE) hs h1
    split at h
    · cases h
    · rename_i θ2 h2
      obtain ⟨b1, b2, b3⟩ := af_mT_ok hT a2 h2
      split at h
      · rename_i h3
        cases h
        have hth := af_rho_th ρ E θ
        exact ⟨b2, a3 _ _ (hth.of b1) (fun p hp => af_wfVb_ok (List.all_eq_true.mp p1 p hp)), b3 _ _ hth (af_wfTb_ok p2), af_mN_ok hK hth h3 (af_wfNb_ok p3).1 (af_wfNb_ok p3).2⟩
      · cases h
theorem af_mS_ok {σ P : af_S} {s : pi_S} (hE : E ≤ σ.1) (hS : af_Sat Sh ρ σ s) (h : af_mS E σ P = some θ) (hP : af_wfS P = true) : af_Tw σ.1 E θ ∧ af_Sat Sh (af_rho ρ E θ) P s := by
  obtain ⟨hL, hs, hC, hT, hK⟩ := hS
  unfold af_wfS at hP
  rw [Bool.and_eq_true, Bool.and_eq_true, Bool.and_eq_true] at hP
  obtain ⟨p0, p1, p2, p3⟩ := hP
  unfold af_mS at h
  split at h
  · cases h
  · rename_i θ0 h0
    obtain ⟨z1, z2, z3⟩ := af_mL_ok hL (af_Tw.nil hE) h0
    split at h
    · cases h
    · rename_i θ1 h1
      obtain ⟨a1, a2, a3⟩ := af_mvs_ok z2 hs h1
      split at h
      · cases h
      · rename_i θ2 h2
        obtain ⟨b1, b2, b3⟩ := af_mT_ok hT a2 h2
        split at h
        · rename_i h3
          cases h
          have hth := af_rho_th ρ E θ
          exact ⟨b2, z3 _ _ (hth.of (a1.tr b1)) (fun p hp => af_wfVb_ok (List.all_eq_true.mp p0 p hp)), a3 _ _ (hth.of b1) (fun p hp => af_wfVb_ok (List.all_eq_true.mp p1 p hp)), hC, b3 _ _ hth (af_wfTb_ok p2), af_mN_ok hK hth h3 (af_wfNb_ok p3).1 (af_wfNb_ok p3).2⟩
        · cases h
end AFM
