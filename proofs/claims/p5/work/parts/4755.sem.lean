/-! ===== what a LINE's function says, in class and model ===== -/
theorem ls_look_in {s : Nat} {t : tq_T} {NT : List nt_E} {v : Int32} (ho : nt_ok NT) (hc : nt_c s NT ≤ 10) (hn : t.1 = 2 ∧ tq_kx t.2.2.2.1 = -1) (hv : v.toInt = nt_f NT s t.2.2.2.1) (hf : ¬ nt_f NT s t.2.2.2.1 = -1) : ∃ k, k < nt_c s NT ∧ v = Int32.ofNat k ∧ ls_look s t NT = .inr k := by
  have hr := nt_f_r (s := s) (u := t.2.2.2.1) ho
  refine ⟨(nt_f NT s t.2.2.2.1).toNat, by omega, hn_e (by omega) (by omega), ?_⟩
  unfold ls_look ls_nm
  rw [decide_eq_true hn, if_neg (by decide), if_neg hf]
theorem ls_look_1 {s : Nat} {t : tq_T} {NT : List nt_E} (hn : ¬ (t.1 = 2 ∧ tq_kx t.2.2.2.1 = -1)) : ls_look s t NT = .inl (1, t.2.1) := by
  unfold ls_look ls_nm
  rw [decide_eq_false hn, if_pos rfl]
theorem ls_look_3 {s : Nat} {t : tq_T} {NT : List nt_E} (hn : t.1 = 2 ∧ tq_kx t.2.2.2.1 = -1) (hf : nt_f NT s t.2.2.2.1 = -1) : ls_look s t NT = .inl (3, t.2.1) := by
  unfold ls_look ls_nm
  rw [decide_eq_true hn, if_neg (by decide), if_pos hf]
theorem ls_new_in {tp : Nat → Nat} {B M s : Nat} {σ : ls_S} (hn : σ.1.1 = 2 ∧ tq_kx σ.1.2.2.2.1 = -1) (hf : nt_t σ.2.2.2 σ.1.2.2.2.1 = false) : ls_new tp B M s σ = .inr (tq_nx tp B M σ.1, σ.2.1, σ.2.2.1, σ.2.2.2 ++ [(s, nt_c s σ.2.2.2, σ.1.2.2.2.1)]) := by
  unfold ls_new ls_nm
  rw [decide_eq_true hn, if_neg (by decide), hf, if_neg (by decide)]
theorem ls_new_1 {tp : Nat → Nat} {B M s : Nat} {σ : ls_S} (hn : ¬ (σ.1.1 = 2 ∧ tq_kx σ.1.2.2.2.1 = -1)) : ls_new tp B M s σ = .inl (1, σ.1.2.1) := by
  unfold ls_new ls_nm
  rw [decide_eq_false hn, if_pos rfl]
theorem ls_new_3 {tp : Nat → Nat} {B M s : Nat} {σ : ls_S} (hn : σ.1.1 = 2 ∧ tq_kx σ.1.2.2.2.1 = -1) (hf : nt_t σ.2.2.2 σ.1.2.2.2.1 = true) : ls_new tp B M s σ = .inl (3, σ.1.2.1) := by
  unfold ls_new ls_nm
  rw [decide_eq_true hn, if_neg (by decide), hf, if_pos rfl]
/-- the class reads a LAND, and this is told -/
def CO (tp : Nat → Nat) (B M : Nat) (w : pi_W) (σ : ls_S) : Prop := CT tp B M w σ.1 ∧ CL w 8 9 σ.2.1 σ.2.2.1 σ.2.2.2
def MO (tp : Nat → Nat) (B M : Nat) (w : pi_W) (σ : ls_S) : Prop := MT tp B M w σ.1 ∧ ML w σ.2.1 σ.2.2.1 σ.2.2.2
def cl_N : af_M := [(1, 4, 12), (8, 0, 170), (9, 0, 27)]
def ml_N : af_M := [(61, 4, 5), (61, 11, 19), (64, 0, 115), (66, 27, 54)]
/-- what a method that reads a LINE, or a piece of it, does in the class -/
def cl_P (tp : Nat → Nat) (B M : Nat) (F : ls_R) (w : pi_W) (r : Option Value) (w' : pi_W) : Prop := af_Conf aw_Sh w' ∧ af_Fr cl_N w w' ∧ ((r = some (.int 1) ∧ ∃ σ, F = .inr σ ∧ CO tp B M w' σ) ∨ (r = some (.int 0) ∧ ∃ k p, F = .inl (k, p) ∧ FC w' k p))
def ml_P (tp : Nat → Nat) (B M : Nat) (F : ls_R) (w : pi_W) (r : Option Value) (w' : pi_W) : Prop := af_Conf aw_Sh w' ∧ af_Fr ml_N w w' ∧ ((r = some (.int 1) ∧ ∃ σ, F = .inr σ ∧ MO tp B M w' σ) ∨ (r = some (.int 0) ∧ ∃ k p, F = .inl (k, p) ∧ FM w' k p))
theorem NC.fr2 {w w' : pi_W} {fa na : Nat} {NT : List nt_E} {N : af_M} (h : NC w fa na NT) (hF : af_Fr N w w') (h5 : af_cov N fa 5 5 = false) (h1 : ∀ j, 116 ≤ j → j < 170 → af_cov N fa j j = false) (h2 : ∀ e ∈ N, e.1 ≠ na) : NC w' fa na NT := by
  refine ⟨by rw [gv_eq (hF fa 5 h5)]; exact h.1, h.2.1, fun i e he => ?_⟩
  have q := h.2.2 i e he
  have hi : i < NT.length := (List.getElem?_eq_some_iff.mp he).1
  have hl := h.2.1
  rw [gl_eq (hq_cell hF h2), gv_eq (hF fa (116 + i) (h1 _ (by omega) (by omega))), gv_eq (hF fa (143 + i) (h1 _ (by omega) (by omega)))]
  exact q
/-- other cells -/
theorem CL.fr {w w' : pi_W} {fa na : Nat} {A : ld_A} {nr : Nat} {NT : List nt_E} {N : af_M} (h : CL w fa na A nr NT) (hF : af_Fr N w w') (h1 : ∀ e ∈ N, e.1 ≠ fa) (h2 : ∀ e ∈ N, e.1 ≠ na) : CL w' fa na A nr NT := by
  obtain ⟨a, b, c, d⟩ := h
  refine ⟨a.fr hF h1 h2, fun s hs => by rw [gv_eq (hq_cell hF h1)]; exact b s hs, by rw [gv_eq (hq_cell hF h1)]; exact c, fun c' k q1 q2 q3 q4 => ?_⟩
  rw [gv_eq (hq_cell hF h1)]
  exact d c' k q1 q2 q3 q4
/-- one row's place written -/
theorem CL.put {w w' : pi_W} {fa na : Nat} {A : ld_A} {nr : Nat} {NT : List nt_E} {c0 k0 : Nat} {x v : Int32} (h : CL w fa na A nr NT) (hne : fa ≠ na) (hc : c0 < 10) (hk : k0 < ld_n c0) (hw : wr1 w fa (ld_c c0 + k0) (.int v) w') (hv : v = ld_v c0 x) : CL w' fa na (ld_u A c0 k0 x) nr NT := by
  obtain ⟨a, b, c, d⟩ := h
  have hr := ld_cr c0 hc k0 (Nat.lt_of_lt_of_le hk (ld_n48 c0)) hk
  have hcov : ∀ j, j ≠ ld_c c0 + k0 → af_cov [(fa, ld_c c0 + k0, ld_c c0 + k0 + 1)] fa j j = false := fun j hj => by
    rw [← Bool.not_eq_true, hq_cov1]
    exact fun q => hj q.2
  refine ⟨a.fr2 (wpF hw) (hcov 5 (by omega)) (fun j h1 h2 => hcov j (by omega)) (fun e he => by rw [List.mem_singleton.mp he]; exact hne), fun s hs => ?_, ?_, d.put hc hk hw hv⟩
  · rw [wpv hw, if_neg (by omega)]
    exact b s hs
  · rw [wpv hw, if_neg (by omega)]
    exact c
/-- the number of roads -/
theorem CL.road {w w' : pi_W} {fa na : Nat} {A : ld_A} {nr : Nat} {NT : List nt_E} {v : Int32} (h : CL w fa na A nr NT) (hne : fa ≠ na) (hw : wr1 w fa 1 (.int v) w') (hv : v.toInt = ((nr + 1 : Nat) : Int)) : CL w' fa na A (nr + 1) NT := by
  obtain ⟨a, b, c, d⟩ := h
  have hcov : ∀ j, j ≠ 1 → af_cov [(fa, 1, 1 + 1)] fa j j = false := fun j hj => by
    rw [← Bool.not_eq_true, hq_cov1]
    exact fun q => hj q.2
  refine ⟨a.fr2 (wpF hw) (hcov 5 (by omega)) (fun j h1 h2 => hcov j (by omega)) (fun e he => by rw [List.mem_singleton.mp he]; exact hne), fun s hs => ?_, ?_, d.fr (wpF hw) (fun j h1 h2 => hcov j (by omega))⟩
  · rw [wpv hw, if_neg (by omega)]
    exact b s hs
  · rw [wpv hw, if_pos ⟨rfl, rfl⟩]
    exact hv
