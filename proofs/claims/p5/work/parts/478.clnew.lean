/-! ===== the class behind a new NAME ===== -/
theorem CL.new {w w' : pi_W} {A : ld_A} {nr s : Nat} {NT : List nt_E} {u : List Nat} (h : CL w 8 9 A nr NT) (hs : s = 0 ∨ s = 2 ∨ s = 3 ∨ s = 4) (hF : af_Fr [(1, 4, 10), (8, s, s + 1), (8, 5, 6), (8, 116, 170), (9, 0, 27)] w w') (hc : (gv w' 8 s).toInt = ((nt_c s NT + 1 : Nat) : Int)) : (∀ s', s' = 0 ∨ s' = 2 ∨ s' = 3 ∨ s' = 4 → (gv w' 8 s').toInt = (nt_c s' (NT ++ [(s, nt_c s NT, u)]) : Int)) ∧ (gv w' 8 1).toInt = (nr : Int) ∧ CR w' 8 A (nt_c 3 NT) (nt_c 4 NT) := by
  obtain ⟨_, b, c, d⟩ := h
  have hcov : ∀ j, j < 116 → j ≠ s → j ≠ 5 → af_cov [(1, 4, 10), (8, s, s + 1), (8, 5, 6), (8, 116, 170), (9, 0, 27)] 8 j j = false := fun j h1 h2 h3 => by
    rw [← Bool.not_eq_true]
    intro q
    unfold af_cov at q
    simp only [List.any_cons, List.any_nil, Bool.or_false, Bool.or_eq_true, Bool.and_eq_true, beq_iff_eq, Nat.ble_eq, Nat.blt_eq] at q
    omega
  refine ⟨fun s' hs' => ?_, ?_, ?_⟩
  · rw [nt_c_app]
    by_cases e : s = s'
    · subst e
      rw [if_pos rfl]
      exact hc
    · rw [if_neg e, gv_eq (hF 8 s' (hcov s' (by omega) (fun q => e q.symm) (by omega)))]
      exact b s' hs'
  · rw [gv_eq (hF 8 1 (hcov 1 (by omega) (by omega) (by omega)))]
    exact c
  · exact d.fr hF (fun j h1 h2 => hcov j h2 (by omega) (by omega))
/-- a new PLACE or DEED -/
theorem CL.new02 {w w' : pi_W} {A : ld_A} {nr s : Nat} {NT : List nt_E} {u : List Nat} (h : CL w 8 9 A nr NT) (hs : s = 0 ∨ s = 2) (hN : NC w' 8 9 (NT ++ [(s, nt_c s NT, u)])) (hF : af_Fr [(1, 4, 10), (8, s, s + 1), (8, 5, 6), (8, 116, 170), (9, 0, 27)] w w') (hc : (gv w' 8 s).toInt = ((nt_c s NT + 1 : Nat) : Int)) : CL w' 8 9 A nr (NT ++ [(s, nt_c s NT, u)]) := by
  obtain ⟨b, c, d⟩ := h.new (u := u) (by omega) hF hc
  refine ⟨hN, b, c, ?_⟩
  rw [nt_c_app, nt_c_app, if_neg (by show ¬ s = 3; omega), if_neg (by show ¬ s = 4; omega)]
  exact d
/-- a new LAW, once it is said that it repeals none -/
theorem CL.new3 {w w' w2 : pi_W} {A : ld_A} {nr : Nat} {NT : List nt_E} {u : List Nat} (h : CL w 8 9 A nr NT) (h6 : nt_c 3 NT < 6) (hN : NC w' 8 9 (NT ++ [(3, nt_c 3 NT, u)])) (hF : af_Fr [(1, 4, 10), (8, 3, 4), (8, 5, 6), (8, 116, 170), (9, 0, 27)] w w') (hc : (gv w' 8 3).toInt = ((nt_c 3 NT + 1 : Nat) : Int)) (hw : wr1 w' 8 (38 + nt_c 3 NT) (.int (Int32.ofInt (-1))) w2) : CL w2 8 9 (ld_u A 4 (nt_c 3 NT) 0) nr (NT ++ [(3, nt_c 3 NT, u)]) := by
  obtain ⟨b, c, d⟩ := h.new (s := 3) (u := u) (by omega) hF hc
  have hcov : ∀ j, j ≠ 38 + nt_c 3 NT → af_cov [(8, 38 + nt_c 3 NT, 38 + nt_c 3 NT + 1)] 8 j j = false := fun j hj => by
    rw [← Bool.not_eq_true, hq_cov1]
    exact fun q => hj q.2
  refine ⟨hN.fr2 (wpF hw) (hcov 5 (by omega)) (fun j h1 h2 => hcov j (by omega)) (fun e he => by rw [List.mem_singleton.mp he]; show ¬ 8 = 9; decide), fun s hs => by rw [wpv hw, if_neg (by omega)]; exact b s hs, by rw [wpv hw, if_neg (by omega)]; exact c, ?_⟩
  intro c' k h1 h2 h3 h4
  rw [nt_c_app, if_pos rfl] at h3
  rw [nt_c_app, if_neg (show ¬ 3 = 4 by decide)] at h4
  rw [wpv hw]
  unfold ld_u
  by_cases e : c' = 4 ∧ k = nt_c 3 NT
  · obtain ⟨rfl, rfl⟩ := e
    rw [if_pos ⟨rfl, rfl⟩, if_pos ⟨rfl, rfl⟩]
    decide
  · rw [if_neg (fun q => e (ld_cinj (c0 := 4) (k0 := nt_c 3 NT) h1 h2 (by decide) (by show nt_c 3 NT < 6; omega) q.2)), if_neg e]
    exact d c' k h1 h2 (fun q => by have := h3 q; have : ¬ k = nt_c 3 NT := fun q2 => e ⟨q, q2⟩; omega) h4
/-- a new MAN, once it is said that he reads for none -/
theorem CL.new4 {w w' w2 w3 : pi_W} {A A' : ld_A} {nr : Nat} {NT : List nt_E} {u : List Nat} {N : af_M} (h : CL w 8 9 A nr NT) (h6 : nt_c 4 NT < 6) (hN : NC w' 8 9 (NT ++ [(4, nt_c 4 NT, u)])) (hF : af_Fr [(1, 4, 10), (8, 4, 5), (8, 5, 6), (8, 116, 170), (9, 0, 27)] w w') (hc : (gv w' 8 4).toInt = ((nt_c 4 NT + 1 : Nat) : Int)) (hw : wr1 w' 8 (56 + nt_c 4 NT) (.int (Int32.ofInt (-1))) w2) : CL w2 8 9 (ld_u A 7 (nt_c 4 NT) 0) nr (NT ++ [(4, nt_c 4 NT, u)]) := by
  obtain ⟨b, c, d⟩ := h.new (s := 4) (u := u) (by omega) hF hc
  have hcov : ∀ j, j ≠ 56 + nt_c 4 NT → af_cov [(8, 56 + nt_c 4 NT, 56 + nt_c 4 NT + 1)] 8 j j = false := fun j hj => by
    rw [← Bool.not_eq_true, hq_cov1]
    exact fun q => hj q.2
  refine ⟨hN.fr2 (wpF hw) (hcov 5 (by omega)) (fun j h1 h2 => hcov j (by omega)) (fun e he => by rw [List.mem_singleton.mp he]; show ¬ 8 = 9; decide), fun s hs => by rw [wpv hw, if_neg (by omega)]; exact b s hs, by rw [wpv hw, if_neg (by omega)]; exact c, ?_⟩
  intro c' k h1 h2 h3 h4
  rw [nt_c_app, if_neg (show ¬ 4 = 3 by decide)] at h3
  rw [nt_c_app, if_pos rfl] at h4
  rw [wpv hw]
  unfold ld_u
  by_cases e : c' = 7 ∧ k = nt_c 4 NT
  · obtain ⟨rfl, rfl⟩ := e
    rw [if_pos ⟨rfl, rfl⟩, if_pos ⟨rfl, rfl⟩]
    decide
  · rw [if_neg (fun q => e (ld_cinj (c0 := 7) (k0 := nt_c 4 NT) h1 h2 (by decide) (by show nt_c 4 NT < 6; omega) q.2)), if_neg e]
    exact d c' k h1 h2 h3 (fun q => by have := h4 q; have : ¬ k = nt_c 4 NT := fun q2 => e ⟨q, q2⟩; omega)
