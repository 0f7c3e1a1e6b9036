/-! ===== the model's LAND being read ===== -/
theorem MR.get {w : pi_W} {ha : Nat} {A : ld_A} (h : MR w ha 0 A) {c k : Nat} (hc : c < 10) (hk : k < ld_n c) : gv w ha (ld_m c + k) = A c k := by
  have := h c k hc hk
  rw [Nat.zero_add] at this
  exact this
/-- NAMES as in NT, their numbers as in NC -/
def MLx (w : pi_W) (A : ld_A) (nr : Nat) (NT NC : List nt_E) : Prop := NM w 27 NT ∧ (∀ s, s = 0 ∨ s = 2 ∨ s = 3 ∨ s = 4 → (gv w 64 s).toInt = (nt_c s NC : Int)) ∧ (gv w 64 1).toInt = (nr : Int) ∧ MR w 64 0 A
theorem MLx.fr {w w' : pi_W} {A : ld_A} {nr : Nat} {NT NC : List nt_E} {N : af_M} (h : MLx w A nr NT NC) (hF : af_Fr N w w') (h1 : ∀ e ∈ N, e.1 ≠ 64) (h2 : ∀ e ∈ N, e.1 ≠ 66) : MLx w' A nr NT NC := by
  obtain ⟨a, b, c, d⟩ := h
  refine ⟨fun e he => by rw [gl_eq (hq_cell hF h2)]; exact a e he, fun s hs => by rw [gv_eq (hq_cell hF h1)]; exact b s hs, by rw [gv_eq (hq_cell hF h1)]; exact c, fun c' k q1 q2 => ?_⟩
  rw [gv_eq (hq_cell hF h1)]
  exact d c' k q1 q2
theorem MLx.put {w w' : pi_W} {A : ld_A} {nr : Nat} {NT NC : List nt_E} {c0 k0 : Nat} {x : Int32} (h : MLx w A nr NT NC) (hc : c0 < 10) (hk : k0 < ld_n c0) (hw : wr1 w 64 (ld_m c0 + k0) (.int x) w') : MLx w' (ld_u A c0 k0 x) nr NT NC := by
  obtain ⟨a, b, c, d⟩ := h
  have hr := ld_mr c0 hc k0 (Nat.lt_of_lt_of_le hk (ld_n48 c0)) hk
  exact ⟨fun e he => by rw [wpvl hw, if_neg (by omega)]; exact a e he, fun s hs => by rw [wpv hw, if_neg (by omega)]; exact b s hs, by rw [wpv hw, if_neg (by omega)]; exact c, d.put hc hk hw⟩
theorem MLx.road {w w' : pi_W} {A : ld_A} {nr : Nat} {NT NC : List nt_E} {v : Int32} (h : MLx w A nr NT NC) (hw : wr1 w 64 1 (.int v) w') (hv : v.toInt = ((nr + 1 : Nat) : Int)) : MLx w' A (nr + 1) NT NC := by
  obtain ⟨a, b, c, d⟩ := h
  refine ⟨fun e he => by rw [wpvl hw, if_neg (by omega)]; exact a e he, fun s hs => by rw [wpv hw, if_neg (by omega)]; exact b s hs, by rw [wpv hw, if_pos ⟨rfl, rfl⟩]; exact hv, fun c' k q1 q2 => ?_⟩
  have hr := ld_mr c' q1 k (Nat.lt_of_lt_of_le q2 (ld_n48 c')) q2
  rw [wpv hw, if_neg (by omega)]
  exact d c' k q1 q2
theorem nt_b_ne {NT : List nt_E} (ho : nt_ok NT) (hc : nt_cs NT) {s : Nat} (hs : s = 0 ∨ s = 2 ∨ s = 3 ∨ s = 4) (hlt : nt_c s NT < nt_mx s) {e : nt_E} (he : e ∈ NT) : nt_b e.1 + e.2.1 ≠ nt_b s + nt_c s NT := by
  obtain ⟨_, h1, h2⟩ := ho.1 e he
  obtain ⟨c0, c2, c3, c4⟩ := hc
  have b0 : nt_b 0 = 0 := rfl
  have b2 : nt_b 2 = 10 := rfl
  have b3 : nt_b 3 = 15 := rfl
  have b4 : nt_b 4 = 21 := rfl
  have x0 : nt_mx 0 = 10 := rfl
  have x2 : nt_mx 2 = 5 := rfl
  have x3 : nt_mx 3 = 6 := rfl
  have x4 : nt_mx 4 = 6 := rfl
  rcases h1 with q | q | q | q <;> rw [q] at h2 ⊢ <;> rcases hs with rfl | rfl | rfl | rfl <;> omega
theorem MLx.fresh {w w' : pi_W} {A : ld_A} {nr s b : Nat} {NT : List nt_E} {u : List Nat} (h : MLx w A nr NT NT) (ho : nt_ok NT) (hc : nt_cs NT) (hs : s = 0 ∨ s = 2 ∨ s = 3 ∨ s = 4) (hlt : nt_c s NT < nt_mx s) (hb : b = 27 + nt_b s + nt_c s NT) (hF : af_Fr [(61, 4, 5), (61, 11, 15), (61, 17, 18), (66, b, b + 1)] w w') (hg : gl w' 66 b = Int64.ofNat (tq_c256 u)) : MLx w' A nr (NT ++ [(s, nt_c s NT, u)]) NT := by
  obtain ⟨a, b', c, d⟩ := h
  have h64 : ∀ j, af_cov [(61, 4, 5), (61, 11, 15), (61, 17, 18), (66, b, b + 1)] 64 j j = false := fun j => by
    rw [← Bool.not_eq_true]
    intro q
    unfold af_cov at q
    simp only [List.any_cons, List.any_nil, Bool.or_false, Bool.or_eq_true, Bool.and_eq_true, beq_iff_eq, Nat.ble_eq, Nat.blt_eq] at q
    omega
  refine ⟨fun e he => ?_, fun s' hs' => by rw [gv_eq (hF 64 _ (h64 _))]; exact b' s' hs', by rw [gv_eq (hF 64 _ (h64 _))]; exact c, fun c' k q1 q2 => by rw [gv_eq (hF 64 _ (h64 _))]; exact d c' k q1 q2⟩
  rcases List.mem_append.mp he with q | q
  · have hne := nt_b_ne ho hc hs hlt q
    rw [gl_eq (hF 66 _ (by
      rw [← Bool.not_eq_true]
      intro q2
      unfold af_cov at q2
      simp only [List.any_cons, List.any_nil, Bool.or_false, Bool.or_eq_true, Bool.and_eq_true, beq_iff_eq, Nat.ble_eq, Nat.blt_eq] at q2
      omega))]
    exact a e q
  · rw [List.mem_singleton.mp q]
    show gl w' 66 (27 + nt_b s + nt_c s NT) = _
    rw [← hb]
    exact hg
theorem MLx.cnt {w w' : pi_W} {A : ld_A} {nr s : Nat} {NT : List nt_E} {u : List Nat} {v : Int32} (h : MLx w A nr (NT ++ [(s, nt_c s NT, u)]) NT) (hs : s = 0 ∨ s = 2 ∨ s = 3 ∨ s = 4) (hw : wr1 w 64 s (.int v) w') (hv : v.toInt = ((nt_c s NT + 1 : Nat) : Int)) : ML w' A nr (NT ++ [(s, nt_c s NT, u)]) := by
  obtain ⟨a, b, c, d⟩ := h
  refine ⟨fun e he => by rw [wpvl hw, if_neg (by omega)]; exact a e he, fun s' hs' => ?_, by rw [wpv hw, if_neg (by omega)]; exact c, fun c' k q1 q2 => ?_⟩
  · rw [wpv hw, nt_c_app]
    by_cases e : s = s'
    · subst e
      rw [if_pos ⟨rfl, rfl⟩, if_pos rfl]
      exact hv
    · rw [if_neg (fun q => e q.2.symm), if_neg e]
      exact b s' hs'
  · have hr := ld_mr c' q1 k (Nat.lt_of_lt_of_le q2 (ld_n48 c')) q2
    rw [wpv hw, if_neg (by omega)]
    exact d c' k q1 q2
theorem NM.sub {w : pi_W} {off : Nat} {NT : List nt_E} {e : nt_E} (h : NM w off (NT ++ [e])) : NM w off NT := fun x hx => h x (List.mem_append_left _ hx)
theorem nt_f_app_some {NT : List nt_E} {e : nt_E} {s : Nat} {u : List Nat} (h : ¬ nt_f NT s u = -1) : nt_f (NT ++ [e]) s u = nt_f NT s u := by
  unfold nt_f at *
  rw [List.find?_append]
  cases hq : NT.find? (nt_p s u) with
  | none => rw [hq] at h; exact absurd rfl h
  | some x => rfl
theorem nt_f_app_none {NT : List nt_E} {s k : Nat} {u v : List Nat} (h : nt_f NT s u = -1) : nt_f (NT ++ [(s, k, v)]) s u = if v = u then (k : Int) else -1 := by
  unfold nt_f at *
  rw [List.find?_append]
  cases hq : NT.find? (nt_p s u) with
  | none =>
    by_cases e : v = u
    · rw [if_pos e]
      simp [nt_p, e]
    · rw [if_neg e]
      simp [nt_p, e]
  | some x => rw [hq] at h; exact absurd h (by show ¬ ((x.2.1 : Nat) : Int) = -1; omega)
theorem ld_u_comm {A : ld_A} {c k c' k' : Nat} {x y : Int32} (h : c ≠ c') : ld_u (ld_u A c k x) c' k' y = ld_u (ld_u A c' k' y) c k x := by
  funext a b
  unfold ld_u
  by_cases h1 : a = c' ∧ b = k'
  · rw [if_pos h1, if_neg (fun q => h (q.1.symm.trans h1.1)), if_pos h1]
  · rw [if_neg h1]
    by_cases h2 : a = c ∧ b = k
    · rw [if_pos h2, if_pos h2]
    · rw [if_neg h2, if_neg h2, if_neg h1]
theorem ld_u_u {A : ld_A} {c k : Nat} {x y : Int32} : ld_u (ld_u A c k x) c k y = ld_u A c k y := by
  funext a b
  unfold ld_u
  by_cases h1 : a = c ∧ b = k
  · rw [if_pos h1, if_pos h1]
  · rw [if_neg h1, if_neg h1, if_neg h1]
/-! ranges of the model's row -/
theorem sn_5 : ∀ k, k < 27 → 5 ≤ k → af_seg sf_64 k = some (-2147483648, 2147483647) := by decide +kernel
theorem sn_27 : ∀ k, k < 33 → 27 ≤ k → af_seg sf_64 k = some (0, 6) := by decide +kernel
theorem sn_33 : ∀ k, k < 45 → 33 ≤ k → af_seg sf_64 k = some (0, 9) := by decide +kernel
theorem sn_45 : ∀ k, k < 51 → 45 ≤ k → af_seg sf_64 k = some (0, 8) := by decide +kernel
theorem sn_51 : ∀ k, k < 99 → 51 ≤ k → af_seg sf_64 k = some (0, 9) := by decide +kernel
theorem sn_99 : ∀ k, k < 105 → 99 ≤ k → af_seg sf_64 k = some (0, 6) := by decide +kernel
theorem sn_105 : ∀ k, k < 115 → 105 ≤ k → af_seg sf_64 k = some (-2147483648, 2147483647) := by decide +kernel
theorem sn_0 : af_seg sf_64 0 = some (0, 10) := by decide +kernel
theorem sn_1 : af_seg sf_64 1 = some (0, 16) := by decide +kernel
theorem sn_2 : af_seg sf_64 2 = some (0, 5) := by decide +kernel
theorem sn_3 : af_seg sf_64 3 = some (0, 6) := by decide +kernel
theorem sn_4 : af_seg sf_64 4 = some (0, 6) := by decide +kernel
theorem sy_sr {S : List (Nat × Int × Int)} {n : Nat} {lo hi : Int} {x : Int32} (h : af_seg S n = some (lo, hi)) (h1 : lo ≤ x.toInt) (h2 : x.toInt ≤ hi) : ∀ q, af_seg S n = some q → q.1 ≤ x.toInt ∧ x.toInt ≤ q.2 := fun q hq => by
  rw [h] at hq
  cases hq
  exact ⟨h1, h2⟩
theorem sy_full {S : List (Nat × Int × Int)} {n : Nat} {x : Int32} (h : af_seg S n = some (-2147483648, 2147483647)) : ∀ q, af_seg S n = some q → q.1 ≤ x.toInt ∧ x.toInt ≤ q.2 := fun q hq => by
  rw [h] at hq
  cases hq
  exact af_i32 _
/-- what a place of the model's row holds -/
theorem sy_r64 {w : pi_W} (hC : af_Conf aw_Sh w) {n : Nat} {lo hi : Int} (h : af_bnd aw_Sh 64 n = some (lo, hi)) : lo ≤ (gv w 64 n).toInt ∧ (gv w 64 n).toInt ≤ hi := sy_b hC (by decide) h
theorem sb_27 : ∀ k, k < 33 → 27 ≤ k → af_bnd aw_Sh 64 k = some (0, 6) := by decide +kernel
theorem sb_99 : ∀ k, k < 105 → 99 ≤ k → af_bnd aw_Sh 64 k = some (0, 6) := by decide +kernel
/-! keywords -/
theorem kw_inj : ∀ j, j < 29 → ∀ k, k < 29 → tq_kw.getD j [] = tq_kw.getD k [] → j = k := by decide +kernel
theorem ls_kx_iff {u : List Nat} {k : Nat} (hk : k < 29) : tq_kw.getD k [] = u ↔ tq_kx u = (k : Int) := by
  have hs := tq_fi_spec (p := fun k => decide (tq_kw.getD k [] = u)) 29 0
  constructor
  · intro h
    rcases hs with ⟨_, q⟩ | ⟨j, h1, h2, h3, h4⟩
    · exact absurd h (of_decide_eq_false (q k (Nat.zero_le _) (by omega)))
    · have e : j = k := kw_inj j (by omega) k hk ((of_decide_eq_true h3).trans h.symm)
      unfold tq_kx
      rw [h4, e]
  · intro h
    unfold tq_kx at h
    rcases hs with ⟨q, _⟩ | ⟨j, h1, h2, h3, h4⟩
    · rw [q] at h
      omega
    · rw [h4] at h
      have e : j = k := by omega
      subst e
      exact of_decide_eq_true h3
theorem ml_isW {d B M k : Nat} {tp : Nat → Nat} {w : pi_W} {t : tq_T} {x : Int64} (h : MT tp B M w t) (hk : k < 29) (hx : x = Int64.ofNat (tq_c256 (tq_kw.getD k []))) : hq_F d sm178 (fun r w' => w' = w ∧ r = some (.int (tq_b (decide (ls_k t = (k : Int)))))) (0, lv_args 0 [.ref 61, .long x], [], w) := by
  refine (mt_isW h x).imp ?_
  rintro r w' ⟨e1, e2⟩
  refine ⟨e1, ?_⟩
  rw [e2]
  congr 3
  rw [decide_eq_decide]
  unfold ls_k
  by_cases h2 : t.1 = 2
  · have hw := h.2.2.2.2.2.2.2 h2
    have hq := tq_kw_ok k hk
    rw [if_pos h2, ← ls_kx_iff hk, h.2.2.2.2.1.2.2.2.1 h2, hx]
    constructor
    · rintro ⟨_, q⟩
      exact (tq_inj256 _ _ _ (Nat.le_refl _) hw.1 hq.1 (tq_of64 (tq_c256_lt7 hw.1 hw.2) (tq_c256_lt7 hq.1 hq.2) q)).symm
    · intro q
      exact ⟨h2, by rw [q]⟩
  · rw [if_neg h2]
    constructor
    · rintro ⟨q, _⟩
      exact absurd q h2
    · intro q
      omega
