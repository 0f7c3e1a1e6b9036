/-! ===== locals, slots, cells ===== -/
theorem af_getL_mem : ∀ {L : af_L} {i : Nat} {a : af_V}, af_getL L i = some a → (i, a) ∈ L
  | [], _, _, h => by cases h
  | (j, v) :: L, i, a, h => by
    unfold af_getL at h
    split at h
    · rename_i hj
      have hj : j = i := by simpa using hj
      cases h
      subst hj
      exact List.mem_cons_self
    · exact List.mem_cons_of_mem _ (af_getL_mem h)
theorem pi_get_cons (k j : Nat) (x : Value) (t : pi_L) : pi_get ((k, x) :: t) j = if k = j then some x else pi_get t j := by
  unfold pi_get
  rw [List.find?_cons]
  by_cases h : k = j
  · simp [h]
  · have h2 : (k == j) = false := by simpa using h
    rw [if_neg h]
    simp only [h2]
theorem pi_get_filter {p : Nat × Value → Bool} {j : Nat} {u : Value} (hp : p (j, u) = true) : ∀ {lv : pi_L}, pi_get lv j = some u → pi_get (lv.filter p) j = some u
  | [], h => h
  | (k, x) :: t, h => by
    rw [pi_get_cons] at h
    rw [List.filter_cons]
    by_cases hk : k = j
    · rw [if_pos hk] at h
      cases h
      subst hk
      rw [if_pos hp, pi_get_cons, if_pos rfl]
    · rw [if_neg hk] at h
      have ih := pi_get_filter hp h
      split
      · rw [pi_get_cons, if_neg hk]; exact ih
      · exact ih
theorem pi_get_set (lv : pi_L) (i : Nat) (v : Value) : pi_get (pi_set lv i v) i = some v := by
  unfold pi_set
  rw [pi_get_cons, if_pos rfl]
theorem pi_get_set_ne {lv : pi_L} {i j : Nat} {v u : Value} (h : pi_get lv j = some u) (hj : j ≠ i) (hc : ¬ (j + 1 = i ∧ u.category = 2)) : pi_get (pi_set lv i v) j = some u := by
  unfold pi_set
  rw [pi_get_cons, if_neg (fun e => hj e.symm)]
  refine pi_get_filter ?_ h
  have h1 : (j == i) = false := by simpa using hj
  have h2 : (j + 1 == i && u.category == 2) = false := by
    cases e : (j + 1 == i && u.category == 2) with
    | false => rfl
    | true =>
      rw [Bool.and_eq_true, beq_iff_eq, beq_iff_eq] at e
      exact absurd e hc
  dsimp only
  rw [h1, h2]
  rfl
theorem af_val.cat {n : Nat} {ρ : Nat → Int} {a : af_V} {v : Value} (h : af_val n ρ a v) : v.category = if af_isLong a = true then 2 else 1 := by
  match a, h with
  | .inl f, ⟨_, x, h2, _⟩ => subst h2; rfl
  | .inr (.inl k), h => cases h; rfl
  | .inr (.inr _), ⟨x, h⟩ => subst h; rfl
theorem af_setL_ok {n : Nat} {ρ : Nat → Int} {L : af_L} {lv : pi_L} (h : af_Lo n ρ L lv) (i : Nat) {a : af_V} {v : Value} (hv : af_val n ρ a v) : af_Lo n ρ (af_setL L i a) (pi_set lv i v) := by
  intro e he
  rcases List.mem_cons.mp he with rfl | he
  · exact ⟨v, pi_get_set lv i v, hv⟩
  · obtain ⟨he1, he2⟩ := List.mem_filter.mp he
    obtain ⟨u, hu, hw⟩ := h e he1
    simp only [Bool.and_eq_true, Bool.not_eq_true', beq_eq_false_iff_ne] at he2
    refine ⟨u, pi_get_set_ne hu he2.1 ?_, hw⟩
    rintro ⟨q1, q2⟩
    have hc := hw.cat
    cases hl : af_isLong e.2 with
    | false => rw [hl] at hc; simp at hc; omega
    | true =>
      have h3 := he2.2
      rw [hl] at h3
      simp at h3
      omega
theorem af_getT_mem : ∀ {T : af_T} {c i : Nat} {f : af_F}, af_getT T c i = some f → ((c, i), f) ∈ T
  | [], _, _, _, h => by cases h
  | ((a, j), g) :: T, c, i, f, h => by
    unfold af_getT at h
    split at h
    · rename_i hj
      rw [Bool.and_eq_true, beq_iff_eq, beq_iff_eq] at hj
      obtain ⟨rfl, rfl⟩ := hj
      cases h
      exact List.mem_cons_self
    · exact List.mem_cons_of_mem _ (af_getT_mem h)
theorem af_cov_in {M : af_M} {c a b i : Nat} (h : af_cov M c a b = true) (h1 : a ≤ i) (h2 : i ≤ b) : af_cov M c i i = true := by
  unfold af_cov at h ⊢
  obtain ⟨q, hq, hc⟩ := List.any_eq_true.mp h
  refine List.any_eq_true.mpr ⟨q, hq, ?_⟩
  simp only [Bool.and_eq_true, beq_iff_eq, Nat.ble_eq, Nat.blt_eq] at hc ⊢
  exact ⟨hc.1, by omega, by omega⟩
theorem af_peek_eq {w w' : pi_W} (h1 : ∀ i, i = 3 ∨ i = 4 → af_wloc w' 61 i = af_wloc w 61 i) (h2 : ∀ i, af_wloc w' 62 i = af_wloc w 62 i) : af_peek w' = af_peek w := by
  unfold af_peek
  rw [h1 4 (Or.inr rfl), h1 3 (Or.inl rfl)]
  split
  · rw [h2]
  · rfl
theorem af_Sl.drop {n : Nat} {ρ : Nat → Int} {T : af_T} {w w' : pi_W} {c a b : Nat} (h : af_Sl n ρ T w) (hw : ∀ c' i', ¬ (c' = c ∧ a ≤ i' ∧ i' ≤ b) → af_wloc w' c' i' = af_wloc w c' i') : af_Sl n ρ (af_drop T c a b) w' := by
  intro e he
  obtain ⟨he1, he2⟩ := List.mem_filter.mp he
  obtain ⟨h0, x, h1, h2⟩ := h e he1
  refine ⟨h0, x, ?_, h2⟩
  rw [Bool.and_eq_true, Bool.not_eq_true', Bool.not_eq_true'] at he2
  obtain ⟨p1, p2⟩ := he2
  unfold af_loc at h1 ⊢
  by_cases hv : e.1.1 = af_virt
  · rw [if_pos hv] at h1 ⊢
    have hd : af_dep c a b = false := by
      rw [Bool.and_eq_false_iff, beq_eq_false_iff_ne] at p2
      rcases p2 with p2 | p2
      · exact absurd hv p2
      · exact p2
    unfold af_dep at hd
    rw [Bool.or_eq_false_iff, beq_eq_false_iff_ne] at hd
    obtain ⟨d1, d2⟩ := hd
    have hp : af_peek w' = af_peek w := by
      refine af_peek_eq (fun i hi => hw 61 i ?_) (fun i => hw 62 i (fun q => d1 q.1.symm))
      rintro ⟨q1, q2, q3⟩
      subst q1
      simp only [beq_self_eq_true, Bool.true_and, Bool.and_eq_false_iff] at d2
      rcases d2 with d2 | d2
      · have : ¬ a ≤ 4 := fun q => by rw [Nat.ble_eq_true_of_le q] at d2; cases d2
        omega
      · have : ¬ 3 ≤ b := fun q => by rw [Nat.ble_eq_true_of_le q] at d2; cases d2
        omega
    rw [hp]
    exact h1
  · rw [if_neg hv] at h1 ⊢
    rw [hw]
    · exact h1
    · rintro ⟨q1, q2, q3⟩
      rw [Bool.and_eq_false_iff, Bool.and_eq_false_iff, beq_eq_false_iff_ne] at p1
      rcases p1 with p1 | p1 | p1
      · exact p1 q1
      · rw [Nat.ble_eq_true_of_le q2] at p1; cases p1
      · rw [Nat.ble_eq_true_of_le q3] at p1; cases p1
theorem af_wloc_set {w : pi_W} {a : Nat} {e0 e : pi_E} (h : w[a]? = some e0) (c i : Nat) : af_wloc (w.set a e) c i = if c = a then af_cloc e i else af_wloc w c i := by
  have hl : a < w.length := (List.getElem?_eq_some_iff.mp h).1
  unfold af_wloc
  by_cases hc : c = a
  · subst hc
    rw [if_pos rfl, List.getElem?_set_self hl]
  · rw [if_neg hc, List.getElem?_set_ne (fun q => hc q.symm)]
theorem af_fitS_ok : ∀ {S : List (Nat × Int × Int)} {a b : Nat} {lo hi : Int}, af_fitS S a b lo hi = true → ∀ i, a ≤ i → i ≤ b → ∀ q, af_seg S i = some q → q.1 ≤ lo ∧ hi ≤ q.2
  | [], _, _, _, _, h => by cases h
  | (e, l, hh) :: S, a, b, lo, hi, h => by
    intro i h1 h2 q hq
    unfold af_fitS at h
    unfold af_seg at hq
    split at h
    · rw [if_neg (by omega)] at hq
      exact af_fitS_ok h i h1 h2 q hq
    · simp only [Bool.and_eq_true, decide_eq_true_eq] at h
      split at hq
      · cases hq
        exact ⟨h.1, h.2.1⟩
      · have h3 := h.2.2
        rw [if_neg (by omega)] at h3
        exact af_fitS_ok h3 i (by omega) h2 q hq
theorem af_join_ok : ∀ {S : List (Nat × Int × Int)} {a b : Nat} {lo hi : Int}, af_join S a b = some (lo, hi) → ∀ i, a ≤ i → i ≤ b → ∀ q, af_seg S i = some q → lo ≤ q.1 ∧ q.2 ≤ hi
  | [], _, _, _, _, h => by cases h
  | (e, l, hh) :: S, a, b, lo, hi, h => by
    intro i h1 h2 q hq
    unfold af_join at h
    unfold af_seg at hq
    split at h
    · rw [if_neg (by omega)] at hq
      exact af_join_ok h i h1 h2 q hq
    · split at h
      · cases h
        rw [if_pos (by omega)] at hq
        cases hq
        exact ⟨Int.le_refl _, Int.le_refl _⟩
      · split at h
        · cases h
        · rename_i l2 h2' hj
          cases h
          split at hq
          · cases hq
            constructor
            · try dsimp only
              split <;> omega
            · try dsimp only
              split <;> omega
          · have r := af_join_ok hj i (by omega) h2 q hq
            constructor
            · try dsimp only
              split <;> omega
            · try dsimp only
              split <;> omega
theorem af_shf_ok {Sc S : List (Nat × Int × Int)} {k : Int} : ∀ {c j : Nat}, af_shf Sc S k c j = true → ∀ i, j ≤ i → i < j + c → 0 ≤ (i : Int) + k ∧ ∃ p q, af_seg Sc ((i : Int) + k).toNat = some p ∧ af_seg S i = some q ∧ q.1 ≤ p.1 ∧ p.2 ≤ q.2
  | 0, j, _ => by
    intro i h1 h2
    omega
  | c + 1, j, h => by
    intro i h1 h2
    unfold af_shf at h
    rw [Bool.and_eq_true] at h
    by_cases hi : i = j
    · subst hi
      have h3 := h.1
      split at h3
      · rename_i h0
        refine ⟨h0, ?_⟩
        split at h3
        · cases h3
        · rename_i p hp
          split at h3
          · cases h3
          · rename_i q hq
            simp only [Bool.and_eq_true, decide_eq_true_eq] at h3
            exact ⟨p, q, hp, hq, h3.1, h3.2⟩
      · cases h3
    · exact af_shf_ok h.2 i (by omega) (by omega)
theorem af_idx_ok {n : Nat} {ρ : Nat → Int} {Sh : af_H} {N : af_N} (hK : af_Kn n ρ Sh N) {f : af_F} {m a b : Nat} {i : Int32} (h : af_idx N f m = some (a, b)) (hi : i.toInt = af_ev ρ f) : ¬ (i < 0 ∨ m ≤ i.toNatClampNeg) ∧ a ≤ i.toNatClampNeg ∧ i.toNatClampNeg ≤ b ∧ i.toNatClampNeg < m ∧ (i.toNatClampNeg : Int) = i.toInt := by
  unfold af_idx at h
  split at h
  · rename_i x y hq
    have q := af_iv_ok hK hq
    split at h
    · rename_i hr
      cases h
      have nx : ¬ i < 0 := by rw [Int32.lt_iff_toInt_lt, Int32.toInt_zero]; omega
      obtain ⟨j, hj, rfl⟩ := nI_of nx
      rw [nI_clamp hj]
      rw [nI_toInt hj] at hi ⊢
      refine ⟨?_, by omega, by omega, by omega, rfl⟩
      rintro (h | h)
      · exact nx h
      · omega
    · cases h
  · cases h
