/-! ===== what the LINES keep ===== -/
def ls_J (σ : ls_S) : Prop := ls_I σ ∧ ∀ k, 0 ≤ (σ.2.1 8 k).toInt
theorem ls_b_in {α β : Type} {r : (Int × Nat) ⊕ α} {f : α → (Int × Nat) ⊕ β} {y : β} (h : ls_b r f = .inr y) : ∃ a, r = .inr a ∧ f a = .inr y := by
  cases r with
  | inl e => cases h
  | inr a => exact ⟨a, rfl, h⟩
theorem ls_more_in {tp : Nat → Nat} {B M c m : Nat} {σ σ1 : ls_S} (h : ls_more tp B M c m σ = .inr σ1) : c < m ∧ σ1 = (tq_nx tp B M σ.1, σ.2) := by
  unfold ls_more at h
  split at h
  · rename_i q
    cases h
    exact ⟨q, rfl⟩
  · cases h
theorem ls_new_inv {tp : Nat → Nat} {B M s : Nat} {σ σ1 : ls_S} (h : ls_new tp B M s σ = .inr σ1) : (σ.1.1 = 2 ∧ tq_kx σ.1.2.2.2.1 = -1) ∧ nt_t σ.2.2.2 σ.1.2.2.2.1 = false ∧ σ1 = (tq_nx tp B M σ.1, σ.2.1, σ.2.2.1, σ.2.2.2 ++ [(s, nt_c s σ.2.2.2, σ.1.2.2.2.1)]) := by
  unfold ls_new at h
  split at h
  · cases h
  · rename_i q1
    split at h
    · cases h
    · rename_i q2
      cases h
      exact ⟨of_decide_eq_true (Bool.of_not_eq_false q1), Bool.of_not_eq_true q2, rfl⟩
theorem ls_look_lt {s : Nat} {t : tq_T} {NT : List nt_E} {k : Nat} (ho : nt_ok NT) (h : ls_look s t NT = .inr k) : k < nt_c s NT := by
  unfold ls_look at h
  split at h
  · cases h
  · split at h
    · cases h
    · rename_i q
      cases h
      have := nt_f_r (s := s) (u := t.2.2.2.1) ho
      omega
def nt_mx (s : Nat) : Nat := if s = 0 then 10 else if s = 2 then 5 else 6
def nt_cs (NT : List nt_E) : Prop := nt_c 0 NT ≤ 10 ∧ nt_c 2 NT ≤ 5 ∧ nt_c 3 NT ≤ 6 ∧ nt_c 4 NT ≤ 6
theorem nt_new {NT : List nt_E} {s : Nat} {u : List Nat} (hs : s = 0 ∨ s = 2 ∨ s = 3 ∨ s = 4) (hc : nt_cs NT) (hlt : nt_c s NT < nt_mx s) : nt_cs (NT ++ [(s, nt_c s NT, u)]) := by
  obtain ⟨c0, c2, c3, c4⟩ := hc
  unfold nt_cs
  rw [nt_c_app, nt_c_app, nt_c_app, nt_c_app]
  rcases hs with rfl | rfl | rfl | rfl
  · have e : nt_mx 0 = 10 := rfl
    exact ⟨by rw [if_pos rfl]; omega, by rw [if_neg (show ¬ 0 = 2 by decide)]; omega, by rw [if_neg (show ¬ 0 = 3 by decide)]; omega, by rw [if_neg (show ¬ 0 = 4 by decide)]; omega⟩
  · have e : nt_mx 2 = 5 := rfl
    exact ⟨by rw [if_neg (show ¬ 2 = 0 by decide)]; omega, by rw [if_pos rfl]; omega, by rw [if_neg (show ¬ 2 = 3 by decide)]; omega, by rw [if_neg (show ¬ 2 = 4 by decide)]; omega⟩
  · have e : nt_mx 3 = 6 := rfl
    exact ⟨by rw [if_neg (show ¬ 3 = 0 by decide)]; omega, by rw [if_neg (show ¬ 3 = 2 by decide)]; omega, by rw [if_pos rfl]; omega, by rw [if_neg (show ¬ 3 = 4 by decide)]; omega⟩
  · have e : nt_mx 4 = 6 := rfl
    exact ⟨by rw [if_neg (show ¬ 4 = 0 by decide)]; omega, by rw [if_neg (show ¬ 4 = 2 by decide)]; omega, by rw [if_neg (show ¬ 4 = 3 by decide)]; omega, by rw [if_pos rfl]; omega⟩
theorem nt_c_le {s : Nat} {NT : List nt_E} {e : nt_E} : nt_c s NT ≤ nt_c s (NT ++ [e]) := by
  rw [nt_c_app]
  omega
theorem ls_J_new {tp : Nat → Nat} {B M s : Nat} {σ σ1 : ls_S} (hJ : ls_J σ) (hW : tq_W B σ.1) (hs : s = 0 ∨ s = 2 ∨ s = 3 ∨ s = 4) (hlt : nt_c s σ.2.2.2 < nt_mx s) (h : ls_new tp B M s σ = .inr σ1) : ls_J σ1 ∧ σ1.2.2.2 = σ.2.2.2 ++ [(s, nt_c s σ.2.2.2, σ.1.2.2.2.1)] := by
  obtain ⟨n1, f1, rfl⟩ := ls_new_inv h
  obtain ⟨⟨ho, hc, hr, i3, i7⟩, j8⟩ := hJ
  exact ⟨⟨⟨nt_ok_app ho hs (hW.2.2 n1.1) f1, nt_new hs hc hlt, hr, fun k hk => i3 k (Nat.le_trans nt_c_le hk), fun k hk => i7 k (Nat.le_trans nt_c_le hk)⟩, j8⟩, rfl⟩
theorem ls_J_u {t t' : tq_T} {A : ld_A} {nr c k : Nat} {NT : List nt_E} {x : Int32} (h : ls_J (t, A, nr, NT)) (h3 : c = 3 → nt_c 3 NT ≤ k → x = 0) (h7 : c = 7 → nt_c 4 NT ≤ k → x = 0) (h8 : c = 8 → 0 ≤ x.toInt) : ls_J (t', ld_u A c k x, nr, NT) := by
  obtain ⟨⟨ho, hc, hr, i3, i7⟩, j8⟩ := h
  refine ⟨⟨ho, hc, hr, fun k' hk => ?_, fun k' hk => ?_⟩, fun k' => ?_⟩
  · show (if 3 = c ∧ k' = k then x else A 3 k') = 0
    split
    · rename_i q
      exact h3 q.1.symm (q.2 ▸ hk)
    · exact i3 k' hk
  · show (if 7 = c ∧ k' = k then x else A 7 k') = 0
    split
    · rename_i q
      exact h7 q.1.symm (q.2 ▸ hk)
    · exact i7 k' hk
  · show 0 ≤ (if 8 = c ∧ k' = k then x else A 8 k').toInt
    split
    · rename_i q
      exact h8 q.1.symm
    · exact j8 k'
theorem ls_J_nr {t t' : tq_T} {A : ld_A} {nr nr' : Nat} {NT : List nt_E} (h : ls_J (t, A, nr, NT)) (hr : nr' ≤ 16) : ls_J (t', A, nr', NT) := ⟨⟨h.1.1, h.1.2.1, hr, h.1.2.2.2⟩, h.2⟩
theorem ls_J_road {tp : Nat → Nat} {B M : Nat} {σ σ1 : ls_S} (hJ : ls_J σ) (hr : σ.2.2.1 < 16) (h : ls_road tp B M σ = .inr σ1) : ls_J σ1 := by
  obtain ⟨t, A, nr, NT⟩ := σ
  obtain ⟨a, ha, h⟩ := ls_b_in h
  obtain ⟨b, hb, h⟩ := ls_b_in h
  try dsimp only at h
  split at h
  · cases h
  · cases h
    exact ls_J_nr (t := t) (ls_J_u (t := t) (ls_J_u (t := t) hJ (fun q => absurd q (by decide)) (fun q => absurd q (by decide)) (fun q => absurd q (by decide))) (fun q => absurd q (by decide)) (fun q => absurd q (by decide)) (fun q => absurd q (by decide))) hr
theorem ls_J_post {tp : Nat → Nat} {B M : Nat} {σ σ1 : ls_S} (hJ : ls_J σ) (h : ls_post tp B M σ = .inr σ1) : ls_J σ1 := by
  obtain ⟨t, A, nr, NT⟩ := σ
  obtain ⟨a, ha, h⟩ := ls_b_in h
  obtain ⟨b, hb, h⟩ := ls_b_in h
  try dsimp only at h
  split at h
  · cases h
  · cases h
    exact ls_J_u (t := t) hJ (fun q => absurd q (by decide)) (fun q => absurd q (by decide)) (fun q => absurd q (by decide))
theorem ls_J_clerk {tp : Nat → Nat} {B M : Nat} {σ σ1 : ls_S} (hJ : ls_J σ) (h : ls_clerk tp B M σ = .inr σ1) : ls_J σ1 := by
  obtain ⟨t, A, nr, NT⟩ := σ
  obtain ⟨a, ha, h⟩ := ls_b_in h
  have la := ls_look_lt hJ.1.1 ha
  dsimp only at h la
  split at h
  · cases h
  · obtain ⟨b, hb, h⟩ := ls_b_in h
    split at h
    · cases h
    · cases h
      exact ls_J_u (t := t) hJ (fun q => absurd q (by decide)) (fun _ q => by omega) (fun q => absurd q (by decide))
theorem ls_J_stop {tp : Nat → Nat} {B M m n : Nat} {σ σ1 : ls_S} (hJ : ls_J σ) (h : ls_stop tp B M m n σ = .inr σ1) : ls_J σ1 := by
  obtain ⟨t, A, nr, NT⟩ := σ
  obtain ⟨a, ha, h⟩ := ls_b_in h
  try dsimp only at h
  split at h
  · cases h
  · rename_i q8
    cases h
    have e : (Int32.ofNat (n + 1)).toInt = ((n + 1 : Nat) : Int) := hn_t (by omega)
    exact ls_J_u (t := t) (ls_J_u (t := t) hJ (fun q => absurd q (by decide)) (fun q => absurd q (by decide)) (fun q => absurd q (by decide))) (fun q => absurd q (by decide)) (fun q => absurd q (by decide)) (fun _ => by rw [e]; omega)
theorem ls_J_stops {tp : Nat → Nat} {B M m : Nat} : ∀ (f n : Nat) {σ σ1 : ls_S}, ls_J σ → ls_stops tp B M m f n σ = .inr σ1 → ls_J σ1
  | 0, n, σ, σ1, hJ, h => by cases h; exact hJ
  | f + 1, n, σ, σ1, hJ, h => by
    rw [ls_stops] at h
    split at h
    · cases h
      exact hJ
    · obtain ⟨a, ha, h⟩ := ls_b_in h
      exact ls_J_stops f (n + 1) (ls_J_stop hJ ha) h
theorem ls_J_round {tp : Nat → Nat} {B M : Nat} {σ σ1 : ls_S} (hJ : ls_J σ) (h : ls_round tp B M σ = .inr σ1) : ls_J σ1 := by
  obtain ⟨a, ha, h⟩ := ls_b_in h
  try dsimp only at h
  split at h
  · cases h
  · obtain ⟨b, hb, h⟩ := ls_b_in h
    exact ls_J_stops 9 1 (ls_J_stop (σ := (tq_nx tp B M (tq_nx tp B M σ.1), σ.2)) hJ hb) h
theorem ls_J_deed {tp : Nat → Nat} {B M l : Nat} {σ σ1 : ls_S} (hJ : ls_J σ) (hl : l < nt_c 3 σ.2.2.2) (h : ls_deed tp B M l σ = .inr σ1) : ls_J σ1 ∧ σ1.2.2 = σ.2.2 := by
  obtain ⟨t, A, nr, NT⟩ := σ
  obtain ⟨a, ha, h⟩ := ls_b_in h
  dsimp only at h hl
  split at h
  · cases h
  · cases h
    exact ⟨ls_J_u (t := t) hJ (fun _ q => by omega) (fun q => absurd q (by decide)) (fun q => absurd q (by decide)), rfl⟩
theorem ls_J_deeds {tp : Nat → Nat} {B M l : Nat} : ∀ (f : Nat) {σ σ1 : ls_S}, ls_J σ → l < nt_c 3 σ.2.2.2 → ls_deeds tp B M l f σ = .inr σ1 → ls_J σ1
  | 0, σ, σ1, hJ, hl, h => by cases h; exact hJ
  | f + 1, σ, σ1, hJ, hl, h => by
    rw [ls_deeds] at h
    split at h
    · cases h
      exact hJ
    · obtain ⟨a, ha, h⟩ := ls_b_in h
      obtain ⟨j1, e1⟩ := ls_J_deed hJ hl ha
      exact ls_J_deeds f j1 (by rw [e1]; exact hl) h
theorem ls_J_head {tp : Nat → Nat} {B M : Nat} {σ σ1 : ls_S} (hJ : ls_J σ) (hW : tq_W B σ.1) (hlt : nt_c 3 σ.2.2.2 < 6) (h : ls_head tp B M σ = .inr σ1) : ls_J σ1 ∧ nt_c 3 σ1.2.2.2 = nt_c 3 σ.2.2.2 + 1 ∧ σ1.2.1 3 (nt_c 3 σ.2.2.2) = 0 := by
  obtain ⟨⟨t2, A2, nr2, NT2⟩, ha, h⟩ := ls_b_in h
  obtain ⟨j1, e1⟩ := ls_J_new hJ hW (by omega) hlt ha
  obtain ⟨n, hn, h⟩ := ls_b_in h
  cases h
  dsimp only at e1 ⊢
  have hc : nt_c 3 NT2 = nt_c 3 σ.2.2.2 + 1 := by rw [e1, nt_c_app, if_pos rfl]
  refine ⟨?_, hc, if_pos ⟨rfl, rfl⟩⟩
  exact ls_J_u (t := t2) (ls_J_u (t := t2) (ls_J_u (t := t2) j1 (fun q => absurd q (by decide)) (fun q => absurd q (by decide)) (fun q => absurd q (by decide))) (fun q => absurd q (by decide)) (fun q => absurd q (by decide)) (fun q => absurd q (by decide))) (fun _ _ => rfl) (fun q => absurd q (by decide)) (fun q => absurd q (by decide))
theorem ls_J_rep {tp : Nat → Nat} {B M l : Nat} {σ σ1 : ls_S} (hJ : ls_J σ) (h : ls_rep tp B M l σ = .inr σ1) : ls_J σ1 := by
  obtain ⟨t, A, nr, NT⟩ := σ
  obtain ⟨a, ha, h⟩ := ls_b_in h
  try dsimp only at h
  split at h
  · cases h
  · cases h
    exact ls_J_u (t := t) hJ (fun q => absurd q (by decide)) (fun q => absurd q (by decide)) (fun q => absurd q (by decide))
theorem ls_J_man2 {tp : Nat → Nat} {B M m : Nat} {σ σ1 : ls_S} (hJ : ls_J σ) (h : ls_man2 tp B M m σ = .inr σ1) : ls_J σ1 := by
  obtain ⟨t, A, nr, NT⟩ := σ
  obtain ⟨a, ha, h⟩ := ls_b_in h
  obtain ⟨n, hn, h⟩ := ls_b_in h
  cases h
  exact ls_J_u (t := t) (ls_J_u (t := t) (ls_J_u (t := t) hJ (fun q => absurd q (by decide)) (fun q => absurd q (by decide)) (fun q => absurd q (by decide))) (fun q => absurd q (by decide)) (fun q => absurd q (by decide)) (fun q => absurd q (by decide))) (fun q => absurd q (by decide)) (fun _ _ => rfl) (fun q => absurd q (by decide))
theorem ls_J_line {tp : Nat → Nat} {B M : Nat} {σ σ1 : ls_S} (hJ : ls_J σ) (hW : tq_W B σ.1) (h : ls_line tp B M σ = .inr σ1) : ls_J σ1 := by
  obtain ⟨t, A, nr, NT⟩ := σ
  have hn : ∀ k : Int, k ≠ -1 → (if t.1 = 2 then tq_kx t.2.2.2.1 else -1) = k → tq_W B (tq_nx tp B M t) := fun k hk q => by
    by_cases e : t.1 = 2
    · exact tq_tok_W (hW.1 (Nat.le_of_eq e.symm))
    · rw [if_neg e] at q
      exact absurd q.symm hk
  unfold ls_line at h
  dsimp only at h hW
  generalize hK : (if t.1 = 2 then tq_kx t.2.2.2.1 else -1) = K at h
  split at h
  · rename_i q
    obtain ⟨σ2, hm, h⟩ := ls_b_in h
    obtain ⟨hc, rfl⟩ := ls_more_in hm
    exact (ls_J_new (σ := (tq_nx tp B M t, A, nr, NT)) hJ (hn 0 (by decide) (hK.trans q)) (by omega) hc h).1
  · split at h
    · rename_i q
      obtain ⟨σ2, hm, h⟩ := ls_b_in h
      obtain ⟨hc, rfl⟩ := ls_more_in hm
      exact ls_J_road (σ := (tq_nx tp B M t, A, nr, NT)) hJ hc h
    · split at h
      · rename_i q
        obtain ⟨σ2, hm, h⟩ := ls_b_in h
        obtain ⟨hc, rfl⟩ := ls_more_in hm
        exact (ls_J_new (σ := (tq_nx tp B M t, A, nr, NT)) hJ (hn 2 (by decide) (hK.trans q)) (by omega) hc h).1
      · split at h
        · rename_i q
          obtain ⟨σ2, hm, h⟩ := ls_b_in h
          obtain ⟨hc, rfl⟩ := ls_more_in hm
          obtain ⟨σ3, h3, h⟩ := ls_b_in h
          obtain ⟨j3, e3, _⟩ := ls_J_head (σ := (tq_nx tp B M t, A, nr, NT)) hJ (hn 3 (by decide) (hK.trans q)) hc h3
          obtain ⟨σ4, h4, h⟩ := ls_b_in h
          dsimp only at e3 h4 h
          obtain ⟨j4, e4⟩ := ls_J_deed j3 (by omega) h4
          exact ls_J_deeds 5 j4 (by rw [e4]; omega) h
        · split at h
          · rename_i q
            obtain ⟨σ2, hm, h⟩ := ls_b_in h
            obtain ⟨hc, rfl⟩ := ls_more_in hm
            obtain ⟨σ3, h3, h⟩ := ls_b_in h
            obtain ⟨j3, e3, _⟩ := ls_J_head (σ := (tq_nx tp B M t, A, nr, NT)) hJ (hn 4 (by decide) (hK.trans q)) hc h3
            exact ls_J_rep j3 h
          · split at h
            · rename_i q
              obtain ⟨σ2, hm, h⟩ := ls_b_in h
              obtain ⟨hc, rfl⟩ := ls_more_in hm
              obtain ⟨σ3, h3, h⟩ := ls_b_in h
              have j3 := (ls_J_new (σ := (tq_nx tp B M t, A, nr, NT)) hJ (hn 5 (by decide) (hK.trans q)) (by omega) hc h3).1
              exact ls_J_man2 (m := nt_c 4 NT) j3 h
            · split at h
              · exact ls_J_round hJ h
              · split at h
                · exact ls_J_clerk hJ h
                · split at h
                  · exact ls_J_post hJ h
                  · cases h
