/-! ===== the LINES go forward ===== -/
theorem tq_tok_e {tp : Nat → Nat} {B M i : Nat} (h : 2 ≤ (tq_tok tp B M i).1) : i < (tq_tok tp B M i).2.2.2.2 := by
  have hle := (tq_skf_le (tp := tp) (B := B) (B - i) i).1
  have hs : tq_sk tp B i = tq_skf tp B (B - i) i := rfl
  rw [← hs] at hle
  unfold tq_tok at h ⊢
  generalize tq_sk tp B i = s at *
  by_cases h1 : B ≤ s ∨ M ≤ s
  · rw [if_pos h1] at h
    exfalso
    revert h
    by_cases hm : M < B
    · rw [if_pos hm]; intro h; dsimp only at h; omega
    · rw [if_neg hm]; intro h; dsimp only at h; omega
  · rw [if_neg h1] at h ⊢
    by_cases h2 : tq_ld (tp s) = true
    · rw [if_pos h2] at h ⊢
      have hr : tq_rn tp B s = tp s :: tq_rn tp B (s + 1) := tq_rn_go (by omega) h2
      have hl : 1 ≤ (tq_rn tp B s).length := by rw [hr]; simp
      split
      · dsimp only; omega
      · split
        · dsimp only; omega
        · dsimp only; omega
    · rw [if_neg h2] at h ⊢
      dsimp only
      omega
/-- t2 is not before t, if it is a TOKEN -/
def tq_R (t t2 : tq_T) : Prop := 2 ≤ t2.1 → t.2.2.2.2 ≤ t2.2.2.2.2
theorem tq_R.nx {tp : Nat → Nat} {B M : Nat} {t t2 : tq_T} (h : tq_R t t2) (h2 : 2 ≤ t2.1) : tq_R t (tq_nx tp B M t2) := fun q => by
  have h3 := h h2
  have h4 : t2.2.2.2.2 < (tq_nx tp B M t2).2.2.2.2 := tq_tok_e q
  omega
theorem ls_look_2 {s : Nat} {t : tq_T} {NT : List nt_E} {k : Nat} (h : ls_look s t NT = .inr k) : 2 ≤ t.1 := by
  unfold ls_look at h
  split at h
  · cases h
  · rename_i q
    have := of_decide_eq_true (Bool.of_not_eq_false q)
    omega
theorem ls_numb_3 {lo hi : Nat} {t : tq_T} {k : Nat} (h : ls_numb lo hi t = .inr k) : 2 ≤ t.1 := by
  unfold ls_numb at h
  split at h
  · rename_i q
    omega
  · cases h
section RR
variable {tp : Nat → Nat} {B M : Nat} {t0 : tq_T} {σ σ1 : ls_S}
theorem ls_R_new {s : Nat} (h0 : tq_R t0 σ.1) (h : ls_new tp B M s σ = .inr σ1) : tq_R t0 σ1.1 := by
  obtain ⟨n1, -, rfl⟩ := ls_new_inv h
  exact h0.nx (by omega)
theorem ls_R_road (h0 : tq_R t0 σ.1) (h : ls_road tp B M σ = .inr σ1) : tq_R t0 σ1.1 := by
  obtain ⟨a, ha, h⟩ := ls_b_in h
  obtain ⟨b, hb, h⟩ := ls_b_in h
  try dsimp only at h
  split at h
  · cases h
  · cases h
    exact (h0.nx (ls_look_2 ha)).nx (ls_look_2 hb)
theorem ls_R_post (h0 : tq_R t0 σ.1) (h2 : 2 ≤ σ.1.1) (h : ls_post tp B M σ = .inr σ1) : tq_R t0 σ1.1 := by
  obtain ⟨a, ha, h⟩ := ls_b_in h
  obtain ⟨b, hb, h⟩ := ls_b_in h
  try dsimp only at h
  split at h
  · cases h
  · cases h
    exact ((h0.nx h2).nx (ls_look_2 ha)).nx (ls_look_2 hb)
theorem ls_R_clerk (h0 : tq_R t0 σ.1) (h2 : 2 ≤ σ.1.1) (h : ls_clerk tp B M σ = .inr σ1) : tq_R t0 σ1.1 := by
  obtain ⟨a, ha, h⟩ := ls_b_in h
  try dsimp only at h
  split at h
  · cases h
  · obtain ⟨b, hb, h⟩ := ls_b_in h
    split at h
    · cases h
    · cases h
      exact ((h0.nx h2).nx (ls_look_2 ha)).nx (ls_look_2 hb)
theorem ls_R_stop {m n : Nat} (h0 : tq_R t0 σ.1) (h : ls_stop tp B M m n σ = .inr σ1) : tq_R t0 σ1.1 := by
  obtain ⟨a, ha, h⟩ := ls_b_in h
  try dsimp only at h
  split at h
  · cases h
  · cases h
    exact h0.nx (ls_look_2 ha)
theorem ls_R_deed {l : Nat} (h0 : tq_R t0 σ.1) (h : ls_deed tp B M l σ = .inr σ1) : tq_R t0 σ1.1 := by
  obtain ⟨a, ha, h⟩ := ls_b_in h
  try dsimp only at h
  split at h
  · cases h
  · cases h
    exact h0.nx (ls_look_2 ha)
theorem ls_R_rep {l : Nat} (h0 : tq_R t0 σ.1) (h : ls_rep tp B M l σ = .inr σ1) : tq_R t0 σ1.1 := by
  obtain ⟨a, ha, h⟩ := ls_b_in h
  try dsimp only at h
  split at h
  · cases h
  · cases h
    exact h0.nx (ls_look_2 ha)
theorem ls_R_head (h0 : tq_R t0 σ.1) (h : ls_head tp B M σ = .inr σ1) : tq_R t0 σ1.1 := by
  obtain ⟨σ2, ha, h⟩ := ls_b_in h
  obtain ⟨n, hn, h⟩ := ls_b_in h
  cases h
  exact (ls_R_new h0 ha).nx (ls_numb_3 hn)
theorem ls_R_man2 {m : Nat} (h0 : tq_R t0 σ.1) (h : ls_man2 tp B M m σ = .inr σ1) : tq_R t0 σ1.1 := by
  obtain ⟨a, ha, h⟩ := ls_b_in h
  obtain ⟨n, hn, h⟩ := ls_b_in h
  cases h
  exact (h0.nx (ls_look_2 ha)).nx (ls_numb_3 hn)
end RR
theorem ls_R_stops {tp : Nat → Nat} {B M m : Nat} {t0 : tq_T} : ∀ (f n : Nat) {σ σ1 : ls_S}, tq_R t0 σ.1 → ls_stops tp B M m f n σ = .inr σ1 → tq_R t0 σ1.1
  | 0, n, σ, σ1, h0, h => by cases h; exact h0
  | f + 1, n, σ, σ1, h0, h => by
    rw [ls_stops] at h
    split at h
    · cases h
      exact h0
    · obtain ⟨a, ha, h⟩ := ls_b_in h
      exact ls_R_stops f (n + 1) (ls_R_stop h0 ha) h
theorem ls_R_deeds {tp : Nat → Nat} {B M l : Nat} {t0 : tq_T} : ∀ (f : Nat) {σ σ1 : ls_S}, tq_R t0 σ.1 → ls_deeds tp B M l f σ = .inr σ1 → tq_R t0 σ1.1
  | 0, σ, σ1, h0, h => by cases h; exact h0
  | f + 1, σ, σ1, h0, h => by
    rw [ls_deeds] at h
    split at h
    · cases h
      exact h0
    · obtain ⟨a, ha, h⟩ := ls_b_in h
      exact ls_R_deeds f (ls_R_deed h0 ha) h
theorem ls_R_line {tp : Nat → Nat} {B M : Nat} {σ σ1 : ls_S} (h : ls_line tp B M σ = .inr σ1) : 2 ≤ σ.1.1 ∧ tq_R σ.1 σ1.1 := by
  obtain ⟨t, A, nr, NT⟩ := σ
  have hn : ∀ k : Int, k ≠ -1 → (if t.1 = 2 then tq_kx t.2.2.2.1 else -1) = k → 2 ≤ t.1 := fun k hk q => by
    by_cases e : t.1 = 2
    · omega
    · rw [if_neg e] at q
      exact absurd q.symm hk
  have h0 : tq_R t t := fun _ => Nat.le_refl _
  unfold ls_line at h
  dsimp only at h ⊢
  generalize hK : (if t.1 = 2 then tq_kx t.2.2.2.1 else -1) = K at h
  split at h
  · rename_i q
    have h2 := hn 0 (by decide) (hK.trans q)
    obtain ⟨σ2, hm, h⟩ := ls_b_in h
    obtain ⟨hc, rfl⟩ := ls_more_in hm
    exact ⟨h2, ls_R_new (σ := (tq_nx tp B M t, A, nr, NT)) (h0.nx h2) h⟩
  · split at h
    · rename_i q
      have h2 := hn 1 (by decide) (hK.trans q)
      obtain ⟨σ2, hm, h⟩ := ls_b_in h
      obtain ⟨hc, rfl⟩ := ls_more_in hm
      exact ⟨h2, ls_R_road (σ := (tq_nx tp B M t, A, nr, NT)) (h0.nx h2) h⟩
    · split at h
      · rename_i q
        have h2 := hn 2 (by decide) (hK.trans q)
        obtain ⟨σ2, hm, h⟩ := ls_b_in h
        obtain ⟨hc, rfl⟩ := ls_more_in hm
        exact ⟨h2, ls_R_new (σ := (tq_nx tp B M t, A, nr, NT)) (h0.nx h2) h⟩
      · split at h
        · rename_i q
          have h2 := hn 3 (by decide) (hK.trans q)
          obtain ⟨σ2, hm, h⟩ := ls_b_in h
          obtain ⟨hc, rfl⟩ := ls_more_in hm
          obtain ⟨σ3, h3, h⟩ := ls_b_in h
          obtain ⟨σ4, h4, h⟩ := ls_b_in h
          exact ⟨h2, ls_R_deeds 5 (ls_R_deed (ls_R_head (σ := (tq_nx tp B M t, A, nr, NT)) (h0.nx h2) h3) h4) h⟩
        · split at h
          · rename_i q
            have h2 := hn 4 (by decide) (hK.trans q)
            obtain ⟨σ2, hm, h⟩ := ls_b_in h
            obtain ⟨hc, rfl⟩ := ls_more_in hm
            obtain ⟨σ3, h3, h⟩ := ls_b_in h
            exact ⟨h2, ls_R_rep (ls_R_head (σ := (tq_nx tp B M t, A, nr, NT)) (h0.nx h2) h3) h⟩
          · split at h
            · rename_i q
              have h2 := hn 5 (by decide) (hK.trans q)
              obtain ⟨σ2, hm, h⟩ := ls_b_in h
              obtain ⟨hc, rfl⟩ := ls_more_in hm
              obtain ⟨σ3, h3, h⟩ := ls_b_in h
              exact ⟨h2, ls_R_man2 (m := nt_c 4 NT) (ls_R_new (σ := (tq_nx tp B M t, A, nr, NT)) (h0.nx h2) h3) h⟩
            · split at h
              · rename_i q
                have h2 := hn 6 (by decide) (hK.trans q)
                obtain ⟨a, ha, h⟩ := ls_b_in h
                try dsimp only at h
                split at h
                · cases h
                · obtain ⟨b, hb, h⟩ := ls_b_in h
                  exact ⟨h2, ls_R_stops 9 1 (ls_R_stop (σ := (tq_nx tp B M (tq_nx tp B M t), A, nr, NT)) ((h0.nx h2).nx (ls_look_2 ha)) hb) h⟩
              · split at h
                · rename_i q
                  have h2 := hn 7 (by decide) (hK.trans q)
                  exact ⟨h2, ls_R_clerk (σ := (t, A, nr, NT)) h0 h2 h⟩
                · split at h
                  · rename_i q
                    have h2 := hn 8 (by decide) (hK.trans q)
                    exact ⟨h2, ls_R_post (σ := (t, A, nr, NT)) h0 h2 h⟩
                  · cases h
