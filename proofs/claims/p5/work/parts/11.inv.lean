/-! ===== one turn of pi_run, taken apart ===== -/
theorem pi_fetch_mem {tab : List (Nat × Instr × Nat)} {pc : Nat} {i : Instr} {len : Nat} (h : pi_fetch tab pc = some (i, len)) : (pc, i, len) ∈ tab := by
  unfold pi_fetch at h
  cases hf : tab.find? (fun q => q.1 == pc) with
  | none => rw [hf] at h; cases h
  | some q =>
    rw [hf] at h
    have h0 : q.2 = (i, len) := Option.some.inj h
    have h1 := List.find?_some hf
    have h2 := List.mem_of_find?_eq_some hf
    have h3 : q.1 = pc := by simpa using h1
    rw [← h3, ← h0]
    exact h2
def pi_vEnd (mi : pi_M) (s : pi_S) (cu su : Nat) (i : Instr) (len : Nat) (res : pi_R) : Prop := ∃ r, pi_end mi.2.2.1 i len s = some r ∧ res = (r, s.2.2.2, cu, su)
def pi_vSpec (n d : Nat) (mi : pi_M) (s : pi_S) (cu su : Nat) (i : Instr) (len : Nat) (res : pi_R) : Prop := ∃ cp kinds kind z na q s', pi_inv i = some (cp, kinds) ∧ pi_look pi_iT mi.1 cp = some (kind, z, na, q) ∧ kinds.contains kind = true ∧ len = 3 ∧ 3 < kind ∧ ¬ (d < 5 ∧ (kind = 6 ∨ kind = 7)) ∧ pi_spec kind s = some s' ∧ pi_run n d mi s' cu su = some res
def pi_vCall (n d : Nat) (mi : pi_M) (s : pi_S) (cu su : Nat) (i : Instr) (len : Nat) (res : pi_R) : Prop := ∃ cp kinds kind z na q d' y cc mz As rest r w' c' u', pi_inv i = some (cp, kinds) ∧ pi_look pi_iT mi.1 cp = some (kind, z, na, q) ∧ kinds.contains kind = true ∧ len = 3 ∧ kind ≤ 3 ∧ d = d' + 1 ∧ pi_mt[z]? = some (y, cc, mz) ∧ pi_args kind na mz s = some (As, rest) ∧ pi_run n d' mz (0, lv_args 0 As, [], s.2.2.2) 0 0 = some (r, w', c', u') ∧ pi_keep s.2.1 rest s.2.2.2 w' = true ∧ pi_run n d mi (s.1 + 3, s.2.1, r.toList ++ rest, w') (cu + c') (su + u') = some res
def pi_vNew (n d : Nat) (mi : pi_M) (s : pi_S) (cu su : Nat) (i : Instr) (len : Nat) (res : pi_R) : Prop := ∃ s' k, pi_new mi.1 i len s = some (s', k) ∧ pi_run n d mi s' (cu + 1) (su + k) = some res
def pi_vStep (n d : Nat) (mi : pi_M) (s : pi_S) (cu su : Nat) (i : Instr) (len : Nat) (res : pi_R) : Prop := ∃ s', pi_step mi.1 mi.2.2.2.1 mi.2.1 i len s = some s' ∧ pi_run n d mi s' cu su = some res
theorem pi_run_inv {n d : Nat} {mi : pi_M} {s : pi_S} {cu su : Nat} {res : pi_R} (h : pi_run (n + 1) d mi s cu su = some res) : ∃ i len, pi_fetch mi.2.2.2.2 s.1 = some (i, len) ∧ (pi_vEnd mi s cu su i len res ∨ pi_vSpec n d mi s cu su i len res ∨ pi_vCall n d mi s cu su i len res ∨ pi_vNew n d mi s cu su i len res ∨ pi_vStep n d mi s cu su i len res) := by
  rw [pi_run] at h
  split at h
  · cases h
  · rename_i i len hf
    refine ⟨i, len, hf, ?_⟩
    split at h
    · split at h
      · cases h
      · rename_i r hr
        exact Or.inl ⟨r, hr, (Option.some.inj h).symm⟩
    · split at h
      · rename_i cp kinds hi
        split at h
        · cases h
        · rename_i kind z na q hl
          split at h
          · cases h
          · rename_i hk
            have hk1 : kinds.contains kind = true := by
              cases hc : kinds.contains kind with
              | true => rfl
              | false => exact absurd (Or.inl hc) hk
            have hk2 : len = 3 := by
              rcases Nat.decEq len 3 with hn | hn
              · exact absurd (Or.inr hn) hk
              · exact hn
            split at h
            · rename_i h3
              split at h
              · cases h
              · rename_i h5
                split at h
                · cases h
                · rename_i s' hs
                  exact Or.inr (Or.inl ⟨cp, kinds, kind, z, na, q, s', hi, hl, hk1, hk2, h3, h5, hs, h⟩)
            · rename_i h3
              split at h
              · rename_i d' y cc mz hz
                split at h
                · cases h
                · rename_i As rest ha
                  split at h
                  · cases h
                  · rename_i r w' c' u' hr
                    split at h
                    · rename_i hkp
                      exact Or.inr (Or.inr (Or.inl ⟨cp, kinds, kind, z, na, q, d', y, cc, mz, As, rest, r, w', c', u', hi, hl, hk1, hk2, Nat.not_lt.mp h3, rfl, hz, ha, hr, hkp, h⟩))
                    · cases h
              · cases h
      · split at h
        · split at h
          · cases h
          · rename_i s' k hs
            exact Or.inr (Or.inr (Or.inr (Or.inl ⟨s', k, hs, h⟩)))
        · split at h
          · cases h
          · rename_i s' hs
            exact Or.inr (Or.inr (Or.inr (Or.inr ⟨s', hs, h⟩)))
theorem pi_mono : ∀ (n d : Nat) (mi : pi_M) (s : pi_S) (cu su : Nat) (r : Option Value) (w' : pi_W) (c' u' : Nat), pi_run n d mi s cu su = some (r, w', c', u') → cu ≤ c' ∧ su ≤ u'
  | 0, _, _, _, _, _, _, _, _, _, h => by cases h
  | n + 1, d, mi, s, cu, su, r, w', c', u', h => by
    obtain ⟨i, len, -, h⟩ := pi_run_inv h
    rcases h with ⟨r', -, h⟩ | ⟨_, _, _, _, _, _, s', -, -, -, -, -, -, -, h⟩ | ⟨_, _, _, _, _, _, _, _, _, _, _, _, _, _, c2, u2, -, -, -, -, -, -, -, -, -, -, h⟩ | ⟨s', k, -, h⟩ | ⟨s', -, h⟩
    · cases h
      exact ⟨Nat.le_refl _, Nat.le_refl _⟩
    · exact pi_mono n d mi s' cu su r w' c' u' h
    · have h2 := pi_mono n d mi _ _ _ r w' c' u' h
      omega
    · have h2 := pi_mono n d mi s' _ _ r w' c' u' h
      omega
    · exact pi_mono n d mi s' cu su r w' c' u' h
theorem pi_more_1 {n d : Nat} {mi : pi_M} {s : pi_S} {cu su : Nat} {res : pi_R} (ih : ∀ (d : Nat) (mi : pi_M) (s : pi_S) (cu su : Nat) (res : pi_R), pi_run n d mi s cu su = some res → pi_run (n + 1) d mi s cu su = some res) (h : pi_run (n + 1) d mi s cu su = some res) : pi_run (n + 2) d mi s cu su = some res := by
  rw [pi_run] at h
  split at h
  · cases h
  · rename_i i len hf
    split at h
    · rename_i hE
      rw [pi_run, hf]
      dsimp only
      rw [if_pos hE]
      exact h
    · rename_i hE
      split at h
      · rename_i cp kinds hi
        split at h
        · cases h
        · rename_i kind z na q hl
          split at h
          · cases h
          · rename_i hk
            split at h
            · rename_i h3
              split at h
              · cases h
              · rename_i h5
                split at h
                · cases h
                · rename_i s' hs
                  rw [pi_run, hf]
                  dsimp only
                  rw [if_neg hE, hi]
                  dsimp only
                  rw [hl]
                  dsimp only
                  rw [if_neg hk, if_pos h3, if_neg h5, hs]
                  exact ih _ _ _ _ _ _ h
            · rename_i h3
              split at h
              · rename_i d' y cc mz hz
                split at h
                · cases h
                · rename_i As rest ha
                  split at h
                  · cases h
                  · rename_i r w' c' u' hr
                    split at h
                    · rename_i hkp
                      rw [pi_run, hf]
                      dsimp only
                      rw [if_neg hE, hi]
                      dsimp only
                      rw [hl]
                      dsimp only
                      rw [if_neg hk, if_neg h3, hz]
                      dsimp only
                      rw [ha]
                      dsimp only
                      rw [ih _ _ _ _ _ _ hr]
                      dsimp only
                      rw [if_pos hkp]
                      exact ih _ _ _ _ _ _ h
                    · cases h
              · cases h
      · rename_i hi
        split at h
        · rename_i hN
          split at h
          · cases h
          · rename_i s' k hs
            rw [pi_run, hf]
            dsimp only
            rw [if_neg hE, hi]
            dsimp only
            rw [if_pos hN, hs]
            exact ih _ _ _ _ _ _ h
        · rename_i hN
          split at h
          · cases h
          · rename_i s' hs
            rw [pi_run, hf]
            dsimp only
            rw [if_neg hE, hi]
            dsimp only
            rw [if_neg hN, hs]
            exact ih _ _ _ _ _ _ h
theorem pi_more_s : ∀ (n d : Nat) (mi : pi_M) (s : pi_S) (cu su : Nat) (res : pi_R), pi_run n d mi s cu su = some res → pi_run (n + 1) d mi s cu su = some res
  | 0, _, _, _, _, _, _, h => by cases h
  | n + 1, _, _, _, _, _, _, h => pi_more_1 (pi_more_s n) h
theorem pi_more {n k d : Nat} {mi : pi_M} {s : pi_S} {cu su : Nat} {res : pi_R} (h : pi_run n d mi s cu su = some res) (hk : n ≤ k) : pi_run k d mi s cu su = some res := by
  obtain ⟨j, rfl⟩ := Nat.le.dest hk
  clear hk
  induction j with
  | zero => exact h
  | succ j ih => exact pi_more_s _ _ _ _ _ _ _ ih
