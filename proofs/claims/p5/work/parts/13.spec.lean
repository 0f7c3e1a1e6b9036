/-! ===== calls that are no rows of the table; the ends; the whole ===== -/
section PIX
variable {p : Program} {l : Launch} {e : Env} {R : Room} {s : State} {m : MethodId} {args : Array Value} {below : List Frame} {meth : Method} {c : Code} {Q : State → Prop} {D : va_G} {cA : Nat → ClassId} {sa sv : Nat} {A : Nat → Prop} {y : MethodName} {cc : ByteArray} {mi : pi_M} {ad : Nat → Nat} {cu su : Nat}
theorem ps_len (C : pi_Cx p s m args meth c y cc mi D cA sa sv A) (hsa : ad pi_str = sa) {pc cp : Nat} {lv : pi_L} {r : List Value} {w : pi_W} (hlk : Cond.methodLink y.cls cp ⟨"java/lang/String", "length", "()I"⟩ ∈ lw_tbl) (hr : pi_cats r ≤ 8) (hfr : 3 ≤ R.frames) (hlo : 180 ≤ R.locals) (hcu : cu ≤ R.cells) (hsu : su ≤ R.slots) (hd : decode cc pc = .ok (.invokevirtual cp, 3)) (k : pi_Wat p l e R s m args below meth c Q D cA A mi.2.1 ad (pc + 3, lv, .int (Int32.ofNat pi_bytes.length) :: r, w) cu su) : pi_Wat p l e R s m args below meth c Q D cA A mi.2.1 ad (pc, lv, .ref pi_str :: r, w) cu su := by
  exact qs_len C hsa hlk hr hfr hlo hcu hsu hd k
theorem ps_chr (C : pi_Cx p s m args meth c y cc mi D cA sa sv A) (hsa : ad pi_str = sa) {pc cp : Nat} {lv : pi_L} {r : List Value} {w : pi_W} {i : Int32} (hi : ¬ (i < 0 ∨ pi_bytes.length ≤ i.toNatClampNeg)) (hlk : Cond.methodLink y.cls cp ⟨"java/lang/String", "charAt", "(I)C"⟩ ∈ lw_tbl) (hr : pi_cats r ≤ 8) (hfr : 5 ≤ R.frames) (hlo : 300 ≤ R.locals) (hcu : cu ≤ R.cells) (hsu : su ≤ R.slots) (hd : decode cc pc = .ok (.invokevirtual cp, 3)) (k : pi_Wat p l e R s m args below meth c Q D cA A mi.2.1 ad (pc + 3, lv, .int (pi_bytes.getD i.toNatClampNeg 0) :: r, w) cu su) : pi_Wat p l e R s m args below meth c Q D cA A mi.2.1 ad (pc, lv, .int i :: .ref pi_str :: r, w) cu su := by
  exact qs_chr C hsa hi hlk hr hfr hlo hcu hsu hd k
theorem ps_spec (C : pi_Cx p s m args meth c y cc mi D cA sa sv A) (hsa : ad pi_str = sa) {i : Instr} {cp kind z na q : Nat} {kinds : List Nat} {σ σ' : pi_S} (hi : pi_inv i = some (cp, kinds)) (hlk : pi_look pi_iT mi.1 cp = some (kind, z, na, q)) (hkc0 : kinds.contains kind = true) (h0 : pi_spec kind σ = some σ') (hd : decode cc σ.1 = .ok (i, 3)) (hfr : 1 ≤ R.frames) (hlo : 60 ≤ R.locals) (hst0 : kind = 6 ∨ kind = 7 → 5 ≤ R.frames ∧ 300 ≤ R.locals) (hcu : cu ≤ R.cells) (hsu : su ≤ R.slots) :
    σ'.2.2.2.length = σ.2.2.2.length ∧ (pi_Wat p l e R s m args below meth c Q D cA A mi.2.1 ad σ' cu su → pi_Wat p l e R s m args below meth c Q D cA A mi.2.1 ad σ cu su) := by
  obtain ⟨pc, lv, st, w⟩ := σ
  dsimp only at hd
  obtain ⟨t, ht, hm⟩ := pi_look_mem hlk
  have hoI0 := li_all C.2.2.2.2.2.2.2.2.2.2.1 ht _ hm
  dsimp only at hoI0
  have tb := C.2.2.2.1
  match kind, hoI0, hkc0, hst0, h0 with
  | 4, hoI, hkc, _, h =>
    have hsp : i = .invokespecial cp := by cases i <;> first | (cases hi; first | rfl | (exact absurd hkc (by decide))) | (exact absurd hi (by simp [pi_inv]))
    subst hsp
    simp only [pi_spec] at h
    split at h
    · rename_i a r
      split at h
      · rename_i hr
        cases h
        refine ⟨rfl, fun k H locs ls hP hD hS hl => ?_⟩
        have h2 : 2 * (F0 m pc ls (List.map (pi_rv ad) (Value.ref a :: r))).monitorRoom + ((r.map (pi_rv ad)).map fun v => v.category).sum ≤ 8 := lv_room (by rw [pi_cats_rv]; exact hr)
        exact W.objInit (g := F0 m pc ls (List.map (pi_rv ad) (Value.ref a :: r))) (rest := r.map (pi_rv ad)) C.1 C.2.1 C.2.2.1 (tb _ (pi_good_of hoI rfl)) (tb _ (pi_good_of wd_objI rfl)) (tb _ (pi_good_of wd_objC rfl)) rfl (hl.1.trans C.2.2.2.2.2.1.symm) rfl hd hfr (by omega) (k H locs ls hP hD hS hl)
      · cases h
    · cases h
  | 5, hoI, hkc, _, h =>
    have hsp : i = .invokestatic cp := by cases i <;> first | (cases hi; first | rfl | (exact absurd hkc (by decide))) | (exact absurd hi (by simp [pi_inv]))
    subst hsp
    simp only [pi_spec] at h
    split at h
    · split at h
      · rename_i hr
        split at h
        · rename_i hw0 hw1
          split at h
          · rename_i hb
            cases h
            refine ⟨List.length_set, fun k H locs ls hP hD hS hl => ?_⟩
            exact va_copyi C.1 C.2.1 (C.2.2.2.2.2.1.trans hl.1.symm) C.2.2.1 (tb _ (pi_good_of hoI rfl)) (tb _ (pi_good_of wd_cpN rfl)) (tb _ (pi_good_of wd_cpS rfl)) (tb _ (pi_good_of wd_sysI rfl)) C.2.2.2.2.1.1 hP hD hS _ _ 0 0 (by rw [pi_rW_get, hw0]; rfl) (by rw [pi_rW_get, hw1]; rfl) rfl rfl rfl hr.2.1 hr.2.2.1 hr.2.2.2 hb.1 hb.2 (fun _ _ => rfl) hfr (by rw [pi_cats_rv]; have := hr.1; show _ + (7 + 11) ≤ _; omega) hd (fun H1 locs1 p1 d1 s1 => k H1 locs1 ls (by show va_P _ _ (pi_rW _ _ _) _; rw [pi_rW_set]; exact p1) (by show va_D _ (pi_rW _ _ _); rw [pi_rW_set]; exact d1) s1 hl)
          · cases h
        · rename_i hw0 hw1
          split at h
          · rename_i hb
            cases h
            refine ⟨List.length_set, fun k H locs ls hP hD hS hl => ?_⟩
            exact va_copyl C.1 C.2.1 (C.2.2.2.2.2.1.trans hl.1.symm) C.2.2.1 (tb _ (pi_good_of hoI rfl)) (tb _ (pi_good_of wd_cpN rfl)) (tb _ (pi_good_of wd_cpS rfl)) (tb _ (pi_good_of wd_sysI rfl)) C.2.2.2.2.1.1 hP hD hS _ _ 2 2 (by rw [pi_rW_get, hw0]; rfl) (by rw [pi_rW_get, hw1]; rfl) rfl rfl rfl hr.2.1 hr.2.2.1 hr.2.2.2 hb.1 hb.2 (fun _ _ => rfl) hfr (by rw [pi_cats_rv]; have := hr.1; show _ + (7 + 11) ≤ _; omega) hd (fun H1 locs1 p1 d1 s1 => k H1 locs1 ls (by show va_P _ _ (pi_rW _ _ _) _; rw [pi_rW_set]; exact p1) (by show va_D _ (pi_rW _ _ _); rw [pi_rW_set]; exact d1) s1 hl)
          · cases h
        · cases h
      · cases h
    · cases h
  | 6, hoI, hkc, hst, h =>
    have hsp : i = .invokevirtual cp := by cases i <;> first | (cases hi; first | rfl | (exact absurd hkc (by decide))) | (exact absurd hi (by simp [pi_inv]))
    subst hsp
    simp only [pi_spec] at h
    split at h
    · split at h
      · rename_i hr
        obtain ⟨rfl, hr⟩ := hr
        cases h
        have h5 := hst (Or.inl rfl)
        exact ⟨rfl, ps_len C hsa hoI hr (by omega) (by omega) hcu hsu hd⟩
      · cases h
    · cases h
  | 7, hoI, hkc, hst, h =>
    have hsp : i = .invokevirtual cp := by cases i <;> first | (cases hi; first | rfl | (exact absurd hkc (by decide))) | (exact absurd hi (by simp [pi_inv]))
    subst hsp
    simp only [pi_spec] at h
    split at h
    · split at h
      · rename_i hr
        obtain ⟨rfl, hr, hx⟩ := hr
        cases h
        have h5 := hst (Or.inr rfl)
        exact ⟨rfl, ps_chr C hsa hx hoI hr h5.1 h5.2 hcu hsu hd⟩
      · cases h
    · cases h
  | 8, hoI, hkc, _, h =>
    have hsp : i = .invokestatic cp := by cases i <;> first | (cases hi; first | rfl | (exact absurd hkc (by decide))) | (exact absurd hi (by simp [pi_inv]))
    subst hsp
    simp only [pi_spec] at h
    split at h
    · split at h
      · rename_i hr
        cases h
        refine ⟨rfl, fun k H locs ls hP hD hS hl => ?_⟩
        exact va_mmin C.1 C.2.1 (C.2.2.2.2.2.1.trans hl.1.symm) C.2.2.1 (tb _ (pi_good_of hoI rfl)) (tb _ (pi_good_of wd_minS rfl)) (tb _ (pi_good_of wd_mathI rfl)) (tb _ (pi_good_of wd_minC rfl)) hfr (by rw [pi_cats_rv]; omega) hcu hsu hd (k H locs ls hP hD hS hl)
      · cases h
    · cases h
  | 9, hoI, hkc, _, h =>
    have hsp : i = .invokestatic cp := by cases i <;> first | (cases hi; first | rfl | (exact absurd hkc (by decide))) | (exact absurd hi (by simp [pi_inv]))
    subst hsp
    simp only [pi_spec] at h
    split at h
    · split at h
      · rename_i hr
        cases h
        refine ⟨rfl, fun k H locs ls hP hD hS hl => ?_⟩
        exact va_mmax C.1 C.2.1 (C.2.2.2.2.2.1.trans hl.1.symm) C.2.2.1 (tb _ (pi_good_of hoI rfl)) (tb _ (pi_good_of wd_maxS rfl)) (tb _ (pi_good_of wd_mathI rfl)) (tb _ (pi_good_of wd_maxC rfl)) hfr (by rw [pi_cats_rv]; omega) hcu hsu hd (k H locs ls hP hD hS hl)
      · cases h
    · cases h
  | 0, _, _, _, h => exact absurd h (by simp [pi_spec])
  | 1, _, _, _, h => exact absurd h (by simp [pi_spec])
  | 2, _, _, _, h => exact absurd h (by simp [pi_spec])
  | 3, _, _, _, h => exact absurd h (by simp [pi_spec])
  | n + 10, _, _, _, h => exact absurd h (by simp [pi_spec])
end PIX
