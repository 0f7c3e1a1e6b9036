/-! ===== whatever pi_run answers, the machine does ===== -/
def pi_ext (ad ad' : Nat → Nat) (w w' : pi_W) : Prop := w.length ≤ w'.length ∧ (∀ k, k < w.length ∨ k = pi_str → ad' k = ad k) ∧ (w'.length = w.length → ad' = ad)
theorem pi_ext.rf (ad : Nat → Nat) (w : pi_W) : pi_ext ad ad w w := ⟨Nat.le_refl _, fun _ _ => rfl, fun _ => rfl⟩
theorem pi_ext.len {ad : Nat → Nat} {w w' : pi_W} (h : w'.length = w.length) : pi_ext ad ad w w' := ⟨Nat.le_of_eq h.symm, fun _ _ => rfl, fun _ => rfl⟩
theorem pi_ext.tr {ad ad1 ad2 : Nat → Nat} {w w1 w2 : pi_W} (h1 : pi_ext ad ad1 w w1) (h2 : pi_ext ad1 ad2 w1 w2) : pi_ext ad ad2 w w2 := by
  refine ⟨Nat.le_trans h1.1 h2.1, fun k hk => ?_, fun e => ?_⟩
  · rw [h2.2.1 k (hk.imp (fun q => Nat.lt_of_lt_of_le q h1.1) id), h1.2.1 k hk]
  · have a := h1.1
    have b := h2.1
    rw [h2.2.2 (by omega), h1.2.2 (by omega)]
theorem pi_rv_wf {ad ad' : Nat → Nat} {n : Nat} {v : Value} (h : pi_wfV n v = true) (he : ∀ k, k < n ∨ k = pi_str → ad' k = ad k) : pi_rv ad' v = pi_rv ad v := by
  cases v with
  | ref a =>
    have h1 : a < n ∨ a = pi_str := by simpa [pi_wfV] using h
    show Value.ref (ad' a) = Value.ref (ad a)
    rw [he a h1]
  | _ => rfl
theorem pi_rs_wf {ad ad' : Nat → Nat} {n : Nat} {st : List Value} (h : st.all (pi_wfV n) = true) (he : ∀ k, k < n ∨ k = pi_str → ad' k = ad k) : st.map (pi_rv ad') = st.map (pi_rv ad) := by
  refine List.map_congr_left fun v hv => pi_rv_wf (List.all_eq_true.mp h v hv) he
theorem pi_rL_wf {ad ad' : Nat → Nat} {n : Nat} {lv : pi_L} (h : pi_wfL n lv = true) (he : ∀ k, k < n ∨ k = pi_str → ad' k = ad k) : pi_rL ad' lv = pi_rL ad lv := by
  refine List.map_congr_left fun q hq => ?_
  rw [pi_rv_wf (List.all_eq_true.mp h q hq) he]
theorem pi_rW_wf {cA : Nat → ClassId} {ad ad' : Nat → Nat} {w : pi_W} (h : pi_wfW w.length w = true) (he : ∀ k, k < w.length ∨ k = pi_str → ad' k = ad k) : pi_rW cA ad' w = pi_rW cA ad w := by
  apply List.ext_getElem?
  intro j
  rw [pi_rW_get, pi_rW_get]
  cases hj : w[j]? with
  | none => rfl
  | some e =>
    have h1 := List.all_eq_true.mp h e (List.mem_of_getElem? hj)
    have h2 : j < w.length := (List.getElem?_eq_some_iff.mp hj).1
    show some (ad' j, pi_rE cA ad' e) = some (ad j, pi_rE cA ad e)
    rw [he j (Or.inl h2)]
    cases e with
    | inl a => rfl
    | inr a =>
      obtain ⟨ci, fs⟩ := a
      show some (ad j, Sum.inr (ci, fs.map (pi_rv ad'))) = some (ad j, Sum.inr (ci, fs.map (pi_rv ad)))
      rw [pi_rs_wf h1 he]
theorem pi_rW_app (cA : Nat → ClassId) (ad : Nat → Nat) (w : pi_W) (e : pi_E) : pi_rW cA ad (w ++ [e]) = pi_rW cA ad w ++ [(ad w.length, pi_rE cA ad e)] := by
  simp [pi_rW, List.mapIdx_append]
theorem pi_wf_of {lv : pi_L} {st : List Value} {w : pi_W} (h : pi_wf lv st w = true) : w.length < pi_str ∧ pi_wfL w.length lv = true ∧ st.all (pi_wfV w.length) = true ∧ pi_wfW w.length w = true := by
  unfold pi_wf at h
  simp only [Bool.and_eq_true, decide_eq_true_eq] at h
  exact ⟨h.1.1.1, h.1.1.2, h.1.2, h.2⟩
theorem pi_dflt_rv (ad : Nat → Nat) (ci N : Nat) : (pi_dflt ci N).map (pi_rv ad) = pi_dflt ci N := by
  unfold pi_dflt
  rw [List.map_map]
  refine List.map_congr_left fun k _ => ?_
  show pi_rv ad (defaultValue (pi_ty ci k)) = defaultValue (pi_ty ci k)
  cases pi_ty ci k <;> rfl
theorem pi_upd_ext {ad : Nat → Nat} {w : pi_W} {e : pi_E} {q : Nat} (hw : w.length < pi_str) : pi_ext ad (fun j => if j = w.length then q else ad j) w (w ++ [e]) := by
  refine ⟨by simp, fun k hk => ?_, fun h => ?_⟩
  · have : k ≠ w.length := by rcases hk with h | h <;> omega
    simp [this]
  · simp at h
section PIN
variable {p : Program} {l : Launch} {e : Env} {R : Room} {s : State} {m : MethodId} {args : Array Value} {below : List Frame} {meth : Method} {c : Code} {Q : State → Prop} {D : va_G} {cA : Nat → ClassId} {sa sv : Nat} {A : Nat → Prop} {y : MethodName} {cc : ByteArray} {mi : pi_M} {ad : Nat → Nat} {cu su : Nat}
theorem ps_newo (C : pi_Cx p s m args meth c y cc mi D cA sa sv A) {pc : Nat} {lv : pi_L} {r : List Value} {w : pi_W} {n ci q N : Nat} {Cn : String} {T : u_T} (hq : pi_look pi_nT mi.1 n = some (ci, q)) (h1 : vwCl[ci]? = some (Cn, T, N)) (hw : pi_wf lv r w = true) (hcells : cu + 1 ≤ R.cells) (hslots : su + N ≤ R.slots) (hd : decode cc pc = .ok (.new n, 3))
    (k : ∀ ad' : Nat → Nat, pi_ext ad ad' w (w ++ [.inr (ci, pi_dflt ci N)]) → pi_Wat p l e R s m args below meth c Q D cA A mi.2.1 ad' (pc + 3, lv, .ref w.length :: r, w ++ [.inr (ci, pi_dflt ci N)]) (cu + 1) (su + N)) : pi_Wat p l e R s m args below meth c Q D cA A mi.2.1 ad (pc, lv, r, w) cu su := by
  intro H locs ls hP hD hS hl
  obtain ⟨t, ht, hm⟩ := pi_look_mem hq
  obtain ⟨Cn', T', N', h1', h3⟩ := ln_all C.2.2.2.2.2.2.2.2.2.2.1 ht _ hm
  cases h1.symm.trans h1'
  have hc := lc_all h1
  obtain ⟨w0, w1, w2, w3⟩ := pi_wf_of hw
  refine va_new (ci := ci) (fs := pi_dflt ci N) (C := Cn) (T := T) (N := N) C.1 C.2.1 C.2.2.2.1 (fun w hw => pi_good_of (hc.2.1 w hw) (pi_lays_good hw)) (pi_ty ci) hc.2.2.1 C.2.2.1 (C.2.2.2.1 _ (pi_good_of h3 rfl)) (C.2.2.2.1 _ (pi_good_of hc.2.2.2.2.1 rfl)) (C.2.2.2.1 _ (pi_good_of hc.2.2.2.2.2.1 rfl)) C.2.2.2.2.1.1 hP hD hS C.2.2.2.2.2.2.2.2.2.2.2 h1 ?_ hcells hslots hd ?_
  · intro j hj
    simp [vp_V, pi_dflt, hj]
  · intro qn H1 p1 d1 s1
    have he := pi_upd_ext (ad := ad) (e := (.inr (ci, pi_dflt ci N) : pi_E)) (q := qn) w0
    have k := k _ he H1 locs ls
    have e1 : pi_rW cA (fun j => if j = w.length then qn else ad j) (w ++ [.inr (ci, pi_dflt ci N)]) = pi_rW cA ad w ++ [(qn, .inr (ci, pi_dflt ci N))] := by
      rw [pi_rW_app, pi_rW_wf w3 he.2.1]
      show _ ++ [(_, Sum.inr (ci, (pi_dflt ci N).map _))] = _
      rw [pi_dflt_rv]
      simp
    have e2 : (pi_rv (fun j => if j = w.length then qn else ad j) (.ref w.length)) = .ref qn := by simp [pi_rv]
    dsimp only at k
    rw [e1, pi_rL_wf w1 he.2.1, List.map_cons, pi_rs_wf w2 he.2.1, e2] at k
    exact k p1 d1 s1 hl
theorem pi_RA {cA' : ClassId} {t : Nat} {ty : FieldType} (hK : va_K D vwCl (pi_tys cA) s) (ht : (pi_tys cA)[t]? = some (cA t, ty)) (hn : ∀ C, ty ≠ .object C) (h : va_RA s cA' ty) : cA' = cA t := by
  have h2 := (hK.2 t _ ht).2
  cases ty with
  | object C => exact absurd rfl (hn C)
  | _ => exact Option.some.inj (Eq.trans (Eq.symm h) h2)
theorem ps_newa (C : pi_Cx p s m args meth c y cc mi D cA sa sv A) {pc : Nat} {lv : pi_L} {r : List Value} {w : pi_W} {n : Int32} {t : Nat} {at0 : ArrayType} {ty : FieldType} {cn : (Nat → Int32) ⊕ (Nat → Int64) ⊕ (Nat → UInt32) ⊕ (Nat → UInt64) ⊕ (Nat → Option Nat)} (hty : newarray.typeOf at0 = ty) (ht : (pi_tys cA)[t]? = some (cA t, ty)) (hno : ∀ C, ty ≠ .object C) (hword : Cond.arrayClass ty ∈ lw_tbl) (hcb : componentBytes ty ≤ 8) (hcn : ∀ (cA : ClassId) (N : Nat), vp_cell cA (N, cn) = arrV cA N (fun _ => defaultValue ty)) (hn : ¬ (n < 0 ∨ 100000 < n.toNatClampNeg)) (hw : pi_wf lv (.int n :: r) w = true) (hcells : cu + 1 ≤ R.cells) (hslots : su + n.toNatClampNeg ≤ R.slots) (hd : decode cc pc = .ok (.newarray at0, 2))
    (k : ∀ ad' : Nat → Nat, pi_ext ad ad' w (w ++ [.inl (t, n.toNatClampNeg, cn)]) → pi_Wat p l e R s m args below meth c Q D cA A mi.2.1 ad' (pc + 2, lv, .ref w.length :: r, w ++ [.inl (t, n.toNatClampNeg, cn)]) (cu + 1) (su + n.toNatClampNeg)) : pi_Wat p l e R s m args below meth c Q D cA A mi.2.1 ad (pc, lv, .int n :: r, w) cu su := by
  intro H locs ls hP hD hS hl
  obtain ⟨w0, w1, w2, w3⟩ := pi_wf_of hw
  have w2 : r.all (pi_wfV w.length) = true := by
    rw [List.all_cons, Bool.and_eq_true] at w2
    exact w2.2
  have hb : n.toNatClampNeg * componentBytes ty ≤ 536870912 := by
    have h1 : n.toNatClampNeg ≤ 100000 := Nat.not_lt.mp fun q => hn (Or.inr q)
    calc n.toNatClampNeg * componentBytes ty ≤ 100000 * 8 := Nat.mul_le_mul h1 hcb
      _ ≤ 536870912 := by decide
  refine va_newa (a0 := (n.toNatClampNeg, cn)) C.1 C.2.1 (by rw [hty]; exact C.2.2.2.1 _ (pi_good_of hword rfl)) hty C.2.2.2.2.1.1 hP hD hS C.2.2.2.2.2.2.2.2.2.2.2 (fun cA => hcn cA _) (fun q => hn (Or.inl q)) rfl hb hcells hslots hd ?_
  intro qn cA' H1 hK1 p1 d1 s1
  have hcA : cA' = cA t := pi_RA C.2.2.2.2.1.1 ht hno (hK1.2 4 (cA', ty) rfl).2
  subst hcA
  have he := pi_upd_ext (ad := ad) (e := (.inl (t, n.toNatClampNeg, cn) : pi_E)) (q := qn) w0
  have k := k _ he H1 locs ls
  have e1 : pi_rW cA (fun j => if j = w.length then qn else ad j) (w ++ [.inl (t, n.toNatClampNeg, cn)]) = pi_rW cA ad w ++ [(qn, .inl (cA t, n.toNatClampNeg, cn))] := by
    rw [pi_rW_app, pi_rW_wf w3 he.2.1]
    show _ ++ [(_, Sum.inl (cA t, _))] = _
    simp
  have e2 : (pi_rv (fun j => if j = w.length then qn else ad j) (.ref w.length)) = .ref qn := by simp [pi_rv]
  dsimp only at k
  rw [e1, pi_rL_wf w1 he.2.1, List.map_cons, pi_rs_wf w2 he.2.1, e2] at k
  exact k p1 d1 s1 hl
theorem wd_aI : Cond.arrayClass .int ∈ lw_tbl := List.mem_of_getElem? (i := 234) (by decide +kernel)
theorem wd_aB : Cond.arrayClass .byte ∈ lw_tbl := List.mem_of_getElem? (i := 216) (by decide +kernel)
theorem wd_aL : Cond.arrayClass .long ∈ lw_tbl := List.mem_of_getElem? (i := 217) (by decide +kernel)
theorem wd_aZ : Cond.arrayClass .boolean ∈ lw_tbl := List.mem_of_getElem? (i := 1383) (by decide +kernel)
theorem ps_new (C : pi_Cx p s m args meth c y cc mi D cA sa sv A) {i : Instr} {len k : Nat} {σ σ' : pi_S} (h : pi_new mi.1 i len σ = some (σ', k)) (hd : decode cc σ.1 = .ok (i, len)) (hcells : cu + 1 ≤ R.cells) (hslots : su + k ≤ R.slots)
    (kk : ∀ ad' : Nat → Nat, pi_ext ad ad' σ.2.2.2 σ'.2.2.2 → pi_Wat p l e R s m args below meth c Q D cA A mi.2.1 ad' σ' (cu + 1) (su + k)) : pi_Wat p l e R s m args below meth c Q D cA A mi.2.1 ad σ cu su := by
  obtain ⟨pc, lv, st, w⟩ := σ
  dsimp only at hd
  cases i
  case new n =>
    simp only [pi_new] at h
    split at h
    · rename_i hw; obtain ⟨rfl, hw⟩ := hw
      split at h
      · rename_i hq
        split at h
        · rename_i h1
          cases h
          exact ps_newo C hq h1 hw hcells hslots hd kk
        · cases h
      · cases h
    · cases h
  case newarray at0 =>
    simp only [pi_new] at h
    split at h
    · rename_i hw; obtain ⟨rfl, hw⟩ := hw
      split at h
      · split at h
        · cases h
        · rename_i hn
          split at h
          · cases h
            exact ps_newa C (ty := .int) (t := 0) rfl rfl (fun _ h => by cases h) wd_aI (by decide) (fun _ _ => rfl) hn hw hcells hslots hd kk
          · cases h
            exact ps_newa C (ty := .byte) (t := 1) rfl rfl (fun _ h => by cases h) wd_aB (by decide) (fun _ _ => rfl) hn hw hcells hslots hd kk
          · cases h
            exact ps_newa C (ty := .long) (t := 2) rfl rfl (fun _ h => by cases h) wd_aL (by decide) (fun _ _ => rfl) hn hw hcells hslots hd kk
          · cases h
            exact ps_newa C (ty := .boolean) (t := 3) rfl rfl (fun _ h => by cases h) wd_aZ (by decide) (fun _ _ => rfl) hn hw hcells hslots hd kk
          · cases h
      · cases h
    · cases h
  all_goals (exact absurd h (by simp [pi_new]))
end PIN
