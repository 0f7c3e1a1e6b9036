/-! ===== ReadBoundLaw.man: it calls, it catches ===== -/
def mn_lm : MethodName := ⟨"ReadBoundLaw", "man", "(LReadBound;II[J)I"⟩
def lt_m : List (Nat × Instr × Nat) := [(0, .aload_n 3, 1), (1, .iconst 0, 1), (2, .aload_n 0, 1), (3, .iload_n 1, 1), (4, .iload_n 2, 1), (5, .invokevirtual 7, 3), (8, .i2l, 1), (9, .lastore, 1), (10, .goto 7, 3), (13, .astore 4, 2), (15, .iconst 1, 1), (16, .ireturn, 1), (17, .iconst 0, 1), (18, .ireturn, 1)]
theorem lt_m_d : (lt_m.all fun q => decide (decode method_3_code q.1 = .ok (q.2.1, q.2.2))) = true := by decide +kernel
theorem wl_code : Cond.codeWith mn_lm method_3_code 5 (some .int) [(0, 10, 13, 13)] ∈ lw_tbl := by decide +kernel
theorem wl_st : Cond.static mn_lm ∈ lw_tbl := by decide +kernel
theorem wl_lk : Cond.methodLink "ReadBoundLaw" 42 mn_lm ∈ lw_tbl := by decide +kernel
theorem wl_cl : Cond.classLink "ReadBoundLaw" 13 "java/util/NoSuchElementException" ∈ lw_tbl := by decide +kernel
theorem wl_in : Cond.initialized "ReadBoundLaw" ∈ lw_tbl := by decide +kernel
theorem mm_ofWH {l : Launch} {y : MethodName} {ws ws' : List Cond} {rm : Room} {Pc : Array Value → State → Prop} {Qc : Array Value → State → Outcome → State → Prop} {mc ms : Nat} {free : Addr → Prop} {cc : ByteArray} {maxL : Nat} {ret : Option FieldType} {hh : List (Nat × Nat × Nat × Nat)}
    (hy : plainName y.cls = true) (hw : ws = Cond.codeWith y cc maxL ret hh :: ws')
    (body : ∀ p e s m args below meth c s₁, BodyLoose p l y (headSpec ws rm) cc maxL ret e s m args below meth c s₁ → c.maxLocals = maxL → Pc args s →
      W p l e (headSpec ws rm).room s m args below meth c s.heap [] 0 0 (MQ below Qc args s mc ms free) (entryFrame m args maxL)) : Met l y ws rm Pc Qc mc ms free := by
  refine MetFree.of_bodyS (code := cc) (maxLocals := maxL) (ret := ret) hy ?_ ?_
  · intro args s m h hn
    obtain ⟨m9, meth, c, hn9, h1, h2, h3, h4, -, h5, h6, -⟩ := Cond.codeWith_spec (atoms_spec (ws := ws) h _ (by rw [hw]; exact List.mem_cons_self))
    cases hn.symm.trans hn9
    exact ⟨meth, c, h1, h2, h3, h4, h5, h6⟩
  · intro p e s m args below meth c s₁ B hml hP _
    have hh0 : s₁.heap = s.heap := by rw [B.state]; rfl
    obtain ⟨t, a1, o, b1, b2, b3⟩ := body p e s m args below meth c s₁ B hml hP s₁ hh0 (Stand.of_body B)
    exact ⟨t, o, a1, b1, b2, b3⟩
theorem mm_D {A : Nat → Prop} {ws : va_W} {x : Nat × va_E} (hD : va_D A ws) (hx : A x.1) (hne : ∀ (k : Nat) (q : Nat × va_E), ws[k]? = some q → q.1 ≠ x.1) : va_D A (ws ++ [x]) := by
  have key : ∀ (i : Nat) (p : Nat × va_E), (ws ++ [x])[i]? = some p → ws[i]? = some p ∨ (i = ws.length ∧ p = x) := by
    intro i p h
    rw [List.getElem?_append] at h
    split at h
    · exact Or.inl h
    · rename_i hi
      right
      cases hk : i - ws.length with
      | zero =>
        rw [hk] at h
        exact ⟨by omega, (Option.some.inj h).symm⟩
      | succ n =>
        rw [hk] at h
        simp at h
  refine ⟨fun i j p q hi hj hpq => ?_, fun k q hk => ?_⟩
  · rcases key i p hi with h1 | ⟨h1, h1'⟩ <;> rcases key j q hj with h2 | ⟨h2, h2'⟩
    · exact hD.1 i j p q h1 h2 hpq
    · rw [h2'] at hpq
      exact absurd hpq (hne i p h1)
    · rw [h1'] at hpq
      exact absurd hpq.symm (hne j q h2)
    · omega
  · rcases key k q hk with h | ⟨-, h⟩
    · exact hD.2 k q h
    · rw [h]
      exact hx
def lm_A (cA : Nat → ClassId) (ad : Nat → Nat) (w : pi_W) (sz oq : Nat) : Nat → Prop := fun q => va_A (pi_rW cA ad w) sz q ∨ q = oq
def lm_Pc (D : va_G) (cA : Nat → ClassId) (sa sv : Nat) (ad : Nat → Nat) (w : pi_W) (sz oq : Nat) (a b : Int32) : Array Value → State → Prop := fun args U => args = ([.ref (ad 0), .int a, .int b, .ref oq] : List Value).toArray ∧ U.heap.size = sz ∧ va_P D vwCl (pi_rW cA ad w) U.heap ∧ va_D (lm_A cA ad w sz oq) (pi_rW cA ad w) ∧ pi_K D cA sa sv (lm_A cA ad w sz oq) U ∧ mm_Z (lm_A cA ad w sz oq) U ∧ (∀ k, k < 79 → ad k ≠ oq) ∧ ∃ f : Nat → Int64, U.heap[oq]? = some (vp_cell (cA 2) (1, .inr (.inl f)))
def lm_Qc (D : va_G) (cA : Nat → ClassId) (ad : Nat → Nat) (w : pi_W) (sz oq : Nat) : Array Value → State → Outcome → State → Prop := fun _ st o t => (∃ (v : Int32) (w' : pi_W), o = .returned (some (.int v)) ∧ (lw_I w' ∧ lw_q lw_pr w w') ∧ va_P D vwCl (pi_rW cA ad w') t.heap ∧ va_D (lm_A cA ad w sz oq) (pi_rW cA ad w') ∧ ∃ f : Nat → Int64, t.heap[oq]? = some (vp_cell (cA 2) (1, .inr (.inl f)))) ∧ va_F (lm_A cA ad w sz oq) st t
theorem lm_blind {D : va_G} {cA : Nat → ClassId} {sa sv : Nat} {ad : Nat → Nat} {w : pi_W} {sz oq : Nat} {a b : Int32} : FrameBlind (lm_Pc D cA sa sv ad w sz oq a b) := by
  intro args U g mk h
  obtain ⟨h1, h2, h3, h4, h5, h6, h7, h8⟩ := h
  exact ⟨h1, h2, h3, h4, h5.same rfl rfl, h6.same rfl rfl, h7, h8⟩
theorem lm_len {w : pi_W} (hI : lw_I w) : w.length = 79 := by
  have h1 := hI.1.1
  have h2 : aw_Sh.length = 79 := by decide
  omega
theorem lm_ne {cA : Nat → ClassId} {ad : Nat → Nat} {w : pi_W} {oq : Nat} (hI : lw_I w) (hne : ∀ k, k < 79 → ad k ≠ oq) (k : Nat) (q : Nat × va_E) (h : (pi_rW cA ad w)[k]? = some q) : q.1 ≠ oq := by
  rw [pi_rW_get] at h
  cases hw : w[k]? with
  | none =>
    rw [hw] at h
    cases h
  | some e' =>
    rw [hw] at h
    have h2 : ad k = q.1 := congrArg Prod.fst (Option.some.inj h)
    have hlt := (List.getElem?_eq_some_iff.mp hw).1
    rw [lm_len hI] at hlt
    rw [← h2]
    exact hne k hlt
theorem lm_nA {cA : Nat → ClassId} {ad : Nat → Nat} {w : pi_W} {sz oq : Nat} (hI : lw_I w) (hne : ∀ k, k < 79 → ad k ≠ oq) (hlt : oq < sz) : ¬ va_A (pi_rW cA ad w) sz oq := by
  rintro (⟨k, e, h⟩ | h)
  · exact lm_ne hI hne k _ h rfl
  · omega
set_option maxRecDepth 100000 in
theorem lm_met (l : Launch) (hst : l.stackTraces = false) (D : va_G) (cA : Nat → ClassId) (sa sv : Nat) (ad : Nat → Nat) (sz oq : Nat) (hsa : ad pi_str = sa) {w : pi_W} (hI : lw_I w) (a b : Int32) :
    Met l mn_lm (Cond.codeWith mn_lm method_3_code 5 (some .int) [(0, 10, 13, 13)] :: pi_good) (pi_rm 26 1 6) (lm_Pc D cA sa sv ad w sz oq a b) (lm_Qc D cA ad w sz oq) 1 6 (lm_A cA ad w sz oq) := by
  refine mm_ofWH (cc := method_3_code) (maxL := 5) (ret := some .int) (hh := [(0, 10, 13, 13)]) (by decide) rfl ?_
  intro p e s m args below meth c s₁ B hml hv
  obtain ⟨rfl, hsz, hP, hD, hK, hZ, hne, f, hf⟩ := hv
  have hts := atoms_spec (ws := Cond.codeWith mn_lm method_3_code 5 (some .int) [(0, 10, 13, 13)] :: pi_good) B.pre
  have htg : ∀ w ∈ pi_good, w.before (([.ref (ad 0), .int a, .int b, .ref oq] : List Value)).toArray s = true := fun w hw => hts w (List.mem_cons_of_mem _ hw)
  have htab := vx_table (x := mn_lm) B (hts _ List.mem_cons_self)
  have hown : s.vm.findClass "ReadBoundLaw" = some m.cls := findClass_of_methodNamed B.named
  have hx := B.exec
  have hb := B.bytes
  have hr := B.returns
  have hlk := B.notSynchronized
  have hA : ∀ q, s.heap.size ≤ q → lm_A cA ad w sz oq q := fun q hq => Or.inl (Or.inr (by rw [← hsz]; exact hq))
  have hoq : oq < sz := by
    rw [← hsz]
    exact (Array.getElem?_eq_some_iff.mp hf).1
  have hl := lv_entry ([.ref (ad 0), .int a, .int b, .ref oq]) (n := 5) (Nat.le_of_ble_eq_true rfl)
  rw [lg_entry_eq]
  generalize (lg_sl ([.ref (ad 0), .int a, .int b, .ref oq]) ++ List.replicate (5 - (lg_sl ([.ref (ad 0), .int a, .int b, .ref oq])).length) Slot.unset).toArray = ls at hl ⊢
  have hl : lv_has ls 5 [(0, .ref (ad 0)), (1, .int a), (2, .int b), (3, .ref oq)] := hl
  refine lv_aload_n hx hb (kd_at lt_m_d 0 rfl) rfl (lv_at hl 3 rfl) ?_
  refine lv_iconst (v := 0) hx hb (kd_at lt_m_d 1 rfl) rfl ?_
  refine lv_aload_n hx hb (kd_at lt_m_d 2 rfl) rfl (lv_at hl 0 rfl) ?_
  refine lv_iload_n hx hb (kd_at lt_m_d 3 rfl) rfl (lv_at hl 1 rfl) ?_
  refine lv_iload_n hx hb (kd_at lt_m_d 4 rfl) rfl (lv_at hl 2 rfl) ?_
  have hrun := mm_runV (l := l) (e := e) (R := (headSpec (Cond.codeWith mn_lm method_3_code 5 (some .int) [(0, 10, 13, 13)] :: pi_good) (pi_rm 26 1 6)).room) (below := below) (meth := meth) (cu := 0) (su := 0) (locs := []) (H := s.heap) (pc := 5) (restM := [.int 0, .ref oq]) (ls := ls) (nL := 5) (cc := method_3_code) ⟨hx, hb, hml, hown, htg⟩ hK hZ hA hst hsa hI a b hP hD va_S.rf hl.1 (Nat.le_of_ble_eq_true rfl) (Nat.le_of_ble_eq_true rfl) (Nat.le_refl 1) (Nat.le_refl 6) (Nat.le_of_ble_eq_true rfl) (kd_at lt_m_d 5 rfl)
  rw [hsz] at hrun
  have hq2 : ∀ (w' : pi_W) (t : State), va_D (va_A (pi_rW cA ad w) sz) (pi_rW cA ad w') → va_D (lm_A cA ad w sz oq) (pi_rW cA ad w') := fun w' t h => h.weaken (fun k q _ h => Or.inl h)
  intro T hT X
  rcases hrun T hT X with ⟨v, st₀, t, T', L, h0, X', hL, e1, e2, ⟨⟨v', w', hv, ⟨hI', hq'⟩, hP', hD'⟩, hz, hkk⟩, stp⟩ | ⟨q, st₀, t, T', L, E, ce, h0, X', hL, e1, e2, ⟨hE, ⟨w', ⟨hI', hq'⟩, hP', hD'⟩, hz, hkk⟩, hce, hcv, hcl, stp⟩
  · have hv : v = some (.int v') := Outcome.returned.inj hv
    subst hv
    rw [h0] at hz hkk
    have hS2 : va_S (lm_A cA ad w sz oq) s.heap t.heap ([] ++ L) := ⟨hz, fun q h1 h2 => hkk q h1 (fun z => h2 (Or.inl z)), fun q hq => Or.inl (hL q hq)⟩
    have hfo : t.heap[oq]? = some (vp_cell (cA 2) (1, .inr (.inl f))) := by rw [hkk oq (by omega) (lm_nA hI hne hoq)]; exact hf
    have hPp : va_P D vwCl (pi_rW cA ad w' ++ [(oq, .inl (cA 2, 1, .inr (.inl f)))]) t.heap := hP'.app (fun k q hk => by
      cases k with
      | zero =>
        have e9 : q = (oq, .inl (cA 2, 1, .inr (.inl f))) := (Option.some.inj hk).symm
        subst e9
        exact hfo
      | succ k => simp at hk)
    have hDp : va_D (lm_A cA ad w sz oq) (pi_rW cA ad w' ++ [(oq, .inl (cA 2, 1, .inr (.inl f)))]) := mm_D (hq2 w' t hD') (Or.inr rfl) (lm_ne hI' hne)
    have k : W p l e (headSpec (Cond.codeWith mn_lm method_3_code 5 (some .int) [(0, 10, 13, 13)] :: pi_good) (pi_rm 26 1 6)).room s m (([.ref (ad 0), .int a, .int b, .ref oq] : List Value)).toArray below meth c t.heap ([] ++ L) (0 + 1) (0 + 6) (MQ below (lm_Qc D cA ad w sz oq) (([.ref (ad 0), .int a, .int b, .ref oq] : List Value)).toArray s 1 6 (lm_A cA ad w sz oq)) (F0 m 8 ls [.int v', .int 0, .ref oq]) := by
      refine lv_i2l hx hb (kd_at lt_m_d 6 rfl) rfl ?_
      refine va_last hx hb hK.1 hPp hDp hS2 (n := 1) (f := f) (pi_rW cA ad w').length 2 (by simp) rfl (by unfold vp_in; decide) (kd_at lt_m_d 7 rfl) ?_
      intro H1 locs1 hP1 hD1 hS1
      refine lv_goto (tgt := 17) hx hb (kd_at lt_m_d 8 rfl) rfl ?_
      refine lv_iconst (v := 0) hx hb (kd_at lt_m_d 12 rfl) rfl ?_
      refine W.iret hx hb hr (fun t9 ht hW => ⟨⟨0, w', rfl, ⟨hI', hq'⟩, ?_, hq2 w' t9 hD', vp_updL f (Int32.toNatClampNeg 0) v'.toInt64, ?_⟩, ?_, ?_⟩) (fun q hq => hS1.2.2 q hq) (kd_at lt_m_d 13 rfl) hlk
      · rw [ht]
        intro k q hk
        have hlt := (List.getElem?_eq_some_iff.mp hk).1
        refine hP1 k q ?_
        rw [List.getElem?_set_ne (by omega), List.getElem?_append_left hlt]
        exact hk
      · rw [ht]
        exact hP1 (pi_rW cA ad w').length (oq, .inl (cA 2, 1, .inr (.inl (vp_updL f (Int32.toNatClampNeg 0) v'.toInt64)))) (by simp)
      · rw [ht]
        exact hS1.1
      · rw [ht]
        exact hS1.2.1
    obtain ⟨t2, a1, b1⟩ := k T' e1 X'
    exact ⟨t2, stp t2 a1, b1⟩
  · subst hE
    rw [h0] at hz hkk
    have hS2 : va_S (lm_A cA ad w sz oq) s.heap t.heap ([] ++ L) := ⟨hz, fun q h1 h2 => hkk q h1 (fun z => h2 (Or.inl z)), fun q hq => Or.inl (hL q hq)⟩
    have hfo : t.heap[oq]? = some (vp_cell (cA 2) (1, .inr (.inl f))) := by rw [hkk oq (by omega) (lm_nA hI hne hoq)]; exact hf
    have k : vx_W p l e (headSpec (Cond.codeWith mn_lm method_3_code 5 (some .int) [(0, 10, 13, 13)] :: pi_good) (pi_rm 26 1 6)).room s m (([.ref (ad 0), .int a, .int b, .ref oq] : List Value)).toArray below meth c t.heap ([] ++ L) (0 + 1) (0 + 6) (MQ below (lm_Qc D cA ad w sz oq) (([.ref (ad 0), .int a, .int b, .ref oq] : List Value)).toArray s 1 6 (lm_A cA ad w sz oq)) (F0 m 5 ls [.int 0, .ref oq]) q := by
      refine vx_catch (own := "ReadBoundLaw") (name := "java/util/NoSuchElementException") (E := "java/util/NoSuchElementException") hown [] _ [] (htab.trans rfl) (fun z hz => by cases hz) rfl (by decide) (htg _ (pi_good_of wl_cl rfl)) (mm_cst (mm_Bf _ mm_Bc) (Vm.Alike.refl s.vm) (hZ.2.2 _ mm_Bc)) hce hcv hcl ?_
      refine lv_astore (x := q) (lv' := [(4, .ref q), (0, .ref (ad 0)), (1, .int a), (2, .int b), (3, .ref oq)]) hx hb (kd_at lt_m_d 9 rfl) hl (by decide) rfl (fun ls2 hl2 => ?_)
      refine lv_iconst (v := 1) hx hb (kd_at lt_m_d 10 rfl) rfl ?_
      exact W.iret hx hb hr (fun t9 ht hW => ⟨⟨1, w', rfl, ⟨hI', hq'⟩, by rw [ht]; exact hP', hq2 w' t9 hD', f, by rw [ht]; exact hfo⟩, by rw [ht]; exact hz, by rw [ht]; exact hS2.2.1⟩) (fun q hq => hS2.2.2 q hq) (kd_at lt_m_d 11 rfl) hlk
    obtain ⟨t2, a1, b1⟩ := k T' e1 X'
    exact ⟨t2, stp.trans a1, b1⟩
