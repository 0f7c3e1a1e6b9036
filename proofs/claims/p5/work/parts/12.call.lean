/-! ===== calls ===== -/
theorem wd_objC : Cond.code objectInit ⟨#[0xb1]⟩ 1 none ∈ lw_tbl := List.mem_of_getElem? (i := 111) (by decide +kernel)
theorem wd_objI : Cond.instanceMethod objectInit ∈ lw_tbl := List.mem_of_getElem? (i := 110) (by decide +kernel)
theorem wd_mathI : Cond.initialized "java/lang/Math" ∈ lw_tbl := List.mem_of_getElem? (i := 97) (by decide +kernel)
theorem wd_minS : Cond.static Lib.Math.min.name ∈ lw_tbl := List.mem_of_getElem? (i := 496) (by decide +kernel)
theorem wd_minC : Cond.code Lib.Math.min.name Lib.Math.min.code 2 (some .int) ∈ lw_tbl := List.mem_of_getElem? (i := 497) (by decide +kernel)
theorem wd_maxS : Cond.static Lib.Math.max.name ∈ lw_tbl := List.mem_of_getElem? (i := 654) (by decide +kernel)
theorem wd_maxC : Cond.code Lib.Math.max.name Lib.Math.max.code 2 (some .int) ∈ lw_tbl := List.mem_of_getElem? (i := 655) (by decide +kernel)
theorem wd_sysI : Cond.initialized "java/lang/System" ∈ lw_tbl := List.mem_of_getElem? (i := 98) (by decide +kernel)
theorem wd_cpS : Cond.static arraycopyName ∈ lw_tbl := List.mem_of_getElem? (i := 634) (by decide +kernel)
theorem wd_cpN : Cond.native arraycopyName ∈ lw_tbl := List.mem_of_getElem? (i := 635) (by decide +kernel)
theorem pi_cats_rv (ad : Nat → Nat) (st : List Value) : ((st.map (pi_rv ad)).map fun v => v.category).sum = pi_cats st := by
  unfold pi_cats
  rw [List.map_map]
  congr 1
  exact List.map_congr_left fun v _ => pi_rv_cat ad v
theorem pi_lv_args (ad : Nat → Nat) : ∀ (vs : List Value) (i : Nat), lv_args i (vs.map (pi_rv ad)) = pi_rL ad (lv_args i vs)
  | [], _ => rfl
  | v :: vs, i => by
    show (i, pi_rv ad v) :: lv_args (if (pi_rv ad v).category = 2 then i + 2 else i + 1) (vs.map (pi_rv ad)) = (i, pi_rv ad v) :: pi_rL ad (lv_args (if v.category = 2 then i + 2 else i + 1) vs)
    rw [pi_rv_cat, pi_lv_args ad vs]
theorem pi_lg_sl (ad : Nat → Nat) : ∀ vs : List Value, (lg_sl (vs.map (pi_rv ad))).length = (lg_sl vs).length
  | [] => rfl
  | v :: vs => by
    have ih := pi_lg_sl ad vs
    unfold lg_sl at ih ⊢
    rw [List.map_cons, List.flatMap_cons, List.flatMap_cons, List.length_append, List.length_append, ih, pi_rv_cat]
    congr 1
    split <;> rfl
theorem pi_nest_form : ∀ w ∈ pi_nest, ∃ a i x h, w = .methodLinkNest a i x h := by
  intro w hw
  simp only [pi_nest, List.mem_cons, List.not_mem_nil, or_false] at hw
  rcases hw with rfl | rfl | rfl | rfl | rfl | rfl | rfl | rfl | rfl | rfl | rfl | rfl | rfl | rfl <;> exact ⟨_, _, _, _, rfl⟩
theorem pi_K.call {D : va_G} {cA : Nat → ClassId} {sa sv : Nat} {A A' : Nat → Prop} {s U : State} {H : Heap} {locs : List Loc} (h : pi_K D cA sa sv A s) (hW : s.WarmedH U.vm) (hS : va_S A s.heap H locs) (hU : U.heap = H) (hA : ∀ q, A' q → A q) : pi_K D cA sa sv A' U := by
  obtain ⟨h1, h2, h3, h4, h5, h6⟩ := h
  refine ⟨va_K.moved hW.alike h1, fun w hw => ?_, vk_R.warm hW h3, ?_, ?_, ?_⟩
  · obtain ⟨a, i, x, hh, rfl⟩ := pi_nest_form w hw
    exact va_Nw.warmM hW (h2 _ hw)
  · rw [hU]; exact vk_S.moved hW.alike ((h4.kept hS.2.1).narrow hA)
  · rw [hU]; exact va_Z.moved hW.alike ((h5.kept hS.2.1).narrow hA)
  · rw [hU]; exact va_Zq.moved hW.alike ((h6.kept hS.2.1).narrow hA)
theorem pi_K.same {D : va_G} {cA : Nat → ClassId} {sa sv : Nat} {A : Nat → Prop} {u U : State} (h : pi_K D cA sa sv A u) (hv : u.vm = U.vm) (hh : U.heap = u.heap) : pi_K D cA sa sv A U := by
  obtain ⟨h1, h2, h3, h4, h5, h6⟩ := h
  have ha : u.vm.Alike U.vm := by rw [hv]; exact Vm.Alike.refl U.vm
  refine ⟨va_K.moved ha h1, fun w hw => ?_, vk_R.same hv.symm h3, ?_, ?_, ?_⟩
  · obtain ⟨a, i, x, hh, rfl⟩ := pi_nest_form w hw
    exact va_Nw.same rfl hv (h2 _ hw)
  · rw [hh]; exact vk_S.moved ha h4
  · rw [hh]; exact va_Z.moved ha h5
  · rw [hh]; exact va_Zq.moved ha h6
def pi_Pc (D : va_G) (cA : Nat → ClassId) (sa sv : Nat) (ad : Nat → Nat) (w : pi_W) (sz : Nat) (As : List Value) : Array Value → State → Prop := va_Pc (As.map (pi_rv ad)) (fun U => U.heap.size = sz ∧ va_P D vwCl (pi_rW cA ad w) U.heap ∧ va_D (va_A (pi_rW cA ad w) sz) (pi_rW cA ad w) ∧ pi_K D cA sa sv (va_A (pi_rW cA ad w) sz) U)
def pi_Qc (D : va_G) (cA : Nat → ClassId) (ad : Nat → Nat) (w : pi_W) (sz : Nat) (r : Option Value) (w' : pi_W) : Array Value → State → Outcome → State → Prop := fun _ st o t => (∃ ad', o = .returned (r.map (pi_rv ad')) ∧ pi_ext ad ad' w w' ∧ va_P D vwCl (pi_rW cA ad' w') t.heap ∧ va_D (va_A (pi_rW cA ad w) sz) (pi_rW cA ad' w')) ∧ va_F (va_A (pi_rW cA ad w) sz) st t
theorem pi_Pc.blind {D : va_G} {cA : Nat → ClassId} {sa sv : Nat} {ad : Nat → Nat} {w : pi_W} {sz : Nat} {As : List Value} : FrameBlind (pi_Pc D cA sa sv ad w sz As) := by
  intro a U g mk h
  obtain ⟨h1, h2, h3, h4, h5⟩ := h
  exact ⟨h1, h2, h3, h4, h5.same rfl rfl⟩
def pi_rm (d c u : Nat) : Room := { frames := d + 1, cells := c, slots := u, locals := 60 * (d + 1) }
def pi_Sim (n : Nat) : Prop := ∀ (d : Nat) (y : MethodName) (cc : ByteArray) (mi : pi_M) (na : Nat) (st : Bool), pi_okM (y, cc, mi) na st → ∀ (σ : pi_S) (cu su : Nat) (r : Option Value) (w' : pi_W) (c' u' : Nat), pi_run n d mi σ cu su = some (r, w', c', u') →
  ∀ (p : Program) (l : Launch) (e : Env) (R : Room) (s : State) (m : MethodId) (args : Array Value) (below : List Frame) (meth : Method) (c : Code) (D : va_G) (cA : Nat → ClassId) (sa sv : Nat) (A : Nat → Prop) (Qc : Array Value → State → Outcome → State → Prop) (free : Addr → Prop) (ad : Nat → Nat), pi_Cx p s m args meth c y cc mi D cA sa sv A → d + 1 ≤ R.frames → 60 * (d + 1) ≤ R.locals → c' ≤ R.cells → u' ≤ R.slots → ad pi_str = sa →
    (∀ (ad' : Nat → Nat) (t : State) (locs : List Loc), pi_ext ad ad' σ.2.2.2 w' → va_P D vwCl (pi_rW cA ad' w') t.heap → va_D A (pi_rW cA ad' w') → va_S A s.heap t.heap locs → s.WarmedH t.vm → Qc args s (.returned (r.map (pi_rv ad'))) t) → (∀ q, A q → free q) →
    pi_Wat p l e R s m args below meth c (MQ below Qc args s c' u' free) D cA A mi.2.1 ad σ cu su
theorem pi_ws_good {y : MethodName} {cc : ByteArray} {nL : Nat} {ret : Option FieldType} (h : Cond.code y cc nL ret ∈ lw_tbl) : GoodIn pi_good (Cond.code y cc nL ret :: pi_good) := by
  intro w hw
  rcases List.mem_cons.mp hw with rfl | hw
  · exact ⟨pi_good_of h rfl, good_of_word rfl⟩
  · exact pi_good_all w hw
/-- a method's contract, out of what pi_run answers -/
theorem pi_met {n : Nat} (hS : pi_Sim n) {d : Nat} {y : MethodName} {cc : ByteArray} {mi : pi_M} {na : Nat} {st : Bool} (ho : pi_okM (y, cc, mi) na st) {As : List Value} {w : pi_W} {r : Option Value} {w' : pi_W} {c' u' : Nat} (h : pi_run n d mi (0, lv_args 0 As, [], w) 0 0 = some (r, w', c', u')) (hlen : (lg_sl As).length ≤ mi.2.1)
    (l : Launch) (D : va_G) (cA : Nat → ClassId) (sa sv : Nat) (ad : Nat → Nat) (sz : Nat) (hsa : ad pi_str = sa) :
    Met l y (Cond.code y cc mi.2.1 mi.2.2.1 :: pi_good) (pi_rm d c' u') (pi_Pc D cA sa sv ad w sz As) (pi_Qc D cA ad w sz r w') c' u' (va_A (pi_rW cA ad w) sz) := by
  obtain ⟨own, nL, ret, ini, tab⟩ := mi
  have ho' := ho
  obtain ⟨o1, o2, o3, o4, -, -, -, -, -, -, o11, -⟩ := ho
  refine Met.ofW (cc := cc) (maxL := nL) (ret := ret) o1 rfl ?_
  intro p e s m args below meth c s₁ B hml hv
  obtain ⟨rfl, hsz, hP, hD, hK⟩ := hv
  have hts := atoms_spec (ws := Cond.code y cc nL ret :: pi_good) B.pre
  have hl := lv_entry (As.map (pi_rv ad)) (n := nL) (by rw [pi_lg_sl]; exact hlen)
  rw [lg_entry_eq]
  generalize (lg_sl (As.map (pi_rv ad)) ++ List.replicate (nL - (lg_sl (As.map (pi_rv ad))).length) Slot.unset).toArray = ls at hl ⊢
  rw [pi_lv_args] at hl
  have hC : pi_Cx p s m (As.map (pi_rv ad)).toArray meth c y cc (own, nL, ret, ini, tab) D cA sa sv (va_A (pi_rW cA ad w) sz) :=
    ⟨B.exec, B.bytes, findClass_of_methodNamed B.named, fun w hw => hts w (List.mem_cons_of_mem _ hw), hK, hml, B.returns, B.notSynchronized, (name_of_methodNamed B.named B.method).1, o11, o2, fun q hq => Or.inr (by rw [← hsz]; exact hq)⟩
  exact hS d y cc (own, nL, ret, ini, tab) na st ho' _ 0 0 r w' c' u' h p l e (pi_rm d c' u') s m _ below meth c D cA sa sv _ (pi_Qc D cA ad w sz r w') (va_A (pi_rW cA ad w) sz) ad hC (Nat.le_refl _) (Nat.le_refl _) (Nat.le_refl _) (Nat.le_refl _) hsa (fun ad' t locs h1 h2 h3 h4 h5 => ⟨⟨ad', rfl, h1, h2, h3⟩, h4.1, h4.2.1⟩) (fun q h => h) s.heap [] ls hP hD va_S.rf hl
section PIC
variable {p : Program} {l : Launch} {e : Env} {R : Room} {s : State} {m : MethodId} {args : Array Value} {below : List Frame} {meth : Method} {c : Code} {Q : State → Prop} {D : va_G} {cA : Nat → ClassId} {sa sv : Nat} {A : Nat → Prop} {y : MethodName} {cc : ByteArray} {mi : pi_M} {ad : Nat → Nat} {cu su : Nat}
theorem pi_behind (C : pi_Cx p s m args meth c y cc mi D cA sa sv A) {H : Heap} {locs : List Loc} {ls : Array Slot} {pc : Nat} {lv : pi_L} {st0 rest : List Value} {w w' : pi_W} {r : Option Value} {c' u' : Nat} {aa : Array Value} (hP : va_P D vwCl (pi_rW cA ad w) H) (hD : va_D A (pi_rW cA ad w)) (hS : va_S A s.heap H locs) (hl : lv_has ls mi.2.1 (pi_rL ad lv)) (hk : pi_keep lv rest w w' = true)
    (hr : va_Run p l e R s m args below meth c H locs cu su c' u' (F0 m pc ls st0) (rest.map (pi_rv ad)) (pi_Qc D cA ad w H.size r w' aa) (va_A (pi_rW cA ad w) H.size))
    (k : ∀ ad' : Nat → Nat, pi_ext ad ad' w w' → pi_Wat p l e R s m args below meth c Q D cA A mi.2.1 ad' (pc + 3, lv, r.toList ++ rest, w') (cu + c') (su + u')) : W p l e R s m args below meth c H locs cu su Q (F0 m pc ls st0) := by
  intro T hT X
  obtain ⟨v, st₀, t, T', L, h0, X', hL, e1, e2, ⟨⟨ad', hv, hx, hP', hD'⟩, hz, hkk⟩, stp⟩ := hr T hT X
  have hv : v = r.map (pi_rv ad') := Outcome.returned.inj hv
  subst hv
  rw [h0] at hz hkk
  have hA : ∀ q, va_A (pi_rW cA ad w) H.size q → A q := by
    rintro q (⟨k, e, h⟩ | h)
    · exact hD.2 k _ h
    · exact C.2.2.2.2.2.2.2.2.2.2.2 q (Nat.le_trans hS.1 h)
  have hD2 : va_D A (pi_rW cA ad' w') := hD'.weaken (fun k q _ h => hA _ h)
  have hS2 : va_S A s.heap t.heap (locs ++ L) := ⟨Nat.le_trans hS.1 hz, fun q h1 h2 => by rw [hkk q (Nat.lt_of_lt_of_le h1 hS.1) (fun z => h2 (hA q z))]; exact hS.2.1 q h1 h2, fun q hq => by
    rcases List.mem_append.mp hq with h | h
    · exact hS.2.2 q h
    · exact hA _ (hL q h)⟩
  have e3 : pi_rL ad' lv = pi_rL ad lv ∧ rest.map (pi_rv ad') = rest.map (pi_rv ad) := by
    unfold pi_keep at hk
    rw [Bool.or_eq_true, beq_iff_eq, Bool.and_eq_true] at hk
    rcases hk with hk | hk
    · rw [hx.2.2 hk]; exact ⟨rfl, rfl⟩
    · exact ⟨pi_rL_wf hk.1 hx.2.1, pi_rs_wf hk.2 hx.2.1⟩
  have k2 := k ad' hx t.heap (locs ++ L) ls hP' hD2 hS2 (by show lv_has ls mi.2.1 (pi_rL ad' lv); rw [e3.1]; exact hl)
  have e4 : (r.toList ++ rest).map (pi_rv ad') = (r.map (pi_rv ad')).toList ++ rest.map (pi_rv ad) := by
    rw [List.map_append, e3.2]
    cases r <;> rfl
  dsimp only at k2
  rw [e4] at k2
  obtain ⟨t2, a1, b1⟩ := k2 T' e1 X'
  exact ⟨t2, stp t2 a1, b1⟩
theorem pi_args_of {kind na : Nat} {mz : pi_M} {σ : pi_S} {As rest : List Value} (h : pi_args kind na mz σ = some (As, rest)) : As.length = (if kind < 2 then na else na + 1) ∧ σ.2.2.1 = As.reverse ++ rest ∧ pi_cats rest ≤ 8 ∧ pi_recv kind mz.1 As σ.2.2.2 = true ∧ (lg_sl As).length ≤ mz.2.1 ∧ mz.2.2.2.1 = (kind == 3) ∧ (kind ≠ 3 ∨ mz.2.2.1 = none) ∧ mz.2.1 ≤ 40 := by
  unfold pi_args at h
  dsimp only at h
  generalize (if kind < 2 then na else na + 1) = na' at h ⊢
  split at h
  · rename_i hc
    cases h
    refine ⟨hc.1, ?_, hc.2.1, hc.2.2.1, hc.2.2.2.1, hc.2.2.2.2.1, hc.2.2.2.2.2.1, hc.2.2.2.2.2.2⟩
    rw [List.reverse_reverse, List.take_append_drop]
  · cases h
theorem pi_pre {H : Heap} {locs : List Loc} {w : pi_W} {As : List Value} (C : pi_Cx p s m args meth c y cc mi D cA sa sv A) (hP : va_P D vwCl (pi_rW cA ad w) H) (hD : va_D A (pi_rW cA ad w)) (hS : va_S A s.heap H locs) : ∀ U : State, U.heap = H → s.WarmedH U.vm → pi_Pc D cA sa sv ad w H.size As (As.map (pi_rv ad)).toArray U := by
  intro U hU hW
  refine ⟨rfl, by rw [hU], by rw [hU]; exact hP, ⟨hD.1, fun k q h => Or.inl ⟨k, q.2, h⟩⟩, C.2.2.2.2.1.call hW hS hU ?_⟩
  rintro q (⟨k, e, h⟩ | h)
  · exact hD.2 k _ h
  · exact C.2.2.2.2.2.2.2.2.2.2.2 q (Nat.le_trans hS.1 h)
theorem ps_call {n : Nat} (hSim : pi_Sim n) (C : pi_Cx p s m args meth c y cc mi D cA sa sv A) (hsa : ad pi_str = sa) {i : Instr} {cp kind z na q d' : Nat} {kinds : List Nat} {yz : MethodName} {ccz : ByteArray} {mz : pi_M} {As rest : List Value} {r : Option Value} {w' : pi_W} {c' u' : Nat} {σ : pi_S} (hi : pi_inv i = some (cp, kinds)) (hlk : pi_look pi_iT mi.1 cp = some (kind, z, na, q)) (hkc : kinds.contains kind = true) (hk3 : kind ≤ 3) (hz : pi_mt[z]? = some (yz, ccz, mz)) (ha : pi_args kind na mz σ = some (As, rest)) (hrun : pi_run n d' mz (0, lv_args 0 As, [], σ.2.2.2) 0 0 = some (r, w', c', u')) (hkp : pi_keep σ.2.1 rest σ.2.2.2 w' = true) (hd : decode cc σ.1 = .ok (i, 3))
    (hfr : d' + 2 ≤ R.frames) (hlo : 60 * (d' + 2) ≤ R.locals) (hcells : cu + c' ≤ R.cells) (hslots : su + u' ≤ R.slots)
    (k : ∀ ad' : Nat → Nat, pi_ext ad ad' σ.2.2.2 w' → pi_Wat p l e R s m args below meth c Q D cA A mi.2.1 ad' (σ.1 + 3, σ.2.1, r.toList ++ rest, w') (cu + c') (su + u')) : pi_Wat p l e R s m args below meth c Q D cA A mi.2.1 ad σ cu su := by
  obtain ⟨pc, lv, st, w⟩ := σ
  dsimp only at *
  intro H locs ls hP hD hS hl
  dsimp only at *
  obtain ⟨g1, g2, g3, g4, g5, g6, g7, hmz⟩ := pi_args_of ha
  dsimp only at g2
  subst g2
  obtain ⟨t, ht, hm⟩ := pi_look_mem hlk
  have hoI := li_all C.2.2.2.2.2.2.2.2.2.2.1 ht _ hm
  dsimp only at hoI
  have hyn : pi_yn[z]? = some yz := by rw [← pi_yn_eq, List.getElem?_map, hz]; rfl
  have hfix : CallFix p m c cc mi.2.1 s args pi_good y.cls := ⟨C.1, C.2.1, C.2.2.2.2.2.1, C.2.2.1, C.2.2.2.1⟩
  have hroom : (pi_rm d' c' u').frames + 1 ≤ R.frames ∧ 8 + (mz.2.1 + 11) + (pi_rm d' c' u').locals ≤ R.locals := by
    show d' + 1 + 1 ≤ R.frames ∧ 8 + (mz.2.1 + 11) + 60 * (d' + 1) ≤ R.locals
    constructor <;> omega
  have hcats : 2 * (F0 m pc ls ((As.reverse ++ rest).map (pi_rv ad))).monitorRoom + (((rest.map (pi_rv ad))).map fun v => v.category).sum ≤ 8 := lv_room (by rw [pi_cats_rv]; exact g3)
  refine pi_behind C (aa := (As.map (pi_rv ad)).toArray) hP hD hS hl hkp ?_ k
  match kind, hk3, hoI, hkc, g1, g4, g6, g7 with
  | 0, _, ⟨y0, i1, i2, i3⟩, hkc, g1, _, _, _ =>
    cases hyn.symm.trans i1
    have ho := mo_of hz i2
    have hM := pi_met hSim ho hrun g5 l D cA sa sv ad H.size hsa
    obtain ⟨own, nL, ret, ini, tab⟩ := mz
    obtain ⟨o1, o2, o3, o4, o5, -, -, o8, o9, o10, -, -⟩ := ho
    have hst : i = .invokestatic cp := by cases i <;> first | (cases hi; first | rfl | (exact absurd hkc (by decide))) | (exact absurd hi (by simp [pi_inv]))
    subst hst
    have hCB := callB_of (R := R) (index := cp) (own := y.cls) na C.2.2.2.1 (pi_ws_good o3) rfl rfl rfl (C.2.2.2.1 _ (pi_good_of o4 rfl)) (C.2.2.2.1 _ (pi_good_of i3 rfl)) ⟨o8, o9, o10⟩ hroom
    exact va_runS hfix hM ⟨hCB, C.2.2.2.1 _ (pi_good_of (o5 rfl) rfl)⟩ ⟨pi_Pc.blind, pi_pre C hP hD hS⟩ rfl (by rw [List.length_map]; exact g1) hl.1 (by show List.map _ _ = _; rw [List.map_append, List.map_reverse]) hcats hd ⟨hcells, hslots⟩
  | 1, _, ⟨y0, i1, i2, i3⟩, hkc, g1, _, _, _ =>
    cases hyn.symm.trans i1
    have ho := mo_of hz i2
    have hM := pi_met hSim ho hrun g5 l D cA sa sv ad H.size hsa
    obtain ⟨own, nL, ret, ini, tab⟩ := mz
    obtain ⟨o1, o2, o3, o4, o5, -, -, o8, o9, o10, -, -⟩ := ho
    have hst : i = .invokestatic cp := by cases i <;> first | (cases hi; first | rfl | (exact absurd hkc (by decide))) | (exact absurd hi (by simp [pi_inv]))
    subst hst
    have hCB := va_cnB (R := R) (index := cp) (own := y.cls) na C.2.2.2.1 (pi_ws_good o3) rfl rfl rfl (C.2.2.2.2.1.2.1 _ i3) (C.2.2.2.1 _ (pi_good_of o4 rfl)) ⟨o8, o9, o10⟩ hroom
    exact va_runSN hfix hM ⟨hCB, C.2.2.2.1 _ (pi_good_of (o5 rfl) rfl), trivial⟩ ⟨pi_Pc.blind, pi_pre C hP hD hS⟩ rfl (by rw [List.length_map]; exact g1) hl.1 (by show List.map _ _ = _; rw [List.map_append, List.map_reverse]) hcats hd ⟨hcells, hslots⟩
  | 2, _, ⟨y0, i1, i2, i3⟩, hkc, g1, g4, g6, g7 =>
    cases hyn.symm.trans i1
    have ho := mo_of hz i2
    have hM := pi_met hSim ho hrun g5 l D cA sa sv ad H.size hsa
    obtain ⟨own, nL, ret, ini, tab⟩ := mz
    obtain ⟨o1, o2, o3, o4, -, o6, o7, o8, o9, o10, -, -⟩ := ho
    have hst : i = .invokevirtual cp := by cases i <;> first | (cases hi; first | rfl | (exact absurd hkc (by decide))) | (exact absurd hi (by simp [pi_inv]))
    subst hst
    match As, g4, g1, hM with
    | .ref a :: As, g4, g1, hM =>
      have hw : ∃ fs, w[a]? = some (.inr (own, fs)) := by
        simp only [pi_recv] at g4
        split at g4
        · rename_i c0 fs hw
          have : c0 = own := by simpa using g4
          rw [this] at hw
          exact ⟨fs, hw⟩
        · cases g4
      obtain ⟨fs, hw⟩ := hw
      have he : (pi_rW cA ad w)[a]? = some (ad a, .inr (own, fs.map (pi_rv ad))) := by rw [pi_rW_get, hw]; rfl
      obtain ⟨q9, hq9, -⟩ := hP a _ he
      dsimp only at hq9
      have hCn : q9.1 = yz.cls := by
        have h5 := (lc_all (C := q9.1) (T := q9.2.1) (N := q9.2.2) hq9).1
        rw [o2] at h5
        exact (Option.some.inj h5).symm
      have hrc := va_recv C.2.2.2.2.1.1 hP hq9 he
      rw [hCn] at hrc
      have hCB := callB_of (R := R) (index := cp) (own := y.cls) na C.2.2.2.1 (pi_ws_good o3) rfl rfl rfl (C.2.2.2.1 _ (pi_good_of o4 rfl)) (C.2.2.2.1 _ (pi_good_of i3 rfl)) ⟨o8, o9, o10⟩ hroom
      have hpp := pi_pre (As := .ref a :: As) C hP hD hS
      exact va_runV (C := yz.cls) (b := ad a) (As := As.map (pi_rv ad)) hfix hM ⟨hCB, C.2.2.2.1 _ (pi_good_of (o6 rfl) rfl), C.2.2.2.1 _ (pi_good_of (o7 rfl g6) rfl)⟩ ⟨pi_Pc.blind, hrc, hpp⟩ rfl (by rw [List.length_map]; simpa using g1) hl.1 (by show List.map _ _ = _; simp [pi_rv]) hcats hd ⟨hcells, hslots⟩
  | 3, _, ⟨y0, i1, i2, i3⟩, hkc, g1, g4, g6, g7 =>
    cases hyn.symm.trans i1
    have ho := mo_of hz i2
    have hM := pi_met hSim ho hrun g5 l D cA sa sv ad H.size hsa
    obtain ⟨own, nL, ret, ini, tab⟩ := mz
    obtain ⟨o1, o2, o3, o4, -, o6, o7, o8, o9, o10, o11, -⟩ := ho
    have hst : i = .invokespecial cp := by cases i <;> first | (cases hi; first | rfl | (exact absurd hkc (by decide))) | (exact absurd hi (by simp [pi_inv]))
    subst hst
    match As, g4, g1, hM with
    | .ref a :: As, g4, g1, hM =>
      have hret : ret = none := by
        rcases g7 with h | h
        · exact absurd rfl h
        · exact h
      subst hret
      have hCB := callB_of (R := R) (index := cp) (own := y.cls) na C.2.2.2.1 (pi_ws_good o3) rfl rfl rfl (C.2.2.2.1 _ (pi_good_of o4 rfl)) (C.2.2.2.1 _ (pi_good_of i3 rfl)) ⟨o8, o9, o10⟩ hroom
      have hpp := pi_pre (As := .ref a :: As) C hP hD hS
      exact va_runI (b := ad a) (As := As.map (pi_rv ad)) hfix hM ⟨hCB, o11 g6, C.2.2.2.1 _ (pi_good_of (o6 rfl) rfl)⟩ ⟨pi_Pc.blind, hpp⟩ rfl (by rw [List.length_map]; simpa using g1) hl.1 (by show List.map _ _ = _; simp [pi_rv]) hcats hd ⟨hcells, hslots⟩
end PIC
