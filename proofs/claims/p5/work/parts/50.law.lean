/-! ===== the law: its context, its calls ===== -/
def lw_Cx (p : Program) (s : State) (m : MethodId) (args : Array Value) (c : Code) (D : va_G) (cA : Nat → ClassId) (sa sv : Nat) (A : Nat → Prop) : Prop := p.tables.exec = Jvm.exec ∧ c.code = code ∧ c.maxLocals = 7 ∧ s.vm.findClass "ReadBoundLaw" = some m.cls ∧ (∀ w ∈ pi_good, w.before args s = true) ∧ pi_K D cA sa sv A s ∧ ∀ q, s.heap.size ≤ q → A q
section LW
variable {p : Program} {l : Launch} {e : Env} {R : Room} {s : State} {m : MethodId} {args : Array Value} {below : List Frame} {meth : Method} {c : Code} {Q : State → Prop} {D : va_G} {cA : Nat → ClassId} {sa sv : Nat} {A : Nat → Prop} {ad : Nat → Nat} {cu su : Nat} {H : Heap} {locs : List Loc} {ls : Array Slot} {pc : Nat}
theorem lw_behind (C : lw_Cx p s m args c D cA sa sv A) {st0 restM : List Value} {w w' : pi_W} {r : Option Value} {c' u' : Nat} {aa : Array Value} (hP : va_P D vwCl (pi_rW cA ad w) H) (hD : va_D A (pi_rW cA ad w)) (hS : va_S A s.heap H locs)
    (hr : va_Run p l e R s m args below meth c H locs cu su c' u' (F0 m pc ls st0) restM (pi_Qc D cA ad w H.size r w' aa) (va_A (pi_rW cA ad w) H.size))
    (k : ∀ (ad' : Nat → Nat) (H1 : Heap) (locs1 : List Loc), pi_ext ad ad' w w' → va_P D vwCl (pi_rW cA ad' w') H1 → va_D A (pi_rW cA ad' w') → va_S A s.heap H1 locs1 → H.size ≤ H1.size → (∀ q : Nat, q < H.size → ¬ va_A (pi_rW cA ad w) H.size q → H1[q]? = H[q]?) → W p l e R s m args below meth c H1 locs1 (cu + c') (su + u') Q (F0 m (pc + 3) ls ((r.map (pi_rv ad')).toList ++ restM))) : W p l e R s m args below meth c H locs cu su Q (F0 m pc ls st0) := by
  intro T hT X
  obtain ⟨v, st₀, t, T', L, h0, X', hL, e1, e2, ⟨⟨ad', hv, hx, hP', hD'⟩, hz, hkk⟩, stp⟩ := hr T hT X
  have hv : v = r.map (pi_rv ad') := Outcome.returned.inj hv
  subst hv
  rw [h0] at hz hkk
  have hA : ∀ q, va_A (pi_rW cA ad w) H.size q → A q := by
    rintro q (⟨k, e, h⟩ | h)
    · exact hD.2 k _ h
    · exact C.2.2.2.2.2.2 q (Nat.le_trans hS.1 h)
  have hD2 : va_D A (pi_rW cA ad' w') := hD'.weaken (fun k q _ h => hA _ h)
  have hS2 : va_S A s.heap t.heap (locs ++ L) := ⟨Nat.le_trans hS.1 hz, fun q h1 h2 => by rw [hkk q (Nat.lt_of_lt_of_le h1 hS.1) (fun z => h2 (hA q z))]; exact hS.2.1 q h1 h2, fun q hq => by
    rcases List.mem_append.mp hq with h | h
    · exact hS.2.2 q h
    · exact hA _ (hL q h)⟩
  obtain ⟨t2, a1, b1⟩ := k ad' t.heap (locs ++ L) hx hP' hD2 hS2 hz hkk T' e1 X'
  exact ⟨t2, stp t2 a1, b1⟩
theorem lw_pre {w : pi_W} {As : List Value} (C : lw_Cx p s m args c D cA sa sv A) (hP : va_P D vwCl (pi_rW cA ad w) H) (hD : va_D A (pi_rW cA ad w)) (hS : va_S A s.heap H locs) : ∀ U : State, U.heap = H → s.WarmedH U.vm → pi_Pc D cA sa sv ad w H.size As (As.map (pi_rv ad)).toArray U := by
  intro U hU hW
  refine ⟨rfl, by rw [hU], by rw [hU]; exact hP, ⟨hD.1, fun k q h => Or.inl ⟨k, q.2, h⟩⟩, C.2.2.2.2.2.1.call hW hS hU ?_⟩
  rintro q (⟨k, e, h⟩ | h)
  · exact hD.2 k _ h
  · exact C.2.2.2.2.2.2 q (Nat.le_trans hS.1 h)
theorem lw_runV (C : lw_Cx p s m args c D cA sa sv A) (hsa : ad pi_str = sa) {w : pi_W} {z na cp : Nat} {yz : MethodName} {ccz : ByteArray} {mz : pi_M} {a : Nat} {fs : List Value} {As : List Value} {r : Option Value} {w' : pi_W} {c' u' n d : Nat} {restM : List Value} (hz : pi_mt[z]? = some (yz, ccz, mz)) (hmk : pi_mk[z]? = some (na, false)) (hlk : Cond.methodLink "ReadBoundLaw" cp yz ∈ lw_tbl) (hini : mz.2.2.2.1 = false) (hw : w[a]? = some (.inr (mz.1, fs))) (hlen : (lg_sl (.ref a :: As)).length ≤ mz.2.1) (h40 : mz.2.1 ≤ 40) (hna : As.length = na) (hrun : pi_run n d mz (0, lv_args 0 (.ref a :: As), [], w) 0 0 = some (r, w', c', u')) (hP : va_P D vwCl (pi_rW cA ad w) H) (hD : va_D A (pi_rW cA ad w)) (hS : va_S A s.heap H locs) (hls : ls.size = 7) (hfr : d + 2 ≤ R.frames) (hlo : 60 * (d + 2) ≤ R.locals) (hcc : cu + c' ≤ R.cells) (huu : su + u' ≤ R.slots) (hcat : (restM.map fun v => v.category).sum ≤ 8) (hd : decode code pc = .ok (.invokevirtual cp, 3)) :
    va_Run p l e R s m args below meth c H locs cu su c' u' (F0 m pc ls ((As.map (pi_rv ad)).reverse ++ .ref (ad a) :: restM)) restM (pi_Qc D cA ad w H.size r w' ((Value.ref a :: As).map (pi_rv ad)).toArray) (va_A (pi_rW cA ad w) H.size) := by
  have ho := mo_of hz hmk
  have hM := pi_met (pi_sim n) ho hrun hlen l D cA sa sv ad H.size hsa
  have hts := C.2.2.2.2.1
  have hfix : CallFix p m c code 7 s args pi_good "ReadBoundLaw" := ⟨C.1, C.2.1, C.2.2.1, C.2.2.2.1, hts⟩
  obtain ⟨own, nL, ret, ini, tab⟩ := mz
  obtain ⟨o1, o2, o3, o4, -, o6, o7, o8, o9, o10, -, -⟩ := ho
  dsimp only at hw hini h40 hlen
  have he : (pi_rW cA ad w)[a]? = some (ad a, .inr (own, fs.map (pi_rv ad))) := by rw [pi_rW_get, hw]; rfl
  obtain ⟨q9, hq9, -⟩ := hP a _ he
  dsimp only at hq9
  have hCn : q9.1 = yz.cls := by
    have h5 := (lc_all (C := q9.1) (T := q9.2.1) (N := q9.2.2) hq9).1
    rw [o2] at h5
    exact (Option.some.inj h5).symm
  have hrc := va_recv C.2.2.2.2.2.1.1 hP hq9 he
  rw [hCn] at hrc
  have hroom : (pi_rm d c' u').frames + 1 ≤ R.frames ∧ 8 + (nL + 11) + (pi_rm d c' u').locals ≤ R.locals := by
    show d + 1 + 1 ≤ R.frames ∧ 8 + (nL + 11) + 60 * (d + 1) ≤ R.locals
    constructor <;> omega
  have hCB := callB_of (R := R) (index := cp) (own := "ReadBoundLaw") na hts (pi_ws_good o3) rfl rfl rfl (hts _ (pi_good_of o4 rfl)) (hts _ (pi_good_of hlk rfl)) ⟨o8, o9, o10⟩ hroom
  have hpp := lw_pre (As := .ref a :: As) C hP hD hS
  exact va_runV (C := yz.cls) (b := ad a) (As := As.map (pi_rv ad)) hfix hM ⟨hCB, hts _ (pi_good_of (o6 rfl) rfl), hts _ (pi_good_of (o7 rfl hini) rfl)⟩ ⟨pi_Pc.blind, hrc, hpp⟩ rfl (by rw [List.length_map]; exact hna) hls rfl (lv_room hcat) hd ⟨hcc, huu⟩
theorem lw_runI (C : lw_Cx p s m args c D cA sa sv A) (hsa : ad pi_str = sa) {w : pi_W} {z na cp : Nat} {yz : MethodName} {ccz : ByteArray} {mz : pi_M} {a : Nat} {As : List Value} {w' : pi_W} {c' u' n d : Nat} {restM : List Value} (hz : pi_mt[z]? = some (yz, ccz, mz)) (hmk : pi_mk[z]? = some (na, false)) (hlk : Cond.methodLink "ReadBoundLaw" cp yz ∈ lw_tbl) (hini : mz.2.2.2.1 = true) (hret : mz.2.2.1 = none) (hlen : (lg_sl (.ref a :: As)).length ≤ mz.2.1) (h40 : mz.2.1 ≤ 40) (hna : As.length = na) (hrun : pi_run n d mz (0, lv_args 0 (.ref a :: As), [], w) 0 0 = some (none, w', c', u')) (hP : va_P D vwCl (pi_rW cA ad w) H) (hD : va_D A (pi_rW cA ad w)) (hS : va_S A s.heap H locs) (hls : ls.size = 7) (hfr : d + 2 ≤ R.frames) (hlo : 60 * (d + 2) ≤ R.locals) (hcc : cu + c' ≤ R.cells) (huu : su + u' ≤ R.slots) (hcat : (restM.map fun v => v.category).sum ≤ 8) (hd : decode code pc = .ok (.invokespecial cp, 3)) :
    va_Run p l e R s m args below meth c H locs cu su c' u' (F0 m pc ls ((As.map (pi_rv ad)).reverse ++ .ref (ad a) :: restM)) restM (pi_Qc D cA ad w H.size none w' ((Value.ref a :: As).map (pi_rv ad)).toArray) (va_A (pi_rW cA ad w) H.size) := by
  have ho := mo_of hz hmk
  have hM := pi_met (pi_sim n) ho hrun hlen l D cA sa sv ad H.size hsa
  have hts := C.2.2.2.2.1
  have hfix : CallFix p m c code 7 s args pi_good "ReadBoundLaw" := ⟨C.1, C.2.1, C.2.2.1, C.2.2.2.1, hts⟩
  obtain ⟨own, nL, ret, ini, tab⟩ := mz
  obtain ⟨o1, o2, o3, o4, -, o6, o7, o8, o9, o10, o11, -⟩ := ho
  dsimp only at hini h40 hlen hret
  subst hret
  have hroom : (pi_rm d c' u').frames + 1 ≤ R.frames ∧ 8 + (nL + 11) + (pi_rm d c' u').locals ≤ R.locals := by
    show d + 1 + 1 ≤ R.frames ∧ 8 + (nL + 11) + 60 * (d + 1) ≤ R.locals
    constructor <;> omega
  have hCB := callB_of (R := R) (index := cp) (own := "ReadBoundLaw") na hts (pi_ws_good o3) rfl rfl rfl (hts _ (pi_good_of o4 rfl)) (hts _ (pi_good_of hlk rfl)) ⟨o8, o9, o10⟩ hroom
  have hpp := lw_pre (As := .ref a :: As) C hP hD hS
  exact va_runI (b := ad a) (As := As.map (pi_rv ad)) hfix hM ⟨hCB, o11 hini, hts _ (pi_good_of (o6 rfl) rfl)⟩ ⟨pi_Pc.blind, hpp⟩ rfl (by rw [List.length_map]; exact hna) hls rfl (lv_room hcat) hd ⟨hcc, huu⟩
/-- a call that makes no cells -/
theorem lw_hq (C : lw_Cx p s m args c D cA sa sv A) (hsa : ad pi_str = sa) {w : pi_W} {z na cp : Nat} {yz : MethodName} {ccz : ByteArray} {mz : pi_M} {a : Nat} {fs : List Value} {As : List Value} {d : Nat} {restM : List Value} {Qz : Option Value → pi_W → Prop} (hz : pi_mt[z]? = some (yz, ccz, mz)) (hmk : pi_mk[z]? = some (na, false)) (hlk : Cond.methodLink "ReadBoundLaw" cp yz ∈ lw_tbl) (hini : mz.2.2.2.1 = false) (hw : w[a]? = some (.inr (mz.1, fs))) (hlen : (lg_sl (.ref a :: As)).length ≤ mz.2.1) (h40 : mz.2.1 ≤ 40) (hna : As.length = na) (hq : hq_F d mz Qz (0, lv_args 0 (.ref a :: As), [], w)) (hwl : ∀ r w', Qz r w' → w'.length = w.length) (hP : va_P D vwCl (pi_rW cA ad w) H) (hD : va_D A (pi_rW cA ad w)) (hS : va_S A s.heap H locs) (hls : ls.size = 7) (hfr : d + 2 ≤ R.frames) (hlo : 60 * (d + 2) ≤ R.locals) (hcc : cu ≤ R.cells) (huu : su ≤ R.slots) (hcat : (restM.map fun v => v.category).sum ≤ 8) (hd : decode code pc = .ok (.invokevirtual cp, 3))
    (k : ∀ (r : Option Value) (w' : pi_W) (H1 : Heap) (locs1 : List Loc), Qz r w' → va_P D vwCl (pi_rW cA ad w') H1 → va_D A (pi_rW cA ad w') → va_S A s.heap H1 locs1 → H.size ≤ H1.size → (∀ q : Nat, q < H.size → ¬ va_A (pi_rW cA ad w) H.size q → H1[q]? = H[q]?) → W p l e R s m args below meth c H1 locs1 cu su Q (F0 m (pc + 3) ls ((r.map (pi_rv ad)).toList ++ restM))) :
    W p l e R s m args below meth c H locs cu su Q (F0 m pc ls ((As.map (pi_rv ad)).reverse ++ .ref (ad a) :: restM)) := by
  obtain ⟨n, r, w', hrun, hQ⟩ := hq
  refine lw_behind C hP hD hS (lw_runV C hsa hz hmk hlk hini hw hlen h40 hna hrun hP hD hS hls hfr hlo hcc huu hcat hd) ?_
  intro ad' H1 locs1 hx hP1 hD1 hS1 hz1 hk1
  have e := hx.2.2 (hwl r w' hQ)
  subst e
  exact k r w' H1 locs1 hQ hP1 hD1 hS1 hz1 hk1
end LW
/-! the state between calls -/
def sJ (w : pi_W) (cell off : Nat) : Prop := ∃ a b : Int32, af_wloc w cell off = some (.int a) ∧ af_wloc w cell (off + 4) = some (.int b) ∧ (b.toInt = 0 ∨ 1 ≤ a.toInt)
theorem sJ.fr {w w' : pi_W} {cell cell' off off' : Nat} (h : sJ w cell off) (h0 : af_wloc w' cell' off' = af_wloc w cell off) (h4 : af_wloc w' cell' (off' + 4) = af_wloc w cell (off + 4)) : sJ w' cell' off' := by
  obtain ⟨a, b, h1, h2, h3⟩ := h
  exact ⟨a, b, h0.trans h1, h4.trans h2, h3⟩
theorem sv.cp {w w' : pi_W} {cell cell' off off' : Nat} (h : sv w cell off) (hF : ∀ i, 230 ≤ i → i < 411 → af_wloc w' cell' (off' + i) = af_wloc w cell (off + i)) : sv w' cell' off' := by
  obtain ⟨n, f, h1, h2, h3, h4⟩ := h
  refine ⟨n, f, h1, (hF 230 (by omega) (by omega)).trans h2, fun j hj => ?_, h4⟩
  have e := hF (231 + j) (by omega) (by omega)
  rw [← Nat.add_assoc, ← Nat.add_assoc] at e
  exact e.trans (h3 j hj)
def lw_I (w : pi_W) : Prop := af_Conf aw_Sh w ∧ (sv w 63 0 ∧ sv w 76 0 ∧ sv w 76 411) ∧ (sJ w 63 0 ∧ sJ w 76 0 ∧ sJ w 76 411)
theorem lw_I.keep {w w' : pi_W} (h : lw_I w) (hC : af_Conf aw_Sh w') (h63 : ∀ i, i = 0 ∨ i = 4 ∨ 230 ≤ i → af_wloc w' 63 i = af_wloc w 63 i) (h76 : ∀ i, af_wloc w' 76 i = af_wloc w 76 i) : lw_I w' := by
  obtain ⟨-, ⟨v1, v2, v3⟩, j1, j2, j3⟩ := h
  exact ⟨hC, ⟨v1.fr (fun i h _ => h63 i (by omega)), v2.fr (fun i _ _ => h76 i), v3.fr (fun i _ _ => h76 i)⟩, j1.fr (h63 0 (by omega)) (h63 4 (by omega)), j2.fr (h76 _) (h76 _), j3.fr (h76 _) (h76 _)⟩
def lw_mok (M : af_M) : Bool := M.all (fun q => (q.1 != 76) && ((q.1 != 63) || (decide (5 ≤ q.2.1) && decide (q.2.2 ≤ 230))))
theorem lw_I.fr {w w' : pi_W} {M : af_M} (h : lw_I w) (hC : af_Conf aw_Sh w') (hF : af_Fr M w w') (hM : lw_mok M = true) : lw_I w' := by
  have hm : ∀ q ∈ M, q.1 ≠ 76 ∧ (q.1 ≠ 63 ∨ (5 ≤ q.2.1 ∧ q.2.2 ≤ 230)) := by
    intro q hq
    have := List.all_eq_true.mp hM q hq
    simpa using this
  refine h.keep hC (fun i hi => hF 63 i ?_) (fun i => hF 76 i ?_)
  · cases hk : af_cov M 63 i i with
    | false => rfl
    | true =>
      obtain ⟨q, hq, h1⟩ := List.any_eq_true.mp hk
      simp only [Bool.and_eq_true, beq_iff_eq, Nat.ble_eq, Nat.blt_eq] at h1
      have := hm q hq
      omega
  · cases hk : af_cov M 76 i i with
    | false => rfl
    | true =>
      obtain ⟨q, hq, h1⟩ := List.any_eq_true.mp hk
      simp only [Bool.and_eq_true, beq_iff_eq, Nat.ble_eq, Nat.blt_eq] at h1
      have := hm q hq
      omega
theorem hq_F.and {d : Nat} {mi : pi_M} {Q Q' : Option Value → pi_W → Prop} {s : pi_S} (h : hq_F d mi Q s) (h' : hq_F d mi Q' s) : hq_F d mi (fun r w => Q r w ∧ Q' r w) s := by
  obtain ⟨n, r, w, h1, h2⟩ := h
  obtain ⟨n', r', w', h3, h4⟩ := h'
  have e1 := pi_more (k := n + n') h1 (by omega)
  have e2 := pi_more (k := n + n') h3 (by omega)
  rw [e1] at e2
  cases e2
  exact ⟨n, r, w, h1, h2, h4⟩
