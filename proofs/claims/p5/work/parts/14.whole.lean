/-! ===== THE SIMULATION: whatever pi_run answers, the machine does ===== -/
section PIV
variable {p : Program} {l : Launch} {e : Env} {R : Room} {s : State} {m : MethodId} {args : Array Value} {below : List Frame} {meth : Method} {c : Code} {D : va_G} {cA : Nat → ClassId} {sa sv : Nat} {A : Nat → Prop} {y : MethodName} {cc : ByteArray} {mi : pi_M} {ad : Nat → Nat} {cu su : Nat} {Qc : Array Value → State → Outcome → State → Prop} {free : Addr → Prop}
theorem ps_end (C : pi_Cx p s m args meth c y cc mi D cA sa sv A) {i : Instr} {len : Nat} {σ : pi_S} {r : Option Value} (h : pi_end mi.2.2.1 i len σ = some r) (hd : decode cc σ.1 = .ok (i, len))
    (hQ : ∀ (ad' : Nat → Nat) (t : State) (locs : List Loc), pi_ext ad ad' σ.2.2.2 σ.2.2.2 → va_P D vwCl (pi_rW cA ad' σ.2.2.2) t.heap → va_D A (pi_rW cA ad' σ.2.2.2) → va_S A s.heap t.heap locs → s.WarmedH t.vm → Qc args s (.returned (r.map (pi_rv ad'))) t) (hF : ∀ q, A q → free q) :
    pi_Wat p l e R s m args below meth c (MQ below Qc args s cu su free) D cA A mi.2.1 ad σ cu su := by
  obtain ⟨pc, lv, st, w⟩ := σ
  dsimp only at hd hQ
  intro H locs ls hP hD hS hl
  have hq : ∀ t : State, t.heap = H → s.WarmedH t.vm → Qc args s (.returned (r.map (pi_rv ad))) t := fun t ht hW => hQ ad t locs (pi_ext.rf ad w) (by rw [ht]; exact hP) hD (by rw [ht]; exact hS) hW
  have hf : ∀ q ∈ locs, free q.base := fun q hq => hF _ (hS.2.2 q hq)
  cases i
  case ireturn =>
    simp only [pi_end] at h
    split at h
    · rename_i hlen; subst hlen
      split at h
      · rename_i hret
        split at h
        · rename_i hn
          cases h
          exact W.zret C.1 C.2.1 (C.2.2.2.2.2.2.1.trans hret) hn hq hf hd C.2.2.2.2.2.2.2.1
        · cases h
      · cases h
    · cases h
  case areturn =>
    simp only [pi_end] at h
    split at h
    · rename_i hlen; subst hlen
      split at h
      · rename_i hret
        cases h
        exact W.aret C.1 C.2.1 (C.2.2.2.2.2.2.1.trans hret) (Or.inl ⟨_, rfl⟩) (Or.inr ⟨_, rfl⟩) hq hf hd C.2.2.2.2.2.2.2.1
      · cases h
    · cases h
  case return_ =>
    simp only [pi_end] at h
    split at h
    · rename_i hlen; subst hlen
      split at h
      · rename_i hret
        cases h
        exact W.vret C.1 C.2.1 (C.2.2.2.2.2.2.1.trans hret) hq hf hd C.2.2.2.2.2.2.2.1
      · cases h
    · cases h
  all_goals (exact absurd h (by simp [pi_end]))
end PIV
theorem pi_dec {y : MethodName} {cc : ByteArray} {mi : pi_M} {na : Nat} {st : Bool} (ho : pi_okM (y, cc, mi) na st) {pc : Nat} {i : Instr} {len : Nat} (h : pi_fetch mi.2.2.2.2 pc = some (i, len)) : decode cc pc = .ok (i, len) := by
  obtain ⟨own, nL, ret, ini, tab⟩ := mi
  obtain ⟨-, -, -, -, -, -, -, -, -, -, -, o12⟩ := ho
  have h1 := List.all_eq_true.mp o12 _ (pi_fetch_mem h)
  exact of_decide_eq_true h1
theorem pi_sim : ∀ n, pi_Sim n
  | 0 => by
    intro d y cc mi na st ho σ cu su r w' c' u' h
    cases h
  | n + 1 => by
    have ih := pi_sim n
    intro d y cc mi na st ho σ cu su r w' c' u' h p l e R s m args below meth c D cA sa sv A Qc free ad C hfr hlo hcc huu hsa hQ hF
    obtain ⟨i, len, hf, h⟩ := pi_run_inv h
    have hd := pi_dec ho hf
    rcases h with ⟨r', hr, h⟩ | ⟨cp, kinds, kind, z, na', q, s', hi, hlk, hkc, rfl, h3, h5, hs, h⟩ | ⟨cp, kinds, kind, z, na', q, d', yz, ccz, mz, As, rest, r1, w1, c1, u1, hi, hlk, hkc, rfl, hk3, rfl, hz, ha, hr1, hkp, h⟩ | ⟨s', k, hs, h⟩ | ⟨s', hs, h⟩
    · cases h
      exact ps_end C hr hd hQ hF
    · have hm := pi_mono _ _ _ _ _ _ _ _ _ _ h
      have hsp := ps_spec (p := p) (l := l) (e := e) (R := R) (below := below) (Q := MQ below Qc args s c' u' free) (ad := ad) (cu := cu) (su := su) C hsa hi hlk hkc hs hd (by omega) (by omega) (fun h6 => by
        have : ¬ d < 5 := fun q => h5 ⟨q, h6⟩
        constructor <;> omega) (by omega) (by omega)
      exact hsp.2 (ih d y cc mi na st ho s' cu su r w' c' u' h p l e R s m args below meth c D cA sa sv A Qc free ad C hfr hlo hcc huu hsa (fun ad' t locs h1 => hQ ad' t locs ((pi_ext.len hsp.1).tr h1)) hF)
    · have hm := pi_mono _ _ _ _ _ _ _ _ _ _ h
      refine ps_call ih C hsa hi hlk hkc hk3 hz ha hr1 hkp hd (by omega) (by omega) (by omega) (by omega) ?_
      intro ad' hx
      exact ih (d' + 1) y cc mi na st ho _ _ _ r w' c' u' h p l e R s m args below meth c D cA sa sv A Qc free ad' C hfr hlo hcc huu ((hx.2.1 _ (Or.inr rfl)).trans hsa) (fun ad2 t locs h1 => hQ ad2 t locs (hx.tr h1)) hF
    · have hm := pi_mono _ _ _ _ _ _ _ _ _ _ h
      refine ps_new C hs hd (by omega) (by omega) ?_
      intro ad' hx
      exact ih d y cc mi na st ho _ _ _ r w' c' u' h p l e R s m args below meth c D cA sa sv A Qc free ad' C hfr hlo hcc huu ((hx.2.1 _ (Or.inr rfl)).trans hsa) (fun ad2 t locs h1 => hQ ad2 t locs (hx.tr h1)) hF
    · have hsp := ps_step (p := p) (l := l) (e := e) (R := R) (below := below) (Q := MQ below Qc args s c' u' free) (cu := cu) (su := su) C hsa hs hd
      exact hsp.2 (ih d y cc mi na st ho s' cu su r w' c' u' h p l e R s m args below meth c D cA sa sv A Qc free ad C hfr hlo hcc huu hsa (fun ad' t locs h1 => hQ ad' t locs ((pi_ext.len hsp.1).tr h1)) hF)
