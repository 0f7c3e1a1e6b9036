/-! ===== a SENTENCE as a machine: is a part whole, what stands open (true: a bracket, false: a not), ONES, TOKEN ===== -/
abbrev sn_S : Type := Bool × List Bool × Nat × tq_T
abbrev sn_R : Type := (Int × Nat) ⊕ (Nat ⊕ sn_S)
def sn_dn : List Bool → List Bool
  | [] => []
  | true :: K => true :: K
  | false :: K => sn_dn K
/-- what stands behind a leaf's word -/
def sn_leaf (tp : Nat → Nat) (B M : Nat) (NT : List nt_E) (k : Int) (t : tq_T) : (Int × Nat) ⊕ tq_T :=
  if k < 22 then .inr t
  else if k < 25 then ls_b (ls_look (if k = 22 then 3 else if k = 23 then 2 else 0) t NT) (fun _ => .inr (tq_nx tp B M t))
  else if t.1 = 4 ∧ 60 ≤ t.2.2.1 ∧ t.2.2.1 ≤ 62 then (if (tq_nx tp B M t).1 = 3 then .inr (tq_nx tp B M (tq_nx tp B M t)) else .inl (1, (tq_nx tp B M t).2.1))
  else .inl (1, t.2.1)
def sn_op (t : tq_T) : Bool := decide (t.1 = 4 ∧ t.2.2.1 = 40)
def sn_cl (t : tq_T) : Bool := decide (t.1 = 4 ∧ t.2.2.1 = 41)
/-- a ONE is wanted -/
def sn_one (tp : Nat → Nat) (B M : Nat) (NT : List nt_E) (K : List Bool) (n : Nat) (t : tq_T) : sn_R :=
  if sn_op t = false ∧ ls_k t < 19 then .inl (1, t.2.1)
  else if 20 ≤ n ∨ 8 < K.length + 1 then .inl (4, t.2.1)
  else if sn_op t = true then .inr (.inr (false, true :: K, n + 1, tq_nx tp B M t))
  else if ls_k t = 19 then .inr (.inr (false, false :: K, n + 1, tq_nx tp B M t))
  else ls_b (sn_leaf tp B M NT (ls_k t) (tq_nx tp B M t)) (fun t2 => .inr (.inr (true, K, n + 1, t2)))
/-- a part is whole -/
def sn_wh (tp : Nat → Nat) (B M : Nat) (K : List Bool) (n : Nat) (t : tq_T) : sn_R :=
  if t.1 = 0 then (if sn_dn K = [] then .inr (.inl n) else .inl (1, t.2.1))
  else if ls_k t = 18 ∨ ls_k t = 17 then .inr (.inr (false, sn_dn K, n, tq_nx tp B M t))
  else if sn_cl t = true ∧ (sn_dn K).length ≠ 0 then .inr (.inr (true, (sn_dn K).tail, n, tq_nx tp B M t))
  else .inl (1, t.2.1)
def sn_step (tp : Nat → Nat) (B M : Nat) (NT : List nt_E) (s : sn_S) : sn_R := if s.1 = true then sn_wh tp B M s.2.1 s.2.2.1 s.2.2.2 else sn_one tp B M NT s.2.1 s.2.2.1 s.2.2.2
def sn_run (tp : Nat → Nat) (B M : Nat) (NT : List nt_E) : Nat → sn_S → Option ((Int × Nat) ⊕ Nat)
  | 0, _ => none
  | f + 1, s => match sn_step tp B M NT s with
    | .inl e => some (.inl e)
    | .inr (.inl n) => some (.inr n)
    | .inr (.inr s2) => sn_run tp B M NT f s2
/-- from there it ends so -/
def Rc (tp : Nat → Nat) (B M : Nat) (NT : List nt_E) (s : sn_S) (z : (Int × Nat) ⊕ Nat) : Prop := ∃ f, sn_run tp B M NT f s = some z
section RC
variable {tp : Nat → Nat} {B M : Nat} {NT : List nt_E} {s s2 : sn_S} {z z2 : (Int × Nat) ⊕ Nat}
theorem Rc.st (h : sn_step tp B M NT s = .inr (.inr s2)) (hz : Rc tp B M NT s2 z) : Rc tp B M NT s z := by
  obtain ⟨f, hf⟩ := hz
  refine ⟨f + 1, ?_⟩
  rw [sn_run, h]
  exact hf
theorem Rc.bad {e : Int × Nat} (h : sn_step tp B M NT s = .inl e) : Rc tp B M NT s (.inl e) := ⟨1, by rw [sn_run, h]⟩
theorem Rc.end {n : Nat} (h : sn_step tp B M NT s = .inr (.inl n)) : Rc tp B M NT s (.inr n) := ⟨1, by rw [sn_run, h]⟩
theorem sn_more : ∀ (f g : Nat) {s : sn_S}, sn_run tp B M NT f s = some z → sn_run tp B M NT (f + g) s = some z
  | 0, _, _, h => by cases h
  | f + 1, g, s, h => by
    rw [show f + 1 + g = (f + g) + 1 by omega, sn_run]
    rw [sn_run] at h
    cases hs : sn_step tp B M NT s with
    | inl e => rw [hs] at h; exact h
    | inr r =>
      rw [hs] at h
      cases r with
      | inl n => exact h
      | inr s2 => exact sn_more f g h
theorem Rc.det (h : Rc tp B M NT s z) (h2 : Rc tp B M NT s z2) : z = z2 := by
  obtain ⟨f, hf⟩ := h
  obtain ⟨g, hg⟩ := h2
  have e1 := sn_more f g hf
  have e2 := sn_more g f hg
  rw [Nat.add_comm g f, e1] at e2
  exact Option.some.inj e2
/-- a not is open no more once its part is whole -/
theorem Rc.not {K : List Bool} {n : Nat} {t : tq_T} (h : Rc tp B M NT (true, K, n, t) z) : Rc tp B M NT (true, false :: K, n, t) z := by
  obtain ⟨f, hf⟩ := h
  refine ⟨f, ?_⟩
  cases f with
  | zero => cases hf
  | succ f =>
    rw [sn_run] at hf ⊢
    exact hf
end RC
