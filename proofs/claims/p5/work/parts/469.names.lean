/-! ===== NAMES told so far: sort (0 PLACE, 2 DEED, 3 LAW, 4 MAN), number, letters, in the order in which they were told ===== -/
abbrev nt_E : Type := Nat × Nat × List Nat
def nt_c (s : Nat) (NT : List nt_E) : Nat := NT.countP (fun e => e.1 == s)
/-- a WORD that may be a NAME -/
def nt_w (u : List Nat) : Prop := u.all tq_sm = true ∧ u.length ≤ 7
def nt_ok (NT : List nt_E) : Prop := (∀ e ∈ NT, nt_w e.2.2 ∧ (e.1 = 0 ∨ e.1 = 2 ∨ e.1 = 3 ∨ e.1 = 4) ∧ e.2.1 < nt_c e.1 NT) ∧ (∀ a ∈ NT, ∀ b ∈ NT, a.2.2 = b.2.2 → a = b) ∧ ∀ s k, k < nt_c s NT → ∃ e ∈ NT, e.1 = s ∧ e.2.1 = k
def nt_p (s : Nat) (u : List Nat) (e : nt_E) : Bool := decide (e.2.2 = u) && (e.1 == s)
def nt_f (NT : List nt_E) (s : Nat) (u : List Nat) : Int := match NT.find? (nt_p s u) with
  | some e => (e.2.1 : Int)
  | none => -1
def nt_t (NT : List nt_E) (u : List Nat) : Bool := NT.any (fun e => decide (e.2.2 = u))
theorem nt_ok0 : nt_ok [] := ⟨(fun e he => by cases he), (fun a ha => by cases ha), (fun s k h => by simp [nt_c] at h)⟩
theorem nt_c_app (s : Nat) (NT : List nt_E) (e : nt_E) : nt_c s (NT ++ [e]) = nt_c s NT + (if e.1 = s then 1 else 0) := by
  unfold nt_c
  rw [List.countP_append]
  by_cases h : e.1 = s
  · rw [if_pos h, List.countP_cons_of_pos (by simp [h])]
    rfl
  · rw [if_neg h, List.countP_cons_of_neg (by simp [h])]
    rfl
theorem nt_ok_app {NT : List nt_E} {s : Nat} {u : List Nat} (h : nt_ok NT) (hs : s = 0 ∨ s = 2 ∨ s = 3 ∨ s = 4) (hu : nt_w u) (ht : nt_t NT u = false) : nt_ok (NT ++ [(s, nt_c s NT, u)]) := by
  obtain ⟨h1, h2, h3⟩ := h
  have hn : ∀ e ∈ NT, e.2.2 ≠ u := by
    intro e he q
    have : nt_t NT u = true := List.any_eq_true.mpr ⟨e, he, decide_eq_true q⟩
    rw [ht] at this
    cases this
  refine ⟨?_, ?_, ?_⟩
  · intro e he
    rcases List.mem_append.mp he with he | he
    · obtain ⟨a, b, c⟩ := h1 e he
      exact ⟨a, b, by rw [nt_c_app]; omega⟩
    · rw [List.mem_singleton.mp he]
      exact ⟨hu, hs, by rw [nt_c_app, if_pos rfl]; exact Nat.lt_succ_self _⟩
  · intro a ha b hb q
    rcases List.mem_append.mp ha with ha | ha <;> rcases List.mem_append.mp hb with hb | hb
    · exact h2 a ha b hb q
    · rw [List.mem_singleton.mp hb] at q
      exact absurd q (hn a ha)
    · rw [List.mem_singleton.mp ha] at q
      exact absurd q.symm (hn b hb)
    · rw [List.mem_singleton.mp ha, List.mem_singleton.mp hb]
  · intro s' k hk
    rw [nt_c_app] at hk
    by_cases hk2 : k < nt_c s' NT
    · obtain ⟨e, he, q⟩ := h3 s' k hk2
      exact ⟨e, List.mem_append_left _ he, q⟩
    · split at hk
      · rename_i hq
        dsimp only at hq
        refine ⟨(s, nt_c s NT, u), List.mem_append_right _ List.mem_cons_self, hq, ?_⟩
        show nt_c s NT = k
        rw [hq]
        omega
      · omega
theorem nt_f_some {NT : List nt_E} {s : Nat} {u : List Nat} (h : nt_ok NT) {e : nt_E} (he : e ∈ NT) (h1 : e.1 = s) (h2 : e.2.2 = u) : nt_f NT s u = (e.2.1 : Int) := by
  unfold nt_f
  cases hf : NT.find? (nt_p s u) with
  | none =>
    have := List.find?_eq_none.mp hf e he
    simp [nt_p, h1, h2] at this
  | some e' =>
    have m := List.mem_of_find?_eq_some hf
    have p := List.find?_some hf
    simp only [nt_p, Bool.and_eq_true, decide_eq_true_eq, beq_iff_eq] at p
    rw [h.2.1 e' m e he (by rw [p.1, h2])]
theorem nt_f_none {NT : List nt_E} {s : Nat} {u : List Nat} (h : ∀ e ∈ NT, e.1 = s → e.2.2 ≠ u) : nt_f NT s u = -1 := by
  unfold nt_f
  cases hf : NT.find? (nt_p s u) with
  | none => rfl
  | some e' =>
    have m := List.mem_of_find?_eq_some hf
    have p := List.find?_some hf
    simp only [nt_p, Bool.and_eq_true, decide_eq_true_eq, beq_iff_eq] at p
    exact absurd p.1 (h e' m p.2)
theorem nt_f_r {NT : List nt_E} {s : Nat} {u : List Nat} (h : nt_ok NT) : nt_f NT s u = -1 ∨ (0 ≤ nt_f NT s u ∧ nt_f NT s u < (nt_c s NT : Int)) := by
  unfold nt_f
  cases hf : NT.find? (nt_p s u) with
  | none => exact Or.inl rfl
  | some e' =>
    have m := List.mem_of_find?_eq_some hf
    have p := List.find?_some hf
    simp only [nt_p, Bool.and_eq_true, decide_eq_true_eq, beq_iff_eq] at p
    have := (h.1 e' m).2.2
    rw [p.2] at this
    right
    constructor <;> dsimp only <;> omega
/-- the model looks by number -/
theorem tq_fi_spec {p : Nat → Bool} : ∀ (m i : Nat), (tq_fi p m i = -1 ∧ ∀ k, i ≤ k → k < i + m → p k = false) ∨ ∃ k, i ≤ k ∧ k < i + m ∧ p k = true ∧ tq_fi p m i = (k : Int)
  | 0, i => Or.inl ⟨rfl, fun k h1 h2 => by omega⟩
  | m + 1, i => by
    rw [tq_fi]
    cases hp : p i with
    | true =>
      right
      exact ⟨i, Nat.le_refl _, by omega, hp, by simp⟩
    | false =>
      simp only [Bool.false_eq_true, if_false]
      rcases tq_fi_spec m (i + 1) with ⟨h1, h2⟩ | ⟨k, h1, h2, h3, h4⟩
      · left
        refine ⟨h1, fun k a b => ?_⟩
        by_cases e : k = i
        · rw [e]; exact hp
        · exact h2 k (by omega) (by omega)
      · right
        exact ⟨k, by omega, by omega, h3, h4⟩
theorem nt_fi {NT : List nt_E} {s : Nat} {u : List Nat} {f : Nat → Int64} (h : nt_ok NT) (hu : nt_w u) (hf : ∀ e ∈ NT, e.1 = s → f e.2.1 = Int64.ofNat (tq_c256 e.2.2)) : tq_fi (fun k => decide (f k = Int64.ofNat (tq_c256 u))) (nt_c s NT) 0 = nt_f NT s u := by
  have key : ∀ e ∈ NT, e.1 = s → (f e.2.1 = Int64.ofNat (tq_c256 u) ↔ e.2.2 = u) := by
    intro e he hs
    have hw := (h.1 e he).1
    rw [hf e he hs]
    constructor
    · intro q
      exact tq_inj256 _ _ _ (Nat.le_refl _) hw.1 hu.1 (tq_of64 (tq_c256_lt7 hw.1 hw.2) (tq_c256_lt7 hu.1 hu.2) q)
    · intro q
      rw [q]
  rcases tq_fi_spec (p := fun k => decide (f k = Int64.ofNat (tq_c256 u))) (nt_c s NT) 0 with ⟨h1, h2⟩ | ⟨k, h1, h2, h3, h4⟩
  · rw [h1, nt_f_none]
    intro e he hs q
    have hb := (h.1 e he).2.2
    rw [hs] at hb
    have := h2 e.2.1 (by omega) (by omega)
    rw [decide_eq_false_iff_not] at this
    exact this ((key e he hs).mpr q)
  · rw [h4]
    obtain ⟨e, he, hs, hk⟩ := h.2.2 s k (by omega)
    rw [decide_eq_true_eq, ← hk] at h3
    rw [nt_f_some h he hs ((key e he hs).mp h3), hk]
/-- the class's table of NAMES: facts in fa, codes in na -/
def NC (w : pi_W) (fa na : Nat) (NT : List nt_E) : Prop := (gv w fa 5).toInt = (NT.length : Int) ∧ NT.length ≤ 27 ∧ ∀ i e, NT[i]? = some e → gl w na i = Int64.ofNat (tq_c32 e.2.2) ∧ (gv w fa (116 + i)).toInt = (e.1 : Int) ∧ (gv w fa (143 + i)).toInt = (e.2.1 : Int)
theorem NC.key {w : pi_W} {fa na : Nat} {NT : List nt_E} {u : List Nat} (h : NC w fa na NT) (ho : nt_ok NT) (hu : nt_w u) {i : Nat} {e : nt_E} (he : NT[i]? = some e) : gl w na i = Int64.ofNat (tq_c32 u) ↔ e.2.2 = u := by
  have hw := (ho.1 e (List.mem_of_getElem? he)).1
  rw [(h.2.2 i e he).1]
  constructor
  · intro q
    exact tq_inj32 _ _ _ (Nat.le_refl _) hw.1 hu.1 (tq_of64 (Nat.lt_of_lt_of_le (tq_c32_lt7 hw.1 hw.2) (by decide)) (Nat.lt_of_lt_of_le (tq_c32_lt7 hu.1 hu.2) (by decide)) q)
  · intro q
    rw [q]
/-- the model's: codes from off on -/
def nt_b (s : Nat) : Nat := if s = 0 then 0 else if s = 2 then 10 else if s = 3 then 15 else 21
def NM (w : pi_W) (off : Nat) (NT : List nt_E) : Prop := ∀ e ∈ NT, gl w 66 (off + nt_b e.1 + e.2.1) = Int64.ofNat (tq_c256 e.2.2)
