/-! ===== the model's stack of a SENTENCE: 20 not, 21 and, 22 or, 23 a bracket; top first ===== -/
def sF : List Nat → List Bool
  | [] => []
  | x :: S => if x = 20 then false :: sF S else if x = 23 then true :: sF S else sF S
def sH (S : List Nat) : Prop := ∀ x T, S = x :: T → x ≠ 20
def sW : List Nat → Prop
  | [] => True
  | x :: S => (x = 20 ∨ x = 21 ∨ x = 22 ∨ x = 23) ∧ (x = 21 ∨ x = 22 → sH S) ∧ sW S
/-- the stack lies in the row -/
def sK (w : pi_W) : List Nat → Prop
  | [] => True
  | x :: S => gv w 74 S.length = Int32.ofNat x ∧ sK w S
theorem sK.fr {w w' : pi_W} {N : af_M} (hF : af_Fr N w w') (hN : ∀ e ∈ N, e.1 ≠ 74) : ∀ {S : List Nat}, sK w S → sK w' S
  | [], _ => trivial
  | x :: S, h => ⟨(gv_eq (hq_cell hF hN)).trans h.1, sK.fr hF hN h.2⟩
theorem sK.put {w w' : pi_W} {n : Nat} {x : Int32} (hw : wr1 w 74 n (.int x) w') : ∀ {S : List Nat}, S.length ≤ n → sK w S → sK w' S
  | [], _, _ => trivial
  | y :: S, hn, h => by
    simp only [List.length_cons] at hn
    exact ⟨by rw [wpv hw, if_neg (by omega)]; exact h.1, sK.put hw (by omega) h.2⟩
/-- no not on top: neither on top of what stands open -/
theorem sF_h : ∀ {S : List Nat}, sW S → sH S → sn_dn (sF S) = sF S
  | [], _, _ => rfl
  | x :: S, hw, hh => by
    have hx := hh x S rfl
    obtain ⟨h1, h2, h3⟩ := hw
    rw [sF, if_neg hx]
    by_cases e : x = 23
    · rw [if_pos e]
      rfl
    · rw [if_neg e]
      exact sF_h h3 (h2 (by omega))
/-- nots taken off -/
def sD : List Nat → List Nat
  | [] => []
  | x :: S => if x = 20 then sD S else x :: S
theorem sD_h : ∀ (S : List Nat), sH (sD S)
  | [] => fun x T h => by cases h
  | x :: S => by
    rw [sD]
    split
    · exact sD_h S
    · rename_i q
      intro y T h
      cases h
      exact q
theorem sD_W : ∀ {S : List Nat}, sW S → sW (sD S)
  | [], _ => trivial
  | x :: S, h => by
    rw [sD]
    split
    · exact sD_W h.2.2
    · exact h
theorem sD_F : ∀ {S : List Nat}, sW S → sF (sD S) = sn_dn (sF S)
  | [], _ => rfl
  | x :: S, h => by
    rw [sD]
    by_cases e : x = 20
    · rw [if_pos e, sF, if_pos e]
      exact sD_F h.2.2
    · rw [if_neg e]
      exact (sF_h h (fun y T q => by cases q; exact e)).symm
theorem sF_len : ∀ (S : List Nat), (sF S).length ≤ S.length
  | [] => Nat.le_refl _
  | x :: S => by
    have := sF_len S
    rw [sF]
    split
    · simp only [List.length_cons]; omega
    · split
      · simp only [List.length_cons]; omega
      · simp only [List.length_cons]; omega
/-- the model at a SENTENCE -/
def SN (w : pi_W) (h : Nat) (K : List Bool) (n : Nat) (c : Nat) (S : List Nat) : Prop := (gv w 61 36).toInt = (c : Int) ∧ (gv w 61 37).toInt = (n : Int) ∧ (gv w 61 38).toInt = (S.length : Int) ∧ (gv w 61 39).toInt = ((K.length + 1 : Nat) : Int) ∧ sK w S ∧ sF S = K ∧ sW S ∧ c + S.length + h ≤ 2 * n ∧ n ≤ 20
