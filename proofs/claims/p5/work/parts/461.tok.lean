/-! ===== TOKENS, as a function of the text: bytes tp, how many B, the most M ===== -/
def tq_sm (c : Nat) : Bool := decide (97 ≤ c) && decide (c ≤ 122)
def tq_dg (c : Nat) : Bool := decide (48 ≤ c) && decide (c ≤ 57)
def tq_ld (c : Nat) : Bool := tq_sm c || tq_dg c
def tq_bl (c : Nat) : Bool := decide (c = 32) || decide (c = 10)
def tq_sg (c : Nat) : Bool := decide (c = 59) || (decide (c = 60) || (decide (c = 61) || (decide (c = 62) || (decide (c = 40) || decide (c = 41)))))
def tq_skf (tp : Nat → Nat) (B : Nat) : Nat → Nat → Nat
  | 0, i => i
  | f + 1, i => if i < B ∧ tq_bl (tp i) = true then tq_skf tp B f (i + 1) else i
def tq_sk (tp : Nat → Nat) (B i : Nat) : Nat := tq_skf tp B (B - i) i
def tq_rnf (tp : Nat → Nat) (B : Nat) : Nat → Nat → List Nat
  | 0, _ => []
  | f + 1, i => if i < B ∧ tq_ld (tp i) = true then tp i :: tq_rnf tp B f (i + 1) else []
def tq_rn (tp : Nat → Nat) (B i : Nat) : List Nat := tq_rnf tp B (B - i) i
section TQ
variable {tp : Nat → Nat} {B i : Nat}
theorem tq_sk_go (h : i < B) (hb : tp i = 32 ∨ tp i = 10) : tq_sk tp B i = tq_sk tp B (i + 1) := by
  unfold tq_sk
  obtain ⟨f, hf⟩ : ∃ f, B - i = f + 1 := ⟨B - i - 1, by omega⟩
  have e : B - (i + 1) = f := by omega
  rw [hf, e, tq_skf, if_pos ⟨h, by simpa [tq_bl] using hb⟩]
theorem tq_sk_end (h : B ≤ i) : tq_sk tp B i = i := by
  unfold tq_sk
  rw [show B - i = 0 by omega]
  rfl
theorem tq_sk_stop (h : ¬ (tp i = 32 ∨ tp i = 10)) : tq_sk tp B i = i := by
  unfold tq_sk
  cases hf : B - i with
  | zero => rfl
  | succ f => rw [tq_skf, if_neg (fun q => h (by simpa [tq_bl] using q.2))]
theorem tq_skf_le : ∀ (f i : Nat), i ≤ tq_skf tp B f i ∧ (i ≤ B → tq_skf tp B f i ≤ B)
  | 0, i => ⟨Nat.le_refl _, fun h => h⟩
  | f + 1, i => by
    rw [tq_skf]
    split
    · rename_i h
      have q := tq_skf_le f (i + 1)
      exact ⟨by omega, fun _ => q.2 (by omega)⟩
    · exact ⟨Nat.le_refl _, fun h => h⟩
theorem tq_sk_le (h : i ≤ B) : i ≤ tq_sk tp B i ∧ tq_sk tp B i ≤ B := ⟨(tq_skf_le _ _).1, (tq_skf_le _ _).2 h⟩
theorem tq_rn_go (h : i < B) (hb : tq_ld (tp i) = true) : tq_rn tp B i = tp i :: tq_rn tp B (i + 1) := by
  unfold tq_rn
  obtain ⟨f, hf⟩ : ∃ f, B - i = f + 1 := ⟨B - i - 1, by omega⟩
  have e : B - (i + 1) = f := by omega
  rw [hf, e, tq_rnf, if_pos ⟨h, hb⟩]
theorem tq_rn_end (h : B ≤ i) : tq_rn tp B i = [] := by
  unfold tq_rn
  rw [show B - i = 0 by omega]
  rfl
theorem tq_rn_stop (h : tq_ld (tp i) = false) : tq_rn tp B i = [] := by
  unfold tq_rn
  cases hf : B - i with
  | zero => rfl
  | succ f => rw [tq_rnf, if_neg (fun q => by rw [h] at q; exact absurd q.2 (by decide))]
theorem tq_rnf_len : ∀ (f i : Nat), i ≤ B → i + (tq_rnf tp B f i).length ≤ B
  | 0, i, h => by simpa [tq_rnf] using h
  | f + 1, i, h => by
    rw [tq_rnf]
    split
    · rename_i q
      have := tq_rnf_len f (i + 1) (by omega)
      simp only [List.length_cons]
      omega
    · simpa using h
theorem tq_rn_len (h : i ≤ B) : i + (tq_rn tp B i).length ≤ B := tq_rnf_len _ _ h
theorem tq_rnf_ld : ∀ (f i : Nat), (tq_rnf tp B f i).all tq_ld = true
  | 0, i => rfl
  | f + 1, i => by
    rw [tq_rnf]
    split
    · rename_i q
      simp only [List.all_cons, q.2, tq_rnf_ld f (i + 1), Bool.and_self]
    · rfl
theorem tq_rn_ld : (tq_rn tp B i).all tq_ld = true := tq_rnf_ld _ _
end TQ
/-- a WORD's number: letters by 32; and by 256 -/
def tq_c32 (u : List Nat) : Nat := u.foldl (fun a c => a * 32 + (c - 96)) 0
def tq_c256 (u : List Nat) : Nat := u.foldl (fun a c => a * 256 + c) 0
def tq_num (u : List Nat) : Nat := u.foldl (fun a c => a * 10 + (c - 48)) 0
def tq_kw : List (List Nat) := ["place", "road", "deed", "law", "repeal", "man", "round", "clerk", "post", "goes", "does", "wears", "bares", "fevers", "posts", "rains", "day", "or", "and", "not", "blind", "free", "bound", "may", "in", "sight", "words", "did", "number"].map (fun s => s.toList.map (fun c => c.toNat))
/-- kind (0 end, 1 none, 2 WORD, 3 NUMBER, 4 sign), where it begins, its number or sign, its letters, where the next begins -/
abbrev tq_T : Type := Nat × Nat × Nat × List Nat × Nat
def tq_tok (tp : Nat → Nat) (B M i : Nat) : tq_T :=
  if B ≤ tq_sk tp B i ∨ M ≤ tq_sk tp B i then (if M < B then 1 else 0, if M < B then M else B, 0, [], tq_sk tp B i)
  else if tq_ld (tp (tq_sk tp B i)) = true then
    (if (tq_rn tp B (tq_sk tp B i)).all tq_sm = true ∧ (tq_rn tp B (tq_sk tp B i)).length ≤ 7 then (2, tq_sk tp B i, 0, tq_rn tp B (tq_sk tp B i), tq_sk tp B i + (tq_rn tp B (tq_sk tp B i)).length)
    else if (tq_rn tp B (tq_sk tp B i)).all tq_dg = true ∧ (tq_rn tp B (tq_sk tp B i)).length ≤ 2 then (3, tq_sk tp B i, tq_num (tq_rn tp B (tq_sk tp B i)), [], tq_sk tp B i + (tq_rn tp B (tq_sk tp B i)).length)
    else (1, tq_sk tp B i, 0, [], tq_sk tp B i + (tq_rn tp B (tq_sk tp B i)).length))
  else (if tq_sg (tp (tq_sk tp B i)) = true then 4 else 1, tq_sk tp B i, tp (tq_sk tp B i), [], tq_sk tp B i + 1)
/-- the first place of m from i on that is so, or -1 -/
def tq_fi (p : Nat → Bool) : Nat → Nat → Int
  | 0, _ => -1
  | m + 1, i => if p i = true then (i : Int) else tq_fi p m (i + 1)
theorem tq_fi_congr {p q : Nat → Bool} : ∀ (m i : Nat), (∀ k, i ≤ k → k < i + m → p k = q k) → tq_fi p m i = tq_fi q m i
  | 0, _, _ => rfl
  | m + 1, i, h => by
    rw [tq_fi, tq_fi, h i (Nat.le_refl _) (by omega), tq_fi_congr m (i + 1) (fun k h1 h2 => h k (by omega) (by omega))]
/-- which keyword: its place in the list, or -1 -/
def tq_kx (u : List Nat) : Int := tq_fi (fun k => decide (tq_kw.getD k [] = u)) 29 0
