/-! ===== what a LAND's text has told so far: rows c (0 roads, 1 posted, 2 LENGTH, 3 forbids, 4 repeals, 5 begins in, 6 SIGHT, 7 reads for, 8 stops, 9 round), the number of roads, NAMES ===== -/
abbrev ld_A : Type := Nat → Nat → Int32
def ld_n (c : Nat) : Nat := if c < 2 then 10 else if c < 9 then 6 else 48
def ld_c (c : Nat) : Nat := if c = 0 then 6 else if c = 1 then 16 else if c < 9 then 14 + 6 * c else 68
def ld_m (c : Nat) : Nat := if c = 0 then 5 else if c = 1 then 105 else if c < 7 then 3 + 6 * c else if c = 7 then 99 else if c = 8 then 45 else 51
def ld_ci (j : Nat) : Nat × Nat := if j < 16 then (0, j - 6) else if j < 26 then (1, j - 16) else if j < 68 then ((j - 14) / 6, (j - 14) % 6) else (9, j - 68)
def ld_mi (j : Nat) : Nat × Nat := if j < 15 then (0, j - 5) else if j < 45 then ((j - 3) / 6, (j - 3) % 6) else if j < 51 then (8, j - 45) else if j < 99 then (9, j - 51) else if j < 105 then (7, j - 99) else (1, j - 105)
theorem ld_ci_ok : ∀ c, c < 10 → ∀ k, k < 48 → k < ld_n c → ld_ci (ld_c c + k) = (c, k) := by decide +kernel
theorem ld_mi_ok : ∀ c, c < 10 → ∀ k, k < 48 → k < ld_n c → ld_mi (ld_m c + k) = (c, k) := by decide +kernel
theorem ld_n48 (c : Nat) : ld_n c ≤ 48 := by
  unfold ld_n
  split
  · omega
  · split <;> omega
theorem ld_cinj {c k c0 k0 : Nat} (h1 : c < 10) (h2 : k < ld_n c) (h3 : c0 < 10) (h4 : k0 < ld_n c0) (h : ld_c c + k = ld_c c0 + k0) : c = c0 ∧ k = k0 := by
  have a := ld_ci_ok c h1 k (Nat.lt_of_lt_of_le h2 (ld_n48 c)) h2
  have b := ld_ci_ok c0 h3 k0 (Nat.lt_of_lt_of_le h4 (ld_n48 c0)) h4
  rw [h, b] at a
  exact ⟨(Prod.mk.inj a).1.symm, (Prod.mk.inj a).2.symm⟩
theorem ld_minj {c k c0 k0 : Nat} (h1 : c < 10) (h2 : k < ld_n c) (h3 : c0 < 10) (h4 : k0 < ld_n c0) (h : ld_m c + k = ld_m c0 + k0) : c = c0 ∧ k = k0 := by
  have a := ld_mi_ok c h1 k (Nat.lt_of_lt_of_le h2 (ld_n48 c)) h2
  have b := ld_mi_ok c0 h3 k0 (Nat.lt_of_lt_of_le h4 (ld_n48 c0)) h4
  rw [h, b] at a
  exact ⟨(Prod.mk.inj a).1.symm, (Prod.mk.inj a).2.symm⟩
theorem ld_cr : ∀ c, c < 10 → ∀ k, k < 48 → k < ld_n c → 6 ≤ ld_c c + k ∧ ld_c c + k < 116 := by decide +kernel
theorem ld_mr : ∀ c, c < 10 → ∀ k, k < 48 → k < ld_n c → 5 ≤ ld_m c + k ∧ ld_m c + k < 115 := by decide +kernel
def ld_u (A : ld_A) (c k : Nat) (x : Int32) : ld_A := fun c' k' => if c' = c ∧ k' = k then x else A c' k'
/-- as the class has it: repeals and reads for one less -/
def ld_v (c : Nat) (x : Int32) : Int32 := if c = 4 ∨ c = 7 then x - 1 else x
/-- the rows in the class, as far as LAWS nl and MEN nm go -/
def CR (w : pi_W) (fa : Nat) (A : ld_A) (nl nm : Nat) : Prop := ∀ c k, c < 10 → k < ld_n c → (c = 4 → k < nl) → (c = 7 → k < nm) → gv w fa (ld_c c + k) = ld_v c (A c k)
def CL (w : pi_W) (fa na : Nat) (A : ld_A) (nr : Nat) (NT : List nt_E) : Prop := NC w fa na NT ∧ (∀ s, s = 0 ∨ s = 2 ∨ s = 3 ∨ s = 4 → (gv w fa s).toInt = (nt_c s NT : Int)) ∧ (gv w fa 1).toInt = (nr : Int) ∧ CR w fa A (nt_c 3 NT) (nt_c 4 NT)
def MR (w : pi_W) (ha off : Nat) (A : ld_A) : Prop := ∀ c k, c < 10 → k < ld_n c → gv w ha (off + (ld_m c + k)) = A c k
def ML (w : pi_W) (A : ld_A) (nr : Nat) (NT : List nt_E) : Prop := NM w 27 NT ∧ (∀ s, s = 0 ∨ s = 2 ∨ s = 3 ∨ s = 4 → (gv w 64 s).toInt = (nt_c s NT : Int)) ∧ (gv w 64 1).toInt = (nr : Int) ∧ MR w 64 0 A
theorem CR.put {w w' : pi_W} {fa : Nat} {A : ld_A} {nl nm c0 k0 : Nat} {x v : Int32} (h : CR w fa A nl nm) (hc : c0 < 10) (hk : k0 < ld_n c0) (hw : wr1 w fa (ld_c c0 + k0) (.int v) w') (hv : v = ld_v c0 x) : CR w' fa (ld_u A c0 k0 x) nl nm := by
  intro c k h1 h2 h3 h4
  rw [wpv hw]
  unfold ld_u
  by_cases e : c = c0 ∧ k = k0
  · rw [if_pos ⟨rfl, by rw [e.1, e.2]⟩, if_pos e, hv, e.1]
  · rw [if_neg (fun q => e (ld_cinj h1 h2 hc hk q.2)), if_neg e]
    exact h c k h1 h2 h3 h4
theorem MR.put {w w' : pi_W} {ha : Nat} {A : ld_A} {c0 k0 : Nat} {x : Int32} (h : MR w ha 0 A) (hc : c0 < 10) (hk : k0 < ld_n c0) (hw : wr1 w ha (ld_m c0 + k0) (.int x) w') : MR w' ha 0 (ld_u A c0 k0 x) := by
  intro c k h1 h2
  rw [Nat.zero_add, wpv hw]
  unfold ld_u
  by_cases e : c = c0 ∧ k = k0
  · rw [if_pos ⟨rfl, by rw [e.1, e.2]⟩, if_pos e]
  · rw [if_neg (fun q => e (ld_minj h1 h2 hc hk q.2)), if_neg e]
    have := h c k h1 h2
    rw [Nat.zero_add] at this
    exact this
theorem CR.fr {w w' : pi_W} {fa : Nat} {A : ld_A} {nl nm : Nat} {N : af_M} (h : CR w fa A nl nm) (hF : af_Fr N w w') (hN : ∀ j, 6 ≤ j → j < 116 → af_cov N fa j j = false) : CR w' fa A nl nm := by
  intro c k h1 h2 h3 h4
  have hr := ld_cr c h1 k (Nat.lt_of_lt_of_le h2 (ld_n48 c)) h2
  rw [gv_eq (hF fa (ld_c c + k) (hN _ hr.1 hr.2))]
  exact h c k h1 h2 h3 h4
theorem MR.fr {w w' : pi_W} {ha off : Nat} {A : ld_A} {N : af_M} (h : MR w ha off A) (hF : af_Fr N w w') (hN : ∀ j, j < 115 → af_cov N ha (off + j) (off + j) = false) : MR w' ha off A := by
  intro c k h1 h2
  have hr := ld_mr c h1 k (Nat.lt_of_lt_of_le h2 (ld_n48 c)) h2
  rw [gv_eq (hF ha (off + (ld_m c + k)) (hN _ hr.2))]
  exact h c k h1 h2
/-! ===== a LINE as a function: a FAULT (kind, place), or what is told then ===== -/
abbrev ls_S : Type := tq_T × ld_A × Nat × List nt_E
abbrev ls_R : Type := (Int × Nat) ⊕ ls_S
def ls_nm (t : tq_T) : Bool := decide (t.1 = 2 ∧ tq_kx t.2.2.2.1 = -1)
/-- a NAME that is told anew -/
def ls_new (tp : Nat → Nat) (B M s : Nat) (σ : ls_S) : ls_R :=
  if ls_nm σ.1 = false then .inl (1, σ.1.2.1)
  else if nt_t σ.2.2.2 σ.1.2.2.2.1 = true then .inl (3, σ.1.2.1)
  else .inr (tq_nx tp B M σ.1, σ.2.1, σ.2.2.1, σ.2.2.2 ++ [(s, nt_c s σ.2.2.2, σ.1.2.2.2.1)])
/-- a NAME of a sort that was told: its number -/
def ls_look (s : Nat) (t : tq_T) (NT : List nt_E) : (Int × Nat) ⊕ Nat :=
  if ls_nm t = false then .inl (1, t.2.1)
  else if nt_f NT s t.2.2.2.1 = -1 then .inl (3, t.2.1)
  else .inr (nt_f NT s t.2.2.2.1).toNat
def ls_numb (lo hi : Nat) (t : tq_T) : (Int × Nat) ⊕ Nat :=
  if t.1 = 3 ∧ lo ≤ t.2.2.1 ∧ t.2.2.1 ≤ hi then .inr t.2.2.1 else .inl (if t.1 = 3 then 2 else 1, t.2.1)
def ls_bit (x : Int32) (k : Nat) : Bool := decide ((x >>> (Int32.ofNat k &&& 31)) &&& 1 = 1)
def ls_or (x : Int32) (k : Nat) : Int32 := x ||| ((1 : Int32) <<< (Int32.ofNat k &&& 31))
