/-! ===== the LINES of a LAND as functions ===== -/
def ls_b {α β : Type} (r : (Int × Nat) ⊕ α) (f : α → (Int × Nat) ⊕ β) : (Int × Nat) ⊕ β := match r with
  | .inl e => .inl e
  | .inr a => f a
theorem ls_bl {α β : Type} (e : Int × Nat) (f : α → (Int × Nat) ⊕ β) : ls_b (.inl e) f = .inl e := rfl
theorem ls_br {α β : Type} (a : α) (f : α → (Int × Nat) ⊕ β) : ls_b (.inr a) f = f a := rfl
def ls_road (tp : Nat → Nat) (B M : Nat) (σ : ls_S) : ls_R :=
  ls_b (ls_look 0 σ.1 σ.2.2.2) (fun a => ls_b (ls_look 0 (tq_nx tp B M σ.1) σ.2.2.2) (fun b => if a = b ∨ ls_bit (σ.2.1 0 a) b = true then .inl (3, (tq_nx tp B M σ.1).2.1) else .inr (tq_nx tp B M (tq_nx tp B M σ.1), ld_u (ld_u σ.2.1 0 a (ls_or (σ.2.1 0 a) b)) 0 b (ls_or ((ld_u σ.2.1 0 a (ls_or (σ.2.1 0 a) b)) 0 b) a), σ.2.2.1 + 1, σ.2.2.2)))
/-- behind what a LINE begins with, if there may be one more -/
def ls_more (tp : Nat → Nat) (B M c m : Nat) (σ : ls_S) : ls_R := if c < m then .inr (tq_nx tp B M σ.1, σ.2) else .inl (4, σ.1.2.1)
def ls_sc (t : tq_T) : Bool := decide (t.1 = 4 ∧ t.2.2.1 = 59)
def ls_head (tp : Nat → Nat) (B M : Nat) (σ : ls_S) : ls_R :=
  ls_b (ls_new tp B M 3 σ) (fun σ1 => ls_b (ls_numb 1 30 σ1.1) (fun n => .inr (tq_nx tp B M σ1.1, ld_u (ld_u (ld_u σ1.2.1 4 (nt_c 3 σ.2.2.2) 0) 2 (nt_c 3 σ.2.2.2) (Int32.ofNat n)) 3 (nt_c 3 σ.2.2.2) 0, σ1.2.2)))
def ls_deed (tp : Nat → Nat) (B M l : Nat) (σ : ls_S) : ls_R :=
  ls_b (ls_look 2 σ.1 σ.2.2.2) (fun d => if ls_bit (σ.2.1 3 l) d = true then .inl (3, σ.1.2.1) else .inr (tq_nx tp B M σ.1, ld_u σ.2.1 3 l (ls_or (σ.2.1 3 l) d), σ.2.2))
def ls_deeds (tp : Nat → Nat) (B M l : Nat) : Nat → ls_S → ls_R
  | 0, σ => .inr σ
  | n + 1, σ => if ls_sc σ.1 = true then .inr σ else ls_b (ls_deed tp B M l σ) (ls_deeds tp B M l n)
def ls_law (tp : Nat → Nat) (B M : Nat) (σ : ls_S) : ls_R :=
  ls_b (ls_more tp B M (nt_c 3 σ.2.2.2) 6 σ) (fun σ1 => ls_b (ls_head tp B M σ1) (fun σ2 => ls_b (ls_deed tp B M (nt_c 3 σ.2.2.2) σ2) (ls_deeds tp B M (nt_c 3 σ.2.2.2) 5)))
def ls_rep (tp : Nat → Nat) (B M l : Nat) (σ : ls_S) : ls_R :=
  ls_b (ls_look 3 σ.1 σ.2.2.2) (fun k => if k = l ∨ ¬ σ.2.1 4 k = 0 then .inl (3, σ.1.2.1) else .inr (tq_nx tp B M σ.1, ld_u σ.2.1 4 l (Int32.ofNat (k + 1)), σ.2.2))
def ls_repeal (tp : Nat → Nat) (B M : Nat) (σ : ls_S) : ls_R :=
  ls_b (ls_more tp B M (nt_c 3 σ.2.2.2) 6 σ) (fun σ1 => ls_b (ls_head tp B M σ1) (ls_rep tp B M (nt_c 3 σ.2.2.2)))
def ls_man (tp : Nat → Nat) (B M : Nat) (σ : ls_S) : ls_R :=
  ls_b (ls_more tp B M (nt_c 4 σ.2.2.2) 6 σ) (fun σ1 => ls_b (ls_new tp B M 4 σ1) (fun σ2 => ls_b (ls_look 0 σ2.1 σ2.2.2.2) (fun p => ls_b (ls_numb 0 9 (tq_nx tp B M σ2.1)) (fun n => .inr (tq_nx tp B M (tq_nx tp B M σ2.1), ld_u (ld_u (ld_u σ2.2.1 5 (nt_c 4 σ.2.2.2) (Int32.ofNat p)) 6 (nt_c 4 σ.2.2.2) (Int32.ofNat n)) 7 (nt_c 4 σ.2.2.2) 0, σ2.2.2)))))
def ls_stop (tp : Nat → Nat) (B M m n : Nat) (σ : ls_S) : ls_R :=
  ls_b (ls_look 0 σ.1 σ.2.2.2) (fun p => if 8 ≤ n then .inl (4, σ.1.2.1) else .inr (tq_nx tp B M σ.1, ld_u (ld_u σ.2.1 9 (8 * m + n) (Int32.ofNat p)) 8 m (Int32.ofNat (n + 1)), σ.2.2))
def ls_stops (tp : Nat → Nat) (B M m : Nat) : Nat → Nat → ls_S → ls_R
  | 0, _, σ => .inr σ
  | f + 1, n, σ => if ls_sc σ.1 = true then .inr σ else ls_b (ls_stop tp B M m n σ) (ls_stops tp B M m f (n + 1))
def ls_round (tp : Nat → Nat) (B M : Nat) (σ : ls_S) : ls_R :=
  ls_b (ls_look 4 (tq_nx tp B M σ.1) σ.2.2.2) (fun m => if 0 < (σ.2.1 8 m).toInt then .inl (3, (tq_nx tp B M σ.1).2.1) else ls_b (ls_stop tp B M m 0 (tq_nx tp B M (tq_nx tp B M σ.1), σ.2)) (ls_stops tp B M m 9 1))
def ls_clerk (tp : Nat → Nat) (B M : Nat) (σ : ls_S) : ls_R :=
  ls_b (ls_look 4 (tq_nx tp B M σ.1) σ.2.2.2) (fun c => if ¬ σ.2.1 7 c = 0 then .inl (3, (tq_nx tp B M σ.1).2.1) else ls_b (ls_look 4 (tq_nx tp B M (tq_nx tp B M σ.1)) σ.2.2.2) (fun o => if o = c then .inl (3, (tq_nx tp B M (tq_nx tp B M σ.1)).2.1) else .inr (tq_nx tp B M (tq_nx tp B M (tq_nx tp B M σ.1)), ld_u σ.2.1 7 c (Int32.ofNat (o + 1)), σ.2.2)))
def ls_post (tp : Nat → Nat) (B M : Nat) (σ : ls_S) : ls_R :=
  ls_b (ls_look 3 (tq_nx tp B M σ.1) σ.2.2.2) (fun l => ls_b (ls_look 0 (tq_nx tp B M (tq_nx tp B M σ.1)) σ.2.2.2) (fun p => if ls_bit (σ.2.1 1 p) l = true then .inl (3, (tq_nx tp B M (tq_nx tp B M σ.1)).2.1) else .inr (tq_nx tp B M (tq_nx tp B M (tq_nx tp B M σ.1)), ld_u σ.2.1 1 p (ls_or (σ.2.1 1 p) l), σ.2.2)))
/-- a LINE by its KEYWORD -/
def ls_line (tp : Nat → Nat) (B M : Nat) (σ : ls_S) : ls_R :=
  let k : Int := if σ.1.1 = 2 then tq_kx σ.1.2.2.2.1 else -1
  if k = 0 then ls_b (ls_more tp B M (nt_c 0 σ.2.2.2) 10 σ) (ls_new tp B M 0)
  else if k = 1 then ls_b (ls_more tp B M σ.2.2.1 16 σ) (ls_road tp B M)
  else if k = 2 then ls_b (ls_more tp B M (nt_c 2 σ.2.2.2) 5 σ) (ls_new tp B M 2)
  else if k = 3 then ls_law tp B M σ
  else if k = 4 then ls_repeal tp B M σ
  else if k = 5 then ls_man tp B M σ
  else if k = 6 then ls_round tp B M σ
  else if k = 7 then ls_clerk tp B M σ
  else if k = 8 then ls_post tp B M σ
  else .inl (1, σ.1.2.1)
/-- what every LAND being read keeps to: not too many, and nothing said yet of LAWS and MEN that were not told -/
def ls_I (σ : ls_S) : Prop := nt_ok σ.2.2.2 ∧ (nt_c 0 σ.2.2.2 ≤ 10 ∧ nt_c 2 σ.2.2.2 ≤ 5 ∧ nt_c 3 σ.2.2.2 ≤ 6 ∧ nt_c 4 σ.2.2.2 ≤ 6) ∧ σ.2.2.1 ≤ 16 ∧ (∀ k, nt_c 3 σ.2.2.2 ≤ k → σ.2.1 3 k = 0) ∧ ∀ k, nt_c 4 σ.2.2.2 ≤ k → σ.2.1 7 k = 0
