/-! ===== the two readers against tq_tok: pure ===== -/
theorem tq_all_sm {u : List Nat} : u.all tq_sm = true ↔ u.countP (fun c => !tq_sm c) = 0 := by
  rw [List.countP_eq_zero, List.all_eq_true]
  constructor
  · intro h c hc
    rw [h c hc]
    decide
  · intro h c hc
    have := h c hc
    cases e : tq_sm c with
    | true => rfl
    | false => rw [e] at this; exact absurd rfl this
theorem tq_sm_dg {c : Nat} (h : tq_ld c = true) : tq_dg c = !tq_sm c := by
  simp only [tq_ld, tq_sm, tq_dg, Bool.or_eq_true, Bool.and_eq_true, decide_eq_true_eq] at h ⊢
  by_cases h1 : 97 ≤ c ∧ c ≤ 122
  · rw [decide_eq_true h1.1, decide_eq_true h1.2, decide_eq_false (p := c ≤ 57) (by omega)]
    simp
  · have h2 : 48 ≤ c ∧ c ≤ 57 := by omega
    rw [decide_eq_true h2.1, decide_eq_true h2.2, decide_eq_false (p := 97 ≤ c) (by omega)]
    rfl
theorem tq_all_dg {u : List Nat} (h : u.all tq_ld = true) : u.all tq_dg = true ↔ u.countP tq_sm = 0 := by
  rw [List.countP_eq_zero, List.all_eq_true]
  rw [List.all_eq_true] at h
  constructor
  · intro h1 c hc
    have e := tq_sm_dg (h c hc)
    rw [h1 c hc] at e
    cases e2 : tq_sm c with
    | true => rw [e2] at e; cases e
    | false => decide
  · intro h1 c hc
    rw [tq_sm_dg (h c hc)]
    have := h1 c hc
    cases e2 : tq_sm c with
    | true => rw [e2] at this; exact absurd rfl this
    | false => rfl
theorem tq_cnt {u : List Nat} : u.countP tq_sm + u.countP (fun c => !tq_sm c) = u.length := by
  induction u with
  | nil => rfl
  | cons c u ih =>
    cases e : tq_sm c with
    | true => rw [List.countP_cons_of_pos e, List.countP_cons_of_neg (by rw [e]; decide), List.length_cons]; omega
    | false => rw [List.countP_cons_of_neg (by rw [e]; decide), List.countP_cons_of_pos (by rw [e]; rfl), List.length_cons]; omega
theorem tq_let : ∀ c, c < 123 → 97 ≤ c → (Int32.ofNat c - (Int8.ofInt 97).toInt32 + Int32.ofInt 1).toInt64 = Int64.ofNat (c - 96) := by decide
theorem tq_dig : ∀ c, c < 58 → 48 ≤ c → Int32.ofNat c - (Int8.ofInt 48).toInt32 = Int32.ofNat (c - 48) := by decide
theorem tq_smr {c : Nat} (h : tq_sm c = true) : 97 ≤ c ∧ c < 123 := by
  simp only [tq_sm, Bool.and_eq_true, decide_eq_true_eq] at h
  omega
theorem tq_dgr {c : Nat} (h : tq_dg c = true) : 48 ≤ c ∧ c < 58 ∧ tq_sm c = false := by
  simp only [tq_dg, Bool.and_eq_true, decide_eq_true_eq] at h
  exact ⟨h.1, by omega, tq_smf (by omega)⟩
theorem tq_fw_c32 : ∀ (u : List Nat) (a : Nat), u.all tq_sm = true → u.foldl tq_fw (Int64.ofNat a) = Int64.ofNat (u.foldl (fun a c => a * 32 + (c - 96)) a)
  | [], a, _ => rfl
  | c :: u, a, h => by
    rw [List.all_cons, Bool.and_eq_true] at h
    have hr := tq_smr h.1
    rw [List.foldl_cons, List.foldl_cons]
    have e : tq_fw (Int64.ofNat a) c = Int64.ofNat (a * 32 + (c - 96)) := by
      unfold tq_fw
      rw [if_pos h.1, tq_let c hr.2 hr.1, Int64.ofNat_add, Int64.ofNat_mul]
      rfl
    rw [e]
    exact tq_fw_c32 u _ h.2
theorem tq_fv_num : ∀ (u : List Nat) (a : Nat), u.all tq_dg = true → u.foldl tq_fv (Int32.ofNat a) = Int32.ofNat (u.foldl (fun a c => a * 10 + (c - 48)) a)
  | [], a, _ => rfl
  | c :: u, a, h => by
    rw [List.all_cons, Bool.and_eq_true] at h
    have hr := tq_dgr h.1
    rw [List.foldl_cons, List.foldl_cons]
    have e : tq_fv (Int32.ofNat a) c = Int32.ofNat (a * 10 + (c - 48)) := by
      unfold tq_fv
      rw [if_neg (by rw [hr.2.2]; decide), tq_dig c hr.2.1 hr.1, Int32.ofNat_add, Int32.ofNat_mul]
      rfl
    rw [e]
    exact tq_fv_num u _ h.2
theorem tq_num_lt {u : List Nat} (h : u.all tq_dg = true) (hl : u.length ≤ 2) : tq_num u < 100 := by
  match u, h, hl with
  | [], _, _ => decide
  | [a], h, _ =>
    simp only [List.all_cons, List.all_nil, Bool.and_true] at h
    have := tq_dgr h
    simp only [tq_num, List.foldl_cons, List.foldl_nil]
    omega
  | [a, b], h, _ =>
    simp only [List.all_cons, List.all_nil, Bool.and_true, Bool.and_eq_true] at h
    have h1 := tq_dgr h.1
    have h2 := tq_dgr h.2
    simp only [tq_num, List.foldl_cons, List.foldl_nil]
    omega
  | a :: b :: c :: u, _, hl => simp only [List.length_cons] at hl; omega
/-- numbers of words, last letter first -/
theorem tq_c32_app (u : List Nat) (c : Nat) : tq_c32 (u ++ [c]) = tq_c32 u * 32 + (c - 96) := by
  unfold tq_c32
  rw [List.foldl_append]
  rfl
theorem tq_c256_app (u : List Nat) (c : Nat) : tq_c256 (u ++ [c]) = tq_c256 u * 256 + c := by
  unfold tq_c256
  rw [List.foldl_append]
  rfl
theorem tq_snoc (u : List Nat) : u = [] ∨ ∃ v c, u = v ++ [c] := by
  rcases List.eq_nil_or_concat u with h | ⟨v, c, h⟩
  · exact Or.inl h
  · exact Or.inr ⟨v, c, by rw [h, List.concat_eq_append]⟩
theorem tq_inj32 : ∀ (n : Nat) (u v : List Nat), u.length ≤ n → u.all tq_sm = true → v.all tq_sm = true → tq_c32 u = tq_c32 v → u = v := by
  have h0 : tq_c32 [] = 0 := rfl
  have hz : ∀ v : List Nat, v.all tq_sm = true → tq_c32 v = 0 → v = [] := by
    intro v hv h
    rcases tq_snoc v with rfl | ⟨v', d, rfl⟩
    · rfl
    · rw [List.all_append, Bool.and_eq_true] at hv
      simp only [List.all_cons, List.all_nil, Bool.and_true] at hv
      have := tq_smr hv.2
      rw [tq_c32_app] at h
      omega
  intro n
  induction n with
  | zero =>
    intro u v hn hu hv h
    have e : u = [] := List.length_eq_zero_iff.mp (by omega)
    subst e
    exact (hz v hv (by rw [← h]; exact h0)).symm
  | succ n ih =>
    intro u v hn hu hv h
    rcases tq_snoc u with rfl | ⟨u', c, rfl⟩
    · exact (hz v hv (by rw [← h]; exact h0)).symm
    · rcases tq_snoc v with rfl | ⟨v', d, rfl⟩
      · exact hz _ hu (by rw [h]; exact h0)
      · rw [List.all_append, Bool.and_eq_true] at hu hv
        simp only [List.all_cons, List.all_nil, Bool.and_true] at hu hv
        have hc := tq_smr hu.2
        have hd := tq_smr hv.2
        rw [tq_c32_app, tq_c32_app] at h
        have e1 : c = d := by omega
        have e2 : tq_c32 u' = tq_c32 v' := by omega
        rw [List.length_append] at hn
        simp only [List.length_cons, List.length_nil] at hn
        rw [ih u' v' (by omega) hu.1 hv.1 e2, e1]
theorem tq_inj256 : ∀ (n : Nat) (u v : List Nat), u.length ≤ n → u.all tq_sm = true → v.all tq_sm = true → tq_c256 u = tq_c256 v → u = v := by
  have h0 : tq_c256 [] = 0 := rfl
  have hz : ∀ v : List Nat, v.all tq_sm = true → tq_c256 v = 0 → v = [] := by
    intro v hv h
    rcases tq_snoc v with rfl | ⟨v', d, rfl⟩
    · rfl
    · rw [List.all_append, Bool.and_eq_true] at hv
      simp only [List.all_cons, List.all_nil, Bool.and_true] at hv
      have := tq_smr hv.2
      rw [tq_c256_app] at h
      omega
  intro n
  induction n with
  | zero =>
    intro u v hn hu hv h
    have e : u = [] := List.length_eq_zero_iff.mp (by omega)
    subst e
    exact (hz v hv (by rw [← h]; exact h0)).symm
  | succ n ih =>
    intro u v hn hu hv h
    rcases tq_snoc u with rfl | ⟨u', c, rfl⟩
    · exact (hz v hv (by rw [← h]; exact h0)).symm
    · rcases tq_snoc v with rfl | ⟨v', d, rfl⟩
      · exact hz _ hu (by rw [h]; exact h0)
      · rw [List.all_append, Bool.and_eq_true] at hu hv
        simp only [List.all_cons, List.all_nil, Bool.and_true] at hu hv
        have hc := tq_smr hu.2
        have hd := tq_smr hv.2
        rw [tq_c256_app, tq_c256_app] at h
        have e1 : c = d := by omega
        have e2 : tq_c256 u' = tq_c256 v' := by omega
        rw [List.length_append] at hn
        simp only [List.length_cons, List.length_nil] at hn
        rw [ih u' v' (by omega) hu.1 hv.1 e2, e1]
theorem tq_c32_lt : ∀ (n : Nat) (u : List Nat), u.length = n → u.all tq_sm = true → tq_c32 u < 32 ^ n
  | 0, u, h, _ => by
    rw [List.length_eq_zero_iff.mp h]
    decide
  | n + 1, u, h, hu => by
    rcases tq_snoc u with rfl | ⟨v, c, rfl⟩
    · simp at h
    · rw [List.all_append, Bool.and_eq_true] at hu
      simp only [List.all_cons, List.all_nil, Bool.and_true] at hu
      have hc := tq_smr hu.2
      rw [List.length_append] at h
      simp only [List.length_cons, List.length_nil] at h
      have := tq_c32_lt n v (by omega) hu.1
      rw [tq_c32_app, Nat.pow_succ]
      omega
theorem tq_c32_lt7 {u : List Nat} (hu : u.all tq_sm = true) (hl : u.length ≤ 7) : tq_c32 u < 34359738368 := by
  have h := tq_c32_lt u.length u rfl hu
  have h2 : 32 ^ u.length ≤ 32 ^ 7 := Nat.pow_le_pow_right (by decide) hl
  have e : (32 : Nat) ^ 7 = 34359738368 := by decide
  omega
theorem tq_of64 {a b : Nat} (ha : a < 9223372036854775808) (hb : b < 9223372036854775808) (h : Int64.ofNat a = Int64.ofNat b) : a = b := by
  have h1 : (Int64.ofNat a).toInt = (a : Int) := Int64.toInt_ofNat_of_lt ha
  have h2 : (Int64.ofNat b).toInt = (b : Int) := Int64.toInt_ofNat_of_lt hb
  rw [h] at h1
  omega
theorem tq_kw_ok : ∀ k, k < 29 → (tq_kw.getD k []).all tq_sm = true ∧ (tq_kw.getD k []).length ≤ 7 := by decide
theorem tq_fi_kx {u : List Nat} (hu : u.all tq_sm = true) (hl : u.length ≤ 7) {f : Nat → Int64} (hf : ∀ k, k < 29 → f k = Int64.ofNat (tq_c32 (tq_kw.getD k []))) : tq_fi (fun k => decide (f k = Int64.ofNat (tq_c32 u))) 29 0 = tq_kx u := by
  unfold tq_kx
  refine tq_fi_congr 29 0 (fun k _ hk => ?_)
  have hk : k < 29 := by omega
  have hw := tq_kw_ok k hk
  rw [decide_eq_decide, hf k hk]
  constructor
  · intro h
    exact tq_inj32 _ _ _ (Nat.le_refl _) hw.1 hu (tq_of64 (Nat.lt_of_lt_of_le (tq_c32_lt7 hw.1 hw.2) (by decide)) (Nat.lt_of_lt_of_le (tq_c32_lt7 hu hl) (by decide)) h)
  · intro h
    rw [h]
/-- a TOKEN as the class has it -/
def tq_C (w : pi_W) (t : tq_T) : Prop := (gv w 1 5).toInt = (t.1 : Int) ∧ (gv w 1 6).toInt = (t.2.1 : Int) ∧ (t.1 = 3 ∨ t.1 = 4 → (gv w 1 7).toInt = (t.2.2.1 : Int)) ∧ (t.1 = 2 → gl w 1 8 = Int64.ofNat (tq_c32 t.2.2.2.1)) ∧ (gv w 1 9).toInt = (if t.1 = 2 then tq_kx t.2.2.2.1 else -1) ∧ (2 ≤ t.1 → (gv w 1 4).toInt = (t.2.2.2.2 : Int))
theorem tc_ok {tp : Nat → Nat} {B M i : Nat} {w w' : pi_W} (hV : ∀ k, k < 29 → gl w 3 k = Int64.ofNat (tq_c32 (tq_kw.getD k []))) (h : tc_A tp B M (tq_sk tp B i) w w') : tq_C w' (tq_tok tp B M i) := by
  unfold tq_tok
  generalize tq_sk tp B i = s at *
  obtain ⟨h1, h2⟩ := h
  by_cases hs : B ≤ s ∨ M ≤ s
  · rw [if_pos hs]
    obtain ⟨a, b, c⟩ := h1 hs
    by_cases hm : M < B
    · rw [if_pos hm] at a b
      simp only [if_pos hm]
      exact ⟨a, b, (fun q => by omega), (fun q => by omega), by rw [if_neg (by simp)]; exact c, (fun q => by omega)⟩
    · rw [if_neg hm] at a b
      simp only [if_neg hm]
      exact ⟨a, b, (fun q => by omega), (fun q => by omega), by rw [if_neg (by simp)]; exact c, (fun q => by omega)⟩
  · rw [if_neg hs]
    obtain ⟨a, b, c⟩ := h2 hs
    by_cases hl : tq_ld (tp s) = true
    · rw [if_pos hl]
      obtain ⟨wb, e8, e7, e9, e3, r1, r2, r3⟩ := b hl
      have hld := tq_rn_ld (tp := tp) (B := B) (i := s)
      have hcn := tq_cnt (u := tq_rn tp B s)
      generalize tq_rn tp B s = u at *
      have hfw : u.all tq_sm = true → u.foldl tq_fw (gl wb 1 8) = Int64.ofNat (tq_c32 u) := fun q => by
        rw [e8]
        exact tq_fw_c32 u 0 q
      by_cases hw : u.all tq_sm = true ∧ u.length ≤ 7
      · rw [if_pos hw]
        have hz := tq_all_sm.mp hw.1
        obtain ⟨p1, p2, p3⟩ := r2 ⟨hz, by omega⟩
        rw [hfw hw.1] at p2 p3
        refine ⟨p1, a, (fun q => by omega), (fun _ => p2), ?_, (fun _ => r1)⟩
        rw [if_pos rfl, p3]
        exact tq_fi_kx hw.1 hw.2 (fun k hk => by rw [e3]; exact hV k hk)
      · rw [if_neg hw]
        obtain ⟨p1, p2, p3⟩ := r3 (fun q => hw ⟨tq_all_sm.mpr q.1, by omega⟩)
        by_cases hd : u.all tq_dg = true ∧ u.length ≤ 2
        · rw [if_pos hd]
          have hz := (tq_all_dg hld).mp hd.1
          obtain ⟨z1, z2⟩ := p2 ⟨hz, by omega⟩
          refine ⟨z1, a, (fun _ => ?_), (fun q => by omega), by rw [if_neg (by simp), p1]; exact e9, (fun _ => r1)⟩
          rw [z2, e7]
          have e := tq_fv_num u 0 hd.1
          have hlt := tq_num_lt hd.1 hd.2
          unfold tq_num at hlt ⊢
          rw [show (0 : Int32) = Int32.ofNat 0 from rfl, e]
          exact hn_t (by omega)
        · rw [if_neg hd]
          exact ⟨p3 (fun q => hd ⟨(tq_all_dg hld).mpr q.1, by omega⟩), a, (fun q => by omega), (fun q => by omega), by rw [if_neg (by simp), p1]; exact e9, (fun q => by omega)⟩
    · rw [if_neg hl]
      obtain ⟨p1, p2, p3, p4⟩ := c (by simpa using hl)
      by_cases hg : tq_sg (tp s) = true
      · rw [if_pos hg] at p4
        simp only [if_pos hg]
        exact ⟨p4, a, (fun _ => p2), (fun q => by omega), by rw [if_neg (by simp)]; exact p3, (fun _ => p1)⟩
      · rw [if_neg hg] at p4
        simp only [if_neg hg]
        exact ⟨p4, a, (fun q => by omega), (fun q => by omega), by rw [if_neg (by simp)]; exact p3, (fun q => by omega)⟩
