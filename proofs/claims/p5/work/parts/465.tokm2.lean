/-! ===== the model's reader against tq_tok: pure ===== -/
theorem tq_i8 : ((Int8.ofInt 8).toInt32.toInt64 &&& 63) = 8 := by decide
theorem tq_c64 : ∀ c, c < 256 → (Int32.ofNat c).toInt64 = Int64.ofNat c := by decide +kernel
theorem tq_sh8 {a c : Nat} (ha : a < 281474976710656) (hc : c < 256) : Int64.ofNat a <<< (8 : Int64) ||| Int64.ofNat c = Int64.ofNat (a * 256 + c) := by
  apply Int64.toBitVec_inj.mp
  rw [Int64.toBitVec_or, Int64.toBitVec_shiftLeft, Int64.toBitVec_ofNat', Int64.toBitVec_ofNat', Int64.toBitVec_ofNat']
  apply BitVec.eq_of_toNat_eq
  have e : ((8 : Int64).toBitVec.smod 64) = 8#64 := by decide
  rw [e, BitVec.toNat_or, BitVec.shiftLeft_eq', BitVec.toNat_shiftLeft, BitVec.toNat_ofNat, BitVec.toNat_ofNat, BitVec.toNat_ofNat, BitVec.toNat_ofNat]
  rw [Nat.mod_eq_of_lt (a := a) (by omega), Nat.mod_eq_of_lt (a := c) (by omega), Nat.mod_eq_of_lt (a := a * 256 + c) (by omega), Nat.mod_eq_of_lt (a := 8) (by decide)]
  have h1 : a <<< 8 = a * 256 := by rw [Nat.shiftLeft_eq]
  rw [h1, Nat.mod_eq_of_lt (by omega), ← h1, ← Nat.shiftLeft_add_eq_or_of_lt (by omega : c < 2 ^ 8)]
theorem tq_gw_c256 : ∀ (u : List Nat) (s a : Nat), s + u.length ≤ 7 → a < 256 ^ s → (∀ c ∈ u, c < 256) → tq_gw s (Int64.ofNat a) u = Int64.ofNat (u.foldl (fun a c => a * 256 + c) a)
  | [], _, a, _, _, _ => rfl
  | c :: u, s, a, h, ha, hu => by
    have hc := hu c List.mem_cons_self
    simp only [List.length_cons] at h
    have h6 : 256 ^ s ≤ 256 ^ 6 := Nat.pow_le_pow_right (by decide) (by omega)
    have e6 : (256 : Nat) ^ 6 = 281474976710656 := by decide
    rw [tq_gw, if_pos (by omega), tq_i8, tq_c64 c hc, tq_sh8 (by omega) hc, List.foldl_cons]
    refine tq_gw_c256 u (s + 1) (a * 256 + c) (by omega) ?_ (fun x hx => hu x (List.mem_cons_of_mem _ hx))
    rw [Nat.pow_succ]
    omega
theorem tq_gn_num {u : List Nat} (h : u.all tq_dg = true) (hl : u.length ≤ 2) : tq_gn 0 0 u = Int32.ofNat (tq_num u) := by
  have e10 : (Int8.ofInt 10).toInt32 = Int32.ofNat 10 := by decide
  have hs : ∀ a c, 48 ≤ c ∧ c < 58 → (Int8.ofInt 10).toInt32 * Int32.ofNat a + Int32.ofNat c - (Int8.ofInt 48).toInt32 = Int32.ofNat (a * 10 + (c - 48)) := by
    intro a c hc
    rw [Int32.ofNat_add, Int32.ofNat_mul, ← tq_dig c hc.2 hc.1, e10]
    rw [Int32.mul_comm (Int32.ofNat 10), Int32.sub_eq_add_neg, Int32.sub_eq_add_neg, Int32.add_assoc]
  match u, h, hl with
  | [], _, _ => rfl
  | [a], h, _ =>
    simp only [List.all_cons, List.all_nil, Bool.and_true] at h
    have h1 := tq_dgr h
    simp only [tq_gn, tq_num, List.foldl_cons, List.foldl_nil]
    rw [if_pos (by decide)]
    exact hs 0 a ⟨h1.1, h1.2.1⟩
  | [a, b], h, _ =>
    simp only [List.all_cons, List.all_nil, Bool.and_true, Bool.and_eq_true] at h
    have h1 := tq_dgr h.1
    have h2 := tq_dgr h.2
    simp only [tq_gn, tq_num, List.foldl_cons, List.foldl_nil]
    rw [if_pos (by decide), if_pos (by decide)]
    have e := hs 0 a ⟨h1.1, h1.2.1⟩
    have e2 := hs (0 * 10 + (a - 48)) b ⟨h2.1, h2.2.1⟩
    rw [← e] at e2
    exact e2
  | a :: b :: c :: u, _, hl => simp only [List.length_cons] at hl; omega
def tq_mk (k : Nat) : Int := if k = 0 then 0 else if k = 1 then 4 else (k : Int) - 1
/-- a TOKEN as the model has it -/
def tq_M (w : pi_W) (t : tq_T) : Prop := (gv w 61 11).toInt = tq_mk t.1 ∧ (gv w 61 12).toInt = (t.2.1 : Int) ∧ (t.1 = 3 ∨ t.1 = 4 → (gv w 61 14).toInt = (t.2.2.1 : Int)) ∧ (t.1 = 2 → gl w 61 17 = Int64.ofNat (tq_c256 t.2.2.2.1)) ∧ (2 ≤ t.1 → (gv w 61 4).toInt = (t.2.2.2.2 : Int))
theorem tm_ok {tp : Nat → Nat} {B M i : Nat} {w' : pi_W} (hb : tq_sk tp B i ≤ B) (h : tm_A tp B M (tq_sk tp B i) w') : tq_M w' (tq_tok tp B M i) := by
  unfold tq_tok
  generalize tq_sk tp B i = s at *
  obtain ⟨h1, h2⟩ := h
  by_cases hm : M < B ∧ M ≤ s
  · obtain ⟨a, b⟩ := h1 hm
    rw [if_pos (Or.inr hm.2)]
    simp only [if_pos hm.1]
    exact ⟨a, b, (fun q => by omega), (fun q => by omega), (fun q => by omega)⟩
  · obtain ⟨a, b, c, e⟩ := h2 hm
    by_cases hs : B ≤ s
    · rw [if_pos (Or.inl hs)]
      have h3 : ¬ M < B := by omega
      simp only [if_neg h3]
      have es : s = B := by omega
      subst es
      exact ⟨b (Nat.le_refl _), a, (fun q => by omega), (fun q => by omega), (fun q => by omega)⟩
    · rw [if_neg (by omega)]
      by_cases hl : tq_ld (tp s) = true
      · rw [if_pos hl]
        obtain ⟨p1, p2, p3, p4⟩ := c (by omega) hl
        have hu := tq_rn_go (tp := tp) (B := B) (i := s) (by omega) hl
        have hld := tq_rn_ld (tp := tp) (B := B) (i := s)
        obtain ⟨v, hv⟩ : ∃ v, tq_rn tp B s = tp s :: v := ⟨_, hu⟩
        clear hu
        generalize hgu : tq_rn tp B s = u at *
        clear hgu
        generalize hc : tp s = c0 at *
        have hh : u.all tq_sm = true → tq_sm c0 = true := fun q => by
          rw [hv, List.all_cons, Bool.and_eq_true] at q
          exact q.1
        have hh2 : u.all tq_dg = true → tq_sm c0 = false := fun q => by
          rw [hv, List.all_cons, Bool.and_eq_true] at q
          exact (tq_dgr q.1).2.2
        have hx : ∀ b : Bool, u.all (fun c => tq_sm c == b) = true → tq_sm c0 = b := fun b q => by
          rw [hv, List.all_cons, Bool.and_eq_true] at q
          simpa using q.1
        by_cases hw : u.all tq_sm = true ∧ u.length ≤ 7
        · rw [if_pos hw]
          have e0 := hh hw.1
          rw [e0] at p2
          have ea : u.all (fun c => tq_sm c == true) = true := by simpa using hw.1
          rw [ea] at p2
          have et : tq_tk true true u.length = 1 := by
            unfold tq_tk
            rw [if_pos ⟨rfl, by simpa using hw.2⟩]
            rfl
          rw [et] at p2
          refine ⟨p2, a, (fun q => by omega), (fun _ => ?_), (fun _ => p1)⟩
          rw [p3]
          refine tq_gw_c256 u 0 0 (by omega) (by decide) (fun x hx => ?_)
          have := tq_smr (List.all_eq_true.mp hw.1 x hx)
          omega
        · rw [if_neg hw]
          by_cases hd : u.all tq_dg = true ∧ u.length ≤ 2
          · rw [if_pos hd]
            have e0 := hh2 hd.1
            rw [e0] at p2
            have ea : u.all (fun c => tq_sm c == false) = true := by
              rw [List.all_eq_true]
              intro x hx
              rw [(tq_dgr (List.all_eq_true.mp hd.1 x hx)).2.2]
              rfl
            rw [ea] at p2
            have et : tq_tk false true u.length = 2 := by
              unfold tq_tk
              rw [if_pos ⟨rfl, by simpa using hd.2⟩]
              rfl
            rw [et] at p2
            refine ⟨p2, a, (fun _ => ?_), (fun q => by omega), (fun _ => p1)⟩
            have := tq_num_lt hd.1 hd.2
            rw [p4, tq_gn_num hd.1 hd.2]
            exact hn_t (by omega)
          · rw [if_neg hd]
            have et : tq_tk (tq_sm c0) (u.all (fun c => tq_sm c == tq_sm c0)) u.length = 4 := by
              unfold tq_tk
              rw [if_neg]
              rintro ⟨q1, q2⟩
              cases e1 : tq_sm c0 with
              | true =>
                rw [e1] at q1 q2
                exact hw ⟨by simpa using q1, by simpa using q2⟩
              | false =>
                rw [e1] at q1 q2
                refine hd ⟨?_, by simpa using q2⟩
                rw [List.all_eq_true] at q1 hld ⊢
                intro x hx
                rw [tq_sm_dg (hld x hx)]
                have := q1 x hx
                simpa using this
            rw [et] at p2
            exact ⟨p2, a, (fun q => by omega), (fun q => by omega), (fun q => by omega)⟩
      · rw [if_neg hl]
        obtain ⟨p1, p2, p3⟩ := e (by omega) (by simpa using hl)
        by_cases hg : tq_sg (tp s) = true
        · rw [if_pos hg] at p3
          simp only [if_pos hg]
          exact ⟨p3, a, (fun _ => p2), (fun q => by omega), (fun _ => p1)⟩
        · rw [if_neg hg] at p3
          simp only [if_neg hg]
          exact ⟨p3, a, (fun q => by omega), (fun q => by omega), (fun q => by omega)⟩
