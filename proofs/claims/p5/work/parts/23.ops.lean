/-! ===== the operations keep what they say ===== -/
theorem af_bm {x : Int} (h1 : af_lo ≤ x) (h2 : x ≤ af_hi) : x.bmod (2 ^ 32) = x := by
  unfold af_lo at h1
  unfold af_hi at h2
  rw [Int.bmod_def]
  split <;> omega
theorem af_ev_add (ρ : Nat → Int) (f g : af_F) : af_ev ρ (f.1 + g.1, f.2 ++ g.2) = af_ev ρ f + af_ev ρ g := by
  simp only [af_ev, List.map_append, List.sum_append]
  omega
theorem af_erase_ok {ρ : Nat → Int} : ∀ {us : List Nat} {v : Nat} {us' : List Nat}, af_erase us v = some us' → (us.map ρ).sum = ρ v + (us'.map ρ).sum ∧ ∀ u ∈ us', u ∈ us
  | [], _, _, h => by cases h
  | u :: us, v, us', h => by
    unfold af_erase at h
    split at h
    · rename_i hu
      have hu : u = v := by simpa using hu
      cases h
      subst hu
      exact ⟨by simp, fun q hq => List.mem_cons_of_mem _ hq⟩
    · split at h
      · cases h
      · rename_i us1 h1
        cases h
        obtain ⟨a, b⟩ := af_erase_ok (ρ := ρ) h1
        refine ⟨?_, fun q hq => ?_⟩
        · simp only [List.map_cons, List.sum_cons]
          omega
        · rcases List.mem_cons.mp hq with rfl | hq
          · exact List.mem_cons_self
          · exact List.mem_cons_of_mem _ (b q hq)
theorem af_diff_ok {ρ : Nat → Int} : ∀ {vs us us' : List Nat}, af_diff us vs = some us' → (us.map ρ).sum = (vs.map ρ).sum + (us'.map ρ).sum ∧ ∀ u ∈ us', u ∈ us
  | [], us, us', h => by
    unfold af_diff at h
    cases h
    exact ⟨by simp, fun q hq => hq⟩
  | v :: vs, us, us', h => by
    unfold af_diff at h
    split at h
    · cases h
    · rename_i us1 h1
      obtain ⟨a, b⟩ := af_erase_ok (ρ := ρ) h1
      obtain ⟨a2, b2⟩ := af_diff_ok (ρ := ρ) h
      refine ⟨?_, fun q hq => b q (b2 q hq)⟩
      simp only [List.map_cons, List.sum_cons]
      omega
theorem af_less_ok {ρ : Nat → Int} {f g k : af_F} (h : af_less f g = some k) : af_ev ρ k = af_ev ρ f - af_ev ρ g ∧ ∀ n, af_wf n f → af_wf n k := by
  unfold af_less at h
  split at h
  · cases h
  · rename_i us h1
    cases h
    obtain ⟨a, b⟩ := af_diff_ok (ρ := ρ) h1
    refine ⟨?_, fun n hn v hv => hn v (b v hv)⟩
    simp only [af_ev]
    omega
section AFB
variable {Sh : af_H} {n : Nat} {ρ : Nat → Int} {N : af_N} {f g : af_F} {x y : Int32}
theorem af_wf_app (hf : af_wf n f) (hg : af_wf n g) (k : Int) : af_wf n (k, f.2 ++ g.2) := fun v hv => (List.mem_append.mp hv).elim (hf v) (hg v)
theorem af_add_ok (hK : af_Kn n ρ Sh N) (hf : af_wf n f) (hg : af_wf n g) (hx : x.toInt = af_ev ρ f) (hy : y.toInt = af_ev ρ g) : af_Rs n ρ (af_add N f g) (x + y) := by
  unfold af_add
  split
  · rename_i a b c d h1 h2
    have q1 := af_iv_ok hK h1
    have q2 := af_iv_ok hK h2
    split
    · rename_i hr
      have e : (x + y).toInt = x.toInt + y.toInt := by
        rw [Int32.toInt_add]
        exact af_bm (by omega) (by omega)
      split
      · exact ⟨af_wf_app hf hg _, by rw [af_ev_add]; omega⟩
      · exact ⟨by omega, by omega⟩
    · exact af_Rs.full n ρ _
  · exact af_Rs.full n ρ _
theorem af_subt_ok (hK : af_Kn n ρ Sh N) (hf : af_wf n f) (hx : x.toInt = af_ev ρ f) (hy : y.toInt = af_ev ρ g) : af_Rs n ρ (af_subt N f g) (x - y) := by
  unfold af_subt
  split
  · rename_i a b c d h1 h2
    have q1 := af_iv_ok hK h1
    have q2 := af_iv_ok hK h2
    split
    · rename_i hr
      have e : (x - y).toInt = x.toInt - y.toInt := by
        rw [Int32.toInt_sub]
        exact af_bm (by omega) (by omega)
      split
      · rename_i k hk
        have h3 := af_less_ok (ρ := ρ) hk
        exact ⟨h3.2 n hf, by rw [h3.1]; omega⟩
      · exact ⟨by omega, by omega⟩
    · exact af_Rs.full n ρ _
  · exact af_Rs.full n ρ _
theorem af_mulb {a b c d u v : Int} (h1 : a ≤ u) (h2 : u ≤ b) (h3 : c ≤ v) (h4 : v ≤ d) : af_min4 (a * c) (a * d) (b * c) (b * d) ≤ u * v ∧ u * v ≤ af_max4 (a * c) (a * d) (b * c) (b * d) := by
  have ha : (a * c ≤ a * v ∧ a * v ≤ a * d) ∨ (a * d ≤ a * v ∧ a * v ≤ a * c) := by
    rcases Int.le_total 0 a with h | h
    · exact Or.inl ⟨Int.mul_le_mul_of_nonneg_left h3 h, Int.mul_le_mul_of_nonneg_left h4 h⟩
    · exact Or.inr ⟨Int.mul_le_mul_of_nonpos_left h h4, Int.mul_le_mul_of_nonpos_left h h3⟩
  have hb : (b * c ≤ b * v ∧ b * v ≤ b * d) ∨ (b * d ≤ b * v ∧ b * v ≤ b * c) := by
    rcases Int.le_total 0 b with h | h
    · exact Or.inl ⟨Int.mul_le_mul_of_nonneg_left h3 h, Int.mul_le_mul_of_nonneg_left h4 h⟩
    · exact Or.inr ⟨Int.mul_le_mul_of_nonpos_left h h4, Int.mul_le_mul_of_nonpos_left h h3⟩
  have hv : (a * v ≤ u * v ∧ u * v ≤ b * v) ∨ (b * v ≤ u * v ∧ u * v ≤ a * v) := by
    rcases Int.le_total 0 v with h | h
    · exact Or.inl ⟨Int.mul_le_mul_of_nonneg_right h1 h, Int.mul_le_mul_of_nonneg_right h2 h⟩
    · exact Or.inr ⟨Int.mul_le_mul_of_nonpos_right h2 h, Int.mul_le_mul_of_nonpos_right h1 h⟩
  unfold af_min4 af_max4
  dsimp only
  generalize a * c = p1 at *
  generalize a * d = p2 at *
  generalize b * c = p3 at *
  generalize b * d = p4 at *
  generalize a * v = p5 at *
  generalize b * v = p6 at *
  generalize u * v = p7 at *
  constructor
  · repeat' split
    all_goals omega
  · repeat' split
    all_goals omega
theorem af_rng_ok {lo hi : Int} (h1 : lo ≤ x.toInt) (h2 : x.toInt ≤ hi) : af_Rs n ρ (af_rng lo hi) x := by
  unfold af_rng
  split
  · exact ⟨h1, h2⟩
  · exact af_Rs.full n ρ x
theorem af_mul_ok (hK : af_Kn n ρ Sh N) (hx : x.toInt = af_ev ρ f) (hy : y.toInt = af_ev ρ g) : af_Rs n ρ (af_mul N f g) (x * y) := by
  unfold af_mul
  split
  · rename_i a b c d h1 h2
    have q1 := af_iv_ok hK h1
    have q2 := af_iv_ok hK h2
    rw [← hx] at q1
    rw [← hy] at q2
    have q3 := af_mulb q1.1 q1.2 q2.1 q2.2
    have e := Int32.toInt_mul x y
    split
    · rename_i hr
      obtain ⟨r1, r2, r3, r4⟩ := hr
      have e1 : x.toInt = a := by omega
      have e2 : y.toInt = c := by omega
      refine ⟨af_wf_c n _, ?_⟩
      rw [af_ev_c, e, e1, e2]
      exact af_bm r3 r4
    · unfold af_rng
      split
      · rename_i hr
        have e3 : (x * y).toInt = x.toInt * y.toInt := by
          rw [e]
          exact af_bm (Int.le_trans hr.1 q3.1) (Int.le_trans q3.2 hr.2)
        exact ⟨by rw [e3]; exact q3.1, by rw [e3]; exact q3.2⟩
      · exact af_Rs.full n ρ _
  · exact af_Rs.full n ρ _
theorem af_tn (x : Int32) : x.toInt = if 2 * x.toBitVec.toNat < 2 ^ 32 then (x.toBitVec.toNat : Int) else (x.toBitVec.toNat : Int) - 2 ^ 32 := by
  show x.toBitVec.toInt = _
  rw [BitVec.toInt_eq_toNat_cond]
  simp
theorem af_tn0 {x : Int32} (h : 0 ≤ x.toInt) : x.toInt = (x.toBitVec.toNat : Int) ∧ x.toBitVec.toNat < 2 ^ 31 := by
  have h1 := af_tn x
  have h2 := x.toBitVec.isLt
  split at h1 <;> omega
theorem af_tn1 {x : Int32} (h : x.toBitVec.toNat < 2 ^ 31) : x.toInt = (x.toBitVec.toNat : Int) := by
  have h1 := af_tn x
  split at h1 <;> omega
theorem af_and_r (x y : Int32) (h : 0 ≤ y.toInt) : 0 ≤ (x &&& y).toInt ∧ (x &&& y).toInt ≤ y.toInt := by
  obtain ⟨h1, h2⟩ := af_tn0 h
  have h3 : (x &&& y).toBitVec.toNat ≤ y.toBitVec.toNat := by
    rw [Int32.toBitVec_and, BitVec.toNat_and]
    exact Nat.and_le_right
  have h4 := af_tn1 (x := x &&& y) (by omega)
  omega
theorem af_and_l (x y : Int32) (h : 0 ≤ x.toInt) : 0 ≤ (x &&& y).toInt ∧ (x &&& y).toInt ≤ x.toInt := by
  obtain ⟨h1, h2⟩ := af_tn0 h
  have h3 : (x &&& y).toBitVec.toNat ≤ x.toBitVec.toNat := by
    rw [Int32.toBitVec_and, BitVec.toNat_and]
    exact Nat.and_le_left
  have h4 := af_tn1 (x := x &&& y) (by omega)
  omega
theorem af_and_ok (hK : af_Kn n ρ Sh N) (hx : x.toInt = af_ev ρ f) (hy : y.toInt = af_ev ρ g) : af_Rs n ρ (af_and N f g) (x &&& y) := by
  unfold af_and
  split
  · rename_i a b c d h1 h2
    have q1 := af_iv_ok hK h1
    have q2 := af_iv_ok hK h2
    split
    · have r := af_and_r x y (by omega)
      split
      · have r2 := af_and_l x y (by omega)
        refine ⟨r.1, ?_⟩
        split <;> omega
      · exact ⟨r.1, by omega⟩
    · split
      · have r2 := af_and_l x y (by omega)
        exact ⟨r2.1, by omega⟩
      · exact af_Rs.full n ρ _
  · exact af_Rs.full n ρ _
theorem af_rem_ok (hK : af_Kn n ρ Sh N) (hx : x.toInt = af_ev ρ f) (hy : y.toInt = af_ev ρ g) {r : af_R} (h : af_rem N f g = some r) : ¬ y = 0 ∧ af_Rs n ρ r (x - x / y * y) := by
  unfold af_rem at h
  split at h
  · rename_i a b c d h1 h2
    have q1 := af_iv_ok hK h1
    have q2 := af_iv_ok hK h2
    split at h
    · rename_i hc
      have hy0 : ¬ y = 0 := by
        rintro rfl
        rw [Int32.toInt_zero] at hy
        omega
      refine ⟨hy0, ?_⟩
      split at h
      · cases h
        have nx : ¬ x < 0 := by rw [Int32.lt_iff_toInt_lt, Int32.toInt_zero]; omega
        have ny : ¬ y < 0 := by rw [Int32.lt_iff_toInt_lt, Int32.toInt_zero]; omega
        obtain ⟨i, hi, rfl⟩ := nI_of nx
        obtain ⟨j, hj, rfl⟩ := nI_of ny
        rw [nI_toInt hi] at hx
        rw [nI_toInt hj] at hy
        have hj0 : 0 < j := by omega
        rw [pk_rem hi hj0 hj]
        have hm : i % j < j := Nat.mod_lt _ hj0
        have hm2 : i % j ≤ i := Nat.mod_le _ _
        have e := nI_toInt (n := i % j) (by omega)
        refine ⟨by omega, ?_⟩
        split <;> omega
      · cases h
        exact af_Rs.full n ρ _
    · cases h
  · cases h
theorem af_ushr_ok (hK : af_Kn n ρ Sh N) (hy : y.toInt = af_ev ρ g) : af_Rs n ρ (af_ushr N g) ((x.toUInt32 >>> (y.toUInt32 &&& Int32.toUInt32 31)).toInt32) := by
  unfold af_ushr
  split
  · rename_i c d h2
    have q2 := af_iv_ok hK h2
    split
    · rename_i hc
      have e : y = 8 := by
        apply Int32.toInt_inj.mp
        have : (8 : Int32).toInt = 8 := by decide
        omega
      subst e
      have h3 := pk_ushr x 8 8 (by decide)
      have h4 := x.toBitVec.isLt
      have h5 := af_tn1 (x := (x.toUInt32 >>> ((8 : Int32).toUInt32 &&& Int32.toUInt32 31)).toInt32) (by omega)
      exact ⟨by omega, by omega⟩
    · exact af_Rs.full n ρ _
  · exact af_Rs.full n ρ _
theorem af_clip_ok (hK : af_Kn n ρ Sh N) (hf : af_wf n f) {lo hi : Int} (h1 : lo ≤ af_ev ρ f) (h2 : af_ev ρ f ≤ hi) : ∃ N', af_clip N f lo hi = some N' ∧ af_Kn n ρ Sh N' := by
  unfold af_clip
  split
  · exact ⟨N, rfl, hK⟩
  · rename_i a b hq
    have q := af_iv_ok hK hq
    split
    · omega
    · split
      · exact ⟨N, rfl, hK⟩
      · split
        · rename_i v hv
          obtain ⟨c, vs⟩ := f
          dsimp only at hv
          subst hv
          rw [af_ev_1] at q h1 h2
          refine ⟨_, rfl, hK.bn (hf v List.mem_cons_self) ?_ ?_⟩
          · dsimp only
            split <;> omega
          · dsimp only
            split <;> omega
        · exact ⟨N, rfl, hK⟩
theorem af_two_ok (hK : af_Kn n ρ Sh N) (hf : af_wf n f) (hg : af_wf n g) {lo hi lo2 hi2 : Int} (h1 : lo ≤ af_ev ρ f) (h2 : af_ev ρ f ≤ hi) (h3 : lo2 ≤ af_ev ρ g) (h4 : af_ev ρ g ≤ hi2) : ∃ N', af_two N f lo hi g lo2 hi2 = some N' ∧ af_Kn n ρ Sh N' := by
  obtain ⟨N1, e1, k1⟩ := af_clip_ok hK hf h1 h2
  unfold af_two
  rw [e1]
  exact af_clip_ok k1 hg h3 h4
theorem af_cmp_ok (hK : af_Kn n ρ Sh N) (hf : af_wf n f) (hg : af_wf n g) (hx : x.toInt = af_ev ρ f) (hy : y.toInt = af_ev ρ g) {cd : ClassFile.Cond} (h : pi_cmp cd x y = true) : ∃ N', af_cmp N cd f g = some N' ∧ af_Kn n ρ Sh N' := by
  unfold af_cmp
  split
  · rename_i a b c d h1 h2
    have q1 := af_iv_ok hK h1
    have q2 := af_iv_ok hK h2
    cases cd
    · have h : x = y := of_decide_eq_true h
      subst h
      exact af_two_ok hK hf hg (by omega) (by omega) (by omega) (by omega)
    · have h : ¬ x = y := of_decide_eq_true h
      have hne : x.toInt ≠ y.toInt := fun e => h (Int32.toInt_inj.mp e)
      dsimp only
      split
      · split
        · exact af_clip_ok hK hf (by omega) (by omega)
        · split
          · exact af_clip_ok hK hf (by omega) (by omega)
          · exact ⟨N, rfl, hK⟩
      · split
        · split
          · exact af_clip_ok hK hg (by omega) (by omega)
          · split
            · exact af_clip_ok hK hg (by omega) (by omega)
            · exact ⟨N, rfl, hK⟩
        · exact ⟨N, rfl, hK⟩
    · have h : x < y := of_decide_eq_true h
      rw [Int32.lt_iff_toInt_lt] at h
      exact af_two_ok hK hf hg (by omega) (by omega) (by omega) (by omega)
    · have h : y ≤ x := of_decide_eq_true h
      rw [Int32.le_iff_toInt_le] at h
      exact af_two_ok hK hf hg (by omega) (by omega) (by omega) (by omega)
    · have h : y < x := of_decide_eq_true h
      rw [Int32.lt_iff_toInt_lt] at h
      exact af_two_ok hK hf hg (by omega) (by omega) (by omega) (by omega)
    · have h : x ≤ y := of_decide_eq_true h
      rw [Int32.le_iff_toInt_le] at h
      exact af_two_ok hK hf hg (by omega) (by omega) (by omega) (by omega)
  · exact ⟨N, rfl, hK⟩
theorem af_neg_ok {cd : ClassFile.Cond} (h : ¬ pi_cmp cd x y = true) : pi_cmp (af_neg cd) x y = true := by
  cases cd
  · exact decide_eq_true (fun e => h (decide_eq_true e))
  · refine decide_eq_true ?_
    rcases decEq x y with e | e
    · exact absurd (decide_eq_true e) h
    · exact e
  · refine decide_eq_true ?_
    have h : ¬ x < y := fun e => h (decide_eq_true e)
    rw [Int32.lt_iff_toInt_lt] at h
    rw [Int32.le_iff_toInt_le]
    omega
  · refine decide_eq_true ?_
    have h : ¬ y ≤ x := fun e => h (decide_eq_true e)
    rw [Int32.le_iff_toInt_le] at h
    rw [Int32.lt_iff_toInt_lt]
    omega
  · refine decide_eq_true ?_
    have h : ¬ y < x := fun e => h (decide_eq_true e)
    rw [Int32.lt_iff_toInt_lt] at h
    rw [Int32.le_iff_toInt_le]
    omega
  · refine decide_eq_true ?_
    have h : ¬ x ≤ y := fun e => h (decide_eq_true e)
    rw [Int32.le_iff_toInt_le] at h
    rw [Int32.lt_iff_toInt_lt]
    omega
end AFB
