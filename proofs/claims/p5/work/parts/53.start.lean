/-! ===== the law's start ===== -/
theorem lw_150 : pi_bytes.length = 150 := by decide +kernel
theorem lw_150i : Int32.ofNat pi_bytes.length = 150 := by decide +kernel
theorem lw_nest : ∀ w ∈ pi_nest, w.onTables = true ∧ w ∈ lw_tbl := by decide +kernel
def lw_isE (c : Cond) : Bool := match c with
  | .eq (.elem (.field (.string _ _) _ _ _) (.int _)) (.int _) => true
  | _ => false
theorem lw_elL : (flatC (Jvm.Cond.and given_1 narrow_1)).filter lw_isE = (List.range 150).map (fun j => (Cond.eq (.elem (.field (.string "ReadBound$Tokens" 19) "java/lang/String" "value" "[B") (.int (Int32.ofNat j))) (.int (pi_bytes.getD j 0)))) := by decide +kernel
theorem lw_el (j : Nat) (hj : j < 150) : (Cond.eq (.elem (.field (.string "ReadBound$Tokens" 19) "java/lang/String" "value" "[B") (.int (Int32.ofNat j))) (.int (pi_bytes.getD j 0))) ∈ flatC (Jvm.Cond.and given_1 narrow_1) := by
  have h : (Cond.eq (.elem (.field (.string "ReadBound$Tokens" 19) "java/lang/String" "value" "[B") (.int (Int32.ofNat j))) (.int (pi_bytes.getD j 0))) ∈ (flatC (Jvm.Cond.and given_1 narrow_1)).filter lw_isE := by
    rw [lw_elL]
    exact List.mem_map.mpr ⟨j, List.mem_range.mpr hj, rfl⟩
  exact (List.mem_filter.mp h).1
theorem kw_118 : Cond.stringRef "ReadBound$Tokens" 19 pi_text ∈ lw_tbl := by decide +kernel
theorem kw_128 : Cond.laysStatic "java/lang/String" "COMPACT_STRINGS" "Z" ∈ lw_tbl := by decide +kernel
theorem kw_144 : Cond.laysStatic "jdk/internal/util/Preconditions" "SIOOBE_FORMATTER" "Ljava/util/function/BiFunction;" ∈ lw_tbl := by decide +kernel
theorem lw_arr {s : State} {args : Array Value} {ty : FieldType} (hts : ∀ w ∈ lw_tbl, w.before args s = true) (h : Cond.arrayClass ty ∈ lw_tbl) (hn : ∀ C, ty ≠ .object C) : ∃ cA : ClassId, ArrOfT s cA ty ∧ va_RA s cA ty := by
  obtain ⟨cA, kA, comp, h1, h2, h3⟩ := Cond.arrayClass_spec (hts _ h)
  refine ⟨cA, fun n z => ⟨fun k h => (by cases h), kA, h2, comp, h3⟩, ?_⟩
  cases ty with
  | object C => exact absurd rfl (hn C)
  | _ => exact h1
theorem lw_K0 {p : Program} {s : State} {m : MethodId} {meth : Method} {c : Code} {b L : Nat} {xs : Nat → Int32} (C0 : lw_At p s m meth c b L xs) : ∃ (D : va_G) (cA : Nat → ClassId) (sa sv : Nat), pi_K D cA sa sv (fun q => s.heap.size ≤ q) s := by
  obtain ⟨hx, hb, hr, hml, hown, hts, hX, hbl, hlocks, hgv⟩ := C0
  have hA : ∀ a : Nat, a < s.heap.size → ¬ (fun q => s.heap.size ≤ q) a := fun a h => Nat.not_le.mpr h
  have hs := flat_of_before _ hgv
  obtain ⟨c0, hc0, hc0'⟩ := lw_arr hts wd_aI (fun C h => by cases h)
  obtain ⟨c1, hc1, hc1'⟩ := lw_arr hts wd_aB (fun C h => by cases h)
  obtain ⟨c2, hc2, hc2'⟩ := lw_arr hts wd_aL (fun C h => by cases h)
  obtain ⟨c3, hc3, hc3'⟩ := lw_arr hts wd_aZ (fun C h => by cases h)
  have h0 : ∀ k : Nat, ∃ q : ClassId × (Nat → Nat), ∀ r, vwCl[k]? = some r → u_Kn s r.1 r.2.1 r.2.2 q.1 q.2 := by
    intro k
    cases h : vwCl[k]? with
    | none => exact ⟨(c0, fun _ => 0), fun r hr => by cases hr⟩
    | some r =>
      obtain ⟨C, T, n⟩ := r
      have hc := lc_all h
      obtain ⟨cC, iS, hk⟩ := u_known (n := n) hts hc.2.1 (hts _ hc.2.2.2.2.1)
      exact ⟨(cC, iS), fun r hr => by cases hr; exact hk⟩
  obtain ⟨f, hf⟩ := Classical.axiomOfChoice h0
  obtain ⟨bs, hbs⟩ : ∃ bs : List Int32, bs = pi_bytes := ⟨_, rfl⟩
  have hb1 : bs.length = 150 := by rw [hbs]; exact lw_150
  have hb2 : Int32.ofNat bs.length = 150 := by rw [hb1]; rfl
  have hb3 : ∀ j, bs.getD j 0 = pi_bytes.getD j 0 := fun j => by rw [hbs]
  obtain ⟨adK, adV, hSt, hev⟩ := vk_Sof (args := #[Value.ref b]) (s := s) (N := 1) (tm := fun _ => .string "ReadBound$Tokens" 19) (len := [bs.length]) (byt := [bs]) (A := fun q => s.heap.size ≤ q)
    (fun i hi => by
      have e : i = 0 := by omega
      subst e
      show bs.length < 2 ^ 31
      rw [hb1]
      decide)
    (fun i hi => hs _ (by decide +kernel)) (fun i hi => hs _ (by decide +kernel)) (fun i hi => hs _ (by decide +kernel))
    (fun i hi => by
      have e : i = 0 := by omega
      subst e
      show (Cond.eq _ (.int (Int32.ofNat bs.length))).before _ _ = true
      rw [hb2]
      exact hs _ (by decide +kernel))
    (fun i hi j hj => by
      have e : i = 0 := by omega
      subst e
      have hj2 : j < bs.length := hj
      rw [hb1] at hj2
      show (Cond.eq _ (.int (bs.getD j 0))).before _ _ = true
      rw [hb3]
      exact hs _ (lw_el j hj2))
    (fun i j hi hj hn => absurd (by omega) hn) hA
  rw [hbs] at hSt
  refine ⟨(fun k => (f k).1, fun k => (f k).2), fun k => if k = 0 then c0 else if k = 1 then c1 else if k = 2 then c2 else c3, adK 0, adV 0, ⟨fun k q hq => hf k q hq, ?_⟩, fun w hw => va_Nw.of (lw_nest w hw).1 (hts w (lw_nest w hw).2), vk_R.of (hts _ kw_118) (hev 0 (by decide)), ?_, va_Zof (hts _ kw_128) (hts _ kw_iS) (va_eqt (hs _ (by decide +kernel))) hA, va_Zqof (hts _ kw_144) (hts _ kw_iP) (hs _ (by decide +kernel)) hA⟩
  · intro k q hq
    match k, hq with
    | 0, hq => cases hq; exact ⟨hc0, hc0'⟩
    | 1, hq => cases hq; exact ⟨hc1, hc1'⟩
    | 2, hq => cases hq; exact ⟨hc2, hc2'⟩
    | 3, hq => cases hq; exact ⟨hc3, hc3'⟩
    | k + 4, hq => simp [pi_tys] at hq
  · refine ⟨fun i hi => ?_, fun i j hi hj _ => by omega⟩
    have e : i = 0 := by omega
    subst e
    exact hSt.1 0 hi
