theorem hw_f0 : pi_fetch mc_250 0 = some (.iload_n 1, 1) := rfl
theorem hw_f1 : pi_fetch mc_250 1 = some (.iload_n 2, 1) := rfl
theorem hw_f2 : pi_fetch mc_250 2 = some (.if_icmp .ne 5, 3) := rfl
theorem hw_f5 : pi_fetch mc_250 5 = some (.iconst 0, 1) := rfl
theorem hw_f6 : pi_fetch mc_250 6 = some (.ireturn, 1) := rfl
theorem hw_f7 : pi_fetch mc_250 7 = some (.aload_n 0, 1) := rfl
theorem hw_f8 : pi_fetch mc_250 8 = some (.iload_n 2, 1) := rfl
theorem hw_f9 : pi_fetch mc_250 9 = some (.iload_n 3, 1) := rfl
theorem hw_f10 : pi_fetch mc_250 10 = some (.invokevirtual 361, 3) := rfl
theorem hw_f13 : pi_fetch mc_250 13 = some (.ifCond .ne 5, 3) := rfl
theorem hw_f16 : pi_fetch mc_250 16 = some (.iconst (-1), 1) := rfl
theorem hw_f17 : pi_fetch mc_250 17 = some (.ireturn, 1) := rfl
theorem hw_f18 : pi_fetch mc_250 18 = some (.iconst 0, 1) := rfl
theorem hw_f19 : pi_fetch mc_250 19 = some (.istore 4, 2) := rfl
theorem hw_f21 : pi_fetch mc_250 21 = some (.iload 4, 2) := rfl
theorem hw_f23 : pi_fetch mc_250 23 = some (.bipush 10, 2) := rfl
theorem hw_f25 : pi_fetch mc_250 25 = some (.if_icmp .ge 28, 3) := rfl
theorem hw_f28 : pi_fetch mc_250 28 = some (.aload_n 0, 1) := rfl
theorem hw_f29 : pi_fetch mc_250 29 = some (.getfield 56, 3) := rfl
theorem hw_f32 : pi_fetch mc_250 32 = some (.iload 4, 2) := rfl
theorem hw_f34 : pi_fetch mc_250 34 = some (.iload 4, 2) := rfl
theorem hw_f36 : pi_fetch mc_250 36 = some (.iload_n 2, 1) := rfl
theorem hw_f37 : pi_fetch mc_250 37 = some (.if_icmp .ne 7, 3) := rfl
theorem hw_f40 : pi_fetch mc_250 40 = some (.iconst 0, 1) := rfl
theorem hw_f41 : pi_fetch mc_250 41 = some (.goto 5, 3) := rfl
theorem hw_f44 : pi_fetch mc_250 44 = some (.bipush 100, 2) := rfl
theorem hw_f46 : pi_fetch mc_250 46 = some (.iastore, 1) := rfl
theorem hw_f47 : pi_fetch mc_250 47 = some (.iinc 4 1, 3) := rfl
theorem hw_f50 : pi_fetch mc_250 50 = some (.goto (-29), 3) := rfl
theorem hw_f53 : pi_fetch mc_250 53 = some (.iconst 0, 1) := rfl
theorem hw_f54 : pi_fetch mc_250 54 = some (.istore 4, 2) := rfl
theorem hw_f56 : pi_fetch mc_250 56 = some (.iload 4, 2) := rfl
theorem hw_f58 : pi_fetch mc_250 58 = some (.bipush 10, 2) := rfl
theorem hw_f60 : pi_fetch mc_250 60 = some (.if_icmp .ge 111, 3) := rfl
theorem hw_f63 : pi_fetch mc_250 63 = some (.iconst 0, 1) := rfl
theorem hw_f64 : pi_fetch mc_250 64 = some (.istore 5, 2) := rfl
theorem hw_f66 : pi_fetch mc_250 66 = some (.iload 5, 2) := rfl
theorem hw_f68 : pi_fetch mc_250 68 = some (.aload_n 0, 1) := rfl
theorem hw_f69 : pi_fetch mc_250 69 = some (.getfield 33, 3) := rfl
theorem hw_f72 : pi_fetch mc_250 72 = some (.iconst 0, 1) := rfl
theorem hw_f73 : pi_fetch mc_250 73 = some (.iaload, 1) := rfl
theorem hw_f74 : pi_fetch mc_250 74 = some (.if_icmp .ge 91, 3) := rfl
theorem hw_f77 : pi_fetch mc_250 77 = some (.iconst 0, 1) := rfl
theorem hw_f78 : pi_fetch mc_250 78 = some (.istore 6, 2) := rfl
theorem hw_f80 : pi_fetch mc_250 80 = some (.iload 6, 2) := rfl
theorem hw_f82 : pi_fetch mc_250 82 = some (.aload_n 0, 1) := rfl
theorem hw_f83 : pi_fetch mc_250 83 = some (.getfield 33, 3) := rfl
theorem hw_f86 : pi_fetch mc_250 86 = some (.iconst 0, 1) := rfl
theorem hw_f87 : pi_fetch mc_250 87 = some (.iaload, 1) := rfl
theorem hw_f88 : pi_fetch mc_250 88 = some (.if_icmp .ge 71, 3) := rfl
theorem hw_f91 : pi_fetch mc_250 91 = some (.aload_n 0, 1) := rfl
theorem hw_f92 : pi_fetch mc_250 92 = some (.getfield 33, 3) := rfl
theorem hw_f95 : pi_fetch mc_250 95 = some (.iconst 5, 1) := rfl
theorem hw_f96 : pi_fetch mc_250 96 = some (.iload 5, 2) := rfl
theorem hw_f98 : pi_fetch mc_250 98 = some (.iadd, 1) := rfl
theorem hw_f99 : pi_fetch mc_250 99 = some (.iaload, 1) := rfl
theorem hw_f100 : pi_fetch mc_250 100 = some (.iload 6, 2) := rfl
theorem hw_f102 : pi_fetch mc_250 102 = some (.invokestatic 229, 3) := rfl
theorem hw_f105 : pi_fetch mc_250 105 = some (.ifCond .eq 48, 3) := rfl
theorem hw_f108 : pi_fetch mc_250 108 = some (.aload_n 0, 1) := rfl
theorem hw_f109 : pi_fetch mc_250 109 = some (.iload 6, 2) := rfl
theorem hw_f111 : pi_fetch mc_250 111 = some (.iload_n 3, 1) := rfl
theorem hw_f112 : pi_fetch mc_250 112 = some (.invokevirtual 361, 3) := rfl
theorem hw_f115 : pi_fetch mc_250 115 = some (.ifCond .eq 38, 3) := rfl
theorem hw_f118 : pi_fetch mc_250 118 = some (.aload_n 0, 1) := rfl
theorem hw_f119 : pi_fetch mc_250 119 = some (.getfield 56, 3) := rfl
theorem hw_f122 : pi_fetch mc_250 122 = some (.iload 6, 2) := rfl
theorem hw_f124 : pi_fetch mc_250 124 = some (.iaload, 1) := rfl
theorem hw_f125 : pi_fetch mc_250 125 = some (.iconst 1, 1) := rfl
theorem hw_f126 : pi_fetch mc_250 126 = some (.iadd, 1) := rfl
theorem hw_f127 : pi_fetch mc_250 127 = some (.aload_n 0, 1) := rfl
theorem hw_f128 : pi_fetch mc_250 128 = some (.getfield 56, 3) := rfl
theorem hw_f131 : pi_fetch mc_250 131 = some (.iload 5, 2) := rfl
theorem hw_f133 : pi_fetch mc_250 133 = some (.iaload, 1) := rfl
theorem hw_f134 : pi_fetch mc_250 134 = some (.if_icmp .ge 19, 3) := rfl
theorem hw_f137 : pi_fetch mc_250 137 = some (.aload_n 0, 1) := rfl
theorem hw_f138 : pi_fetch mc_250 138 = some (.getfield 56, 3) := rfl
theorem hw_f141 : pi_fetch mc_250 141 = some (.iload 5, 2) := rfl
theorem hw_f143 : pi_fetch mc_250 143 = some (.aload_n 0, 1) := rfl
theorem hw_f144 : pi_fetch mc_250 144 = some (.getfield 56, 3) := rfl
theorem hw_f147 : pi_fetch mc_250 147 = some (.iload 6, 2) := rfl
theorem hw_f149 : pi_fetch mc_250 149 = some (.iaload, 1) := rfl
theorem hw_f150 : pi_fetch mc_250 150 = some (.iconst 1, 1) := rfl
theorem hw_f151 : pi_fetch mc_250 151 = some (.iadd, 1) := rfl
theorem hw_f152 : pi_fetch mc_250 152 = some (.iastore, 1) := rfl
theorem hw_f153 : pi_fetch mc_250 153 = some (.iinc 6 1, 3) := rfl
theorem hw_f156 : pi_fetch mc_250 156 = some (.goto (-76), 3) := rfl
theorem hw_f159 : pi_fetch mc_250 159 = some (.iinc 5 1, 3) := rfl
theorem hw_f162 : pi_fetch mc_250 162 = some (.goto (-96), 3) := rfl
theorem hw_f165 : pi_fetch mc_250 165 = some (.iinc 4 1, 3) := rfl
theorem hw_f168 : pi_fetch mc_250 168 = some (.goto (-112), 3) := rfl
theorem hw_f171 : pi_fetch mc_250 171 = some (.aload_n 0, 1) := rfl
theorem hw_f172 : pi_fetch mc_250 172 = some (.getfield 56, 3) := rfl
theorem hw_f175 : pi_fetch mc_250 175 = some (.iload_n 1, 1) := rfl
theorem hw_f176 : pi_fetch mc_250 176 = some (.iaload, 1) := rfl
theorem hw_f177 : pi_fetch mc_250 177 = some (.istore 4, 2) := rfl
theorem hw_f179 : pi_fetch mc_250 179 = some (.iload 4, 2) := rfl
theorem hw_f181 : pi_fetch mc_250 181 = some (.bipush 100, 2) := rfl
theorem hw_f183 : pi_fetch mc_250 183 = some (.if_icmp .lt 5, 3) := rfl
theorem hw_f186 : pi_fetch mc_250 186 = some (.iconst (-1), 1) := rfl
theorem hw_f187 : pi_fetch mc_250 187 = some (.ireturn, 1) := rfl
theorem hw_f188 : pi_fetch mc_250 188 = some (.iload_n 1, 1) := rfl
theorem hw_f189 : pi_fetch mc_250 189 = some (.istore 5, 2) := rfl
theorem hw_f191 : pi_fetch mc_250 191 = some (.iconst 0, 1) := rfl
theorem hw_f192 : pi_fetch mc_250 192 = some (.istore 6, 2) := rfl
theorem hw_f194 : pi_fetch mc_250 194 = some (.iload 6, 2) := rfl
theorem hw_f196 : pi_fetch mc_250 196 = some (.iload 4, 2) := rfl
theorem hw_f198 : pi_fetch mc_250 198 = some (.if_icmp .ge 75, 3) := rfl
theorem hw_f201 : pi_fetch mc_250 201 = some (.iconst 0, 1) := rfl
theorem hw_f202 : pi_fetch mc_250 202 = some (.istore 7, 2) := rfl
theorem hw_f204 : pi_fetch mc_250 204 = some (.aload_n 0, 1) := rfl
theorem hw_f205 : pi_fetch mc_250 205 = some (.getfield 33, 3) := rfl
theorem hw_f208 : pi_fetch mc_250 208 = some (.iconst 5, 1) := rfl
theorem hw_f209 : pi_fetch mc_250 209 = some (.iload 5, 2) := rfl
theorem hw_f211 : pi_fetch mc_250 211 = some (.iadd, 1) := rfl
theorem hw_f212 : pi_fetch mc_250 212 = some (.iaload, 1) := rfl
theorem hw_f213 : pi_fetch mc_250 213 = some (.iload 7, 2) := rfl
theorem hw_f215 : pi_fetch mc_250 215 = some (.invokestatic 229, 3) := rfl
theorem hw_f218 : pi_fetch mc_250 218 = some (.ifCond .eq 30, 3) := rfl
theorem hw_f221 : pi_fetch mc_250 221 = some (.aload_n 0, 1) := rfl
theorem hw_f222 : pi_fetch mc_250 222 = some (.iload 7, 2) := rfl
theorem hw_f224 : pi_fetch mc_250 224 = some (.iload_n 3, 1) := rfl
theorem hw_f225 : pi_fetch mc_250 225 = some (.invokevirtual 361, 3) := rfl
theorem hw_f228 : pi_fetch mc_250 228 = some (.ifCond .eq 20, 3) := rfl
theorem hw_f231 : pi_fetch mc_250 231 = some (.aload_n 0, 1) := rfl
theorem hw_f232 : pi_fetch mc_250 232 = some (.getfield 56, 3) := rfl
theorem hw_f235 : pi_fetch mc_250 235 = some (.iload 7, 2) := rfl
theorem hw_f237 : pi_fetch mc_250 237 = some (.iaload, 1) := rfl
theorem hw_f238 : pi_fetch mc_250 238 = some (.iload 4, 2) := rfl
theorem hw_f240 : pi_fetch mc_250 240 = some (.iconst 1, 1) := rfl
theorem hw_f241 : pi_fetch mc_250 241 = some (.isub, 1) := rfl
theorem hw_f242 : pi_fetch mc_250 242 = some (.iload 6, 2) := rfl
theorem hw_f244 : pi_fetch mc_250 244 = some (.isub, 1) := rfl
theorem hw_f245 : pi_fetch mc_250 245 = some (.if_icmp .eq 9, 3) := rfl
theorem hw_f248 : pi_fetch mc_250 248 = some (.iinc 7 1, 3) := rfl
theorem hw_f251 : pi_fetch mc_250 251 = some (.goto (-47), 3) := rfl
theorem hw_f254 : pi_fetch mc_250 254 = some (.aload_n 0, 1) := rfl
theorem hw_f255 : pi_fetch mc_250 255 = some (.getfield 59, 3) := rfl
theorem hw_f258 : pi_fetch mc_250 258 = some (.iload 6, 2) := rfl
theorem hw_f260 : pi_fetch mc_250 260 = some (.iload 7, 2) := rfl
theorem hw_f262 : pi_fetch mc_250 262 = some (.iastore, 1) := rfl
theorem hw_f263 : pi_fetch mc_250 263 = some (.iload 7, 2) := rfl
theorem hw_f265 : pi_fetch mc_250 265 = some (.istore 5, 2) := rfl
theorem hw_f267 : pi_fetch mc_250 267 = some (.iinc 6 1, 3) := rfl
theorem hw_f270 : pi_fetch mc_250 270 = some (.goto (-76), 3) := rfl
theorem hw_f273 : pi_fetch mc_250 273 = some (.iload 4, 2) := rfl
theorem hw_f275 : pi_fetch mc_250 275 = some (.ireturn, 1) := rfl
/-! ===== wayOf: steps ===== -/
def hw_m : pi_M := (11, 8, (some .int), false, mc_250)
def hw_mb : pi_M := (11, 2, (some .boolean), false, mc_168)
def hw_mc : pi_M := (11, 3, (some .boolean), false, mc_249)
theorem ht_st {d : Nat} {mi : pi_M} {s s' : pi_S} {i : Instr} {len : Nat} (hf : pi_fetch mi.2.2.2.2 s.1 = some (i, len)) (hE : pi_isEnd i = false) (hi : pi_inv i = none) (hN : pi_isNew i = false) (hs : pi_step mi.1 mi.2.2.2.1 mi.2.1 i len s = some s') : af_To d mi s s' := fun n _ h => ⟨n + 1, (pi_st hf hE hi hN hs).trans h⟩
theorem ht_call {d : Nat} {mi mz : pi_M} {s : pi_S} {i : Instr} {len cp kind z na q : Nat} {kinds : List Nat} {y : MethodName} {cc : ByteArray} {As rest : List Value} {r : Option Value} (hf : pi_fetch mi.2.2.2.2 s.1 = some (i, len)) (hE : pi_isEnd i = false) (hi : pi_inv i = some (cp, kinds)) (hl : pi_look pi_iT mi.1 cp = some (kind, z, na, q)) (hk : ¬ (kinds.contains kind = false ∨ len ≠ 3)) (h3 : ¬ 3 < kind) (hm : pi_mt[z]? = some (y, cc, mz)) (ha : pi_args kind na mz s = some (As, rest)) (hr : ∃ n, pi_run n d mz (0, lv_args 0 As, [], s.2.2.2) 0 0 = some (r, s.2.2.2, 0, 0)) : af_To (d + 1) mi s (s.1 + 3, s.2.1, r.toList ++ rest, s.2.2.2) := by
  intro n res h
  obtain ⟨n2, hr⟩ := hr
  refine ⟨n + n2 + 1, ?_⟩
  have h1 := pi_more (k := n + n2) h (by omega)
  have h2 := pi_more (k := n + n2) hr (by omega)
  have hkp : pi_keep s.2.1 rest s.2.2.2 s.2.2.2 = true := by simp [pi_keep]
  rw [pi_run, hf]
  dsimp only
  rw [hE, hi]
  dsimp only
  rw [hl]
  dsimp only
  rw [if_neg (by decide), if_neg hk, if_neg h3, hm]
  dsimp only
  rw [ha]
  dsimp only
  rw [h2]
  dsimp only
  rw [if_pos hkp]
  exact h1
section HS
variable {own nL pc k : Nat} {ini : Bool} {lv : pi_L} {r : List Value} {w : pi_W} {x y : Int32}
theorem hs_il (h : pi_get lv k = some (.int x)) : pi_step own ini nL (.iload k) 2 (pc, lv, r, w) = some (pc + 2, lv, .int x :: r, w) := by
  simp only [pi_step, h, if_true]
theorem hs_iln {k : Fin 4} (h : pi_get lv (k : Nat) = some (.int x)) : pi_step own ini nL (.iload_n k) 1 (pc, lv, r, w) = some (pc + 1, lv, .int x :: r, w) := by
  simp only [pi_step, h, if_true]
theorem hs_al {a : Nat} (h : pi_get lv 0 = some (.ref a)) : pi_step own ini nL (.aload_n 0) 1 (pc, lv, r, w) = some (pc + 1, lv, .ref a :: r, w) := by
  have e : pi_get lv ((0 : Fin 4) : Nat) = some (.ref a) := h
  simp only [pi_step, e, if_true]
theorem hs_inc {n : Int} (h : pi_get lv k = some (.int x)) (hk : k < nL) : pi_step own ini nL (.iinc k n) 3 (pc, lv, r, w) = some (pc + 3, pi_set lv k (.int (x + Int32.ofInt n)), r, w) := by
  simp only [pi_step, h]
  rw [if_pos ⟨trivial, hk⟩]
theorem hs_ic {c : ClassFile.Cond} {off : Int} {t : Nat} (h : pi_cmp c x y = true) (ht : pi_tgt pc off = some t) : pi_step own ini nL (.if_icmp c off) 3 (pc, lv, .int y :: .int x :: r, w) = some (t, lv, r, w) := by
  simp only [pi_step, ht, h, if_true]
theorem hs_icn {c : ClassFile.Cond} {off : Int} {t : Nat} (h : pi_cmp c x y = false) (ht : pi_tgt pc off = some t) : pi_step own ini nL (.if_icmp c off) 3 (pc, lv, .int y :: .int x :: r, w) = some (pc + 3, lv, r, w) := by
  simp only [pi_step, ht, h, if_true, Bool.false_eq_true, if_false]
theorem hs_if {c : ClassFile.Cond} {off : Int} {t : Nat} (h : pi_cmp c x 0 = true) (ht : pi_tgt pc off = some t) : pi_step own ini nL (.ifCond c off) 3 (pc, lv, .int x :: r, w) = some (t, lv, r, w) := by
  simp only [pi_step, ht, h, if_true]
theorem hs_ifn {c : ClassFile.Cond} {off : Int} {t : Nat} (h : pi_cmp c x 0 = false) (ht : pi_tgt pc off = some t) : pi_step own ini nL (.ifCond c off) 3 (pc, lv, .int x :: r, w) = some (pc + 3, lv, r, w) := by
  simp only [pi_step, ht, h, if_true, Bool.false_eq_true, if_false]
theorem hs_ia {a n : Nat} {f : Nat → Int32} (hA : w[a]? = some (.inl (0, n, .inl f))) (h : ¬ (x < 0 ∨ n ≤ x.toNatClampNeg)) : pi_step own ini nL .iaload 1 (pc, lv, .int x :: .ref a :: r, w) = some (pc + 1, lv, .int (f x.toNatClampNeg) :: r, w) := by
  simp only [pi_step, hA, h, if_true, if_false]
theorem hs_is {a n : Nat} {f : Nat → Int32} (hA : w[a]? = some (.inl (0, n, .inl f))) (h : ¬ (x < 0 ∨ n ≤ x.toNatClampNeg)) : pi_step own ini nL .iastore 1 (pc, lv, .int y :: .int x :: .ref a :: r, w) = some (pc + 1, lv, r, w.set a (.inl (0, n, .inl (upd f x.toNatClampNeg y)))) := by
  simp only [pi_step, hA, h, if_true, if_false]
theorem hc_ge (h : y.toInt ≤ x.toInt) : pi_cmp .ge x y = true := by
  simp only [pi_cmp, decide_eq_true_eq, Int32.le_iff_toInt_le]
  exact h
theorem hc_gen (h : x.toInt < y.toInt) : pi_cmp .ge x y = false := by
  simp only [pi_cmp, decide_eq_false_iff_not, Int32.le_iff_toInt_le]
  omega
theorem hc_lt (h : x.toInt < y.toInt) : pi_cmp .lt x y = true := by
  simp only [pi_cmp, decide_eq_true_eq, Int32.lt_iff_toInt_lt]
  exact h
theorem hc_ltn (h : y.toInt ≤ x.toInt) : pi_cmp .lt x y = false := by
  simp only [pi_cmp, decide_eq_false_iff_not, Int32.lt_iff_toInt_lt]
  omega
theorem hc_ne (h : ¬ x = y) : pi_cmp .ne x y = true := by simp [pi_cmp, h]
theorem hc_nen (h : x = y) : pi_cmp .ne x y = false := by simp [pi_cmp, h]
theorem hc_eq (h : x = y) : pi_cmp .eq x y = true := by simp [pi_cmp, h]
theorem hc_eqn (h : ¬ x = y) : pi_cmp .eq x y = false := by simp [pi_cmp, h]
end HS
theorem hn_t {n : Nat} (h : n < 1000) : (Int32.ofNat n).toInt = (n : Int) := Int32.toInt_ofNat_of_lt (by omega)
theorem hn_i {x : Int32} (h : 0 ≤ x.toInt) : x = Int32.ofNat x.toInt.toNat := by
  apply Int32.toInt_inj.mp
  have hb : -2147483648 ≤ x.toInt ∧ x.toInt ≤ 2147483647 := af_i32 x
  rw [Int32.toInt_ofNat_of_lt (by omega)]
  omega
theorem hn_c {n : Nat} (h : n < 1000) : (Int32.ofNat n).toNatClampNeg = n := by
  have e := af_cl (x := Int32.ofNat n) (by rw [hn_t h]; omega)
  rw [hn_t h] at e
  omega
theorem hn_r {n m : Nat} (h : n < 1000) (hm : n < m) : ¬ (Int32.ofNat n < 0 ∨ m ≤ (Int32.ofNat n).toNatClampNeg) := by
  rw [hn_c h]
  rintro (q | q)
  · exact (af_cl (x := Int32.ofNat n) (by rw [hn_t h]; omega)).1 q
  · omega
theorem hn_s (n : Nat) : Int32.ofNat n + Int32.ofInt 1 = Int32.ofNat (n + 1) := by
  rw [Int32.ofNat_add]
  rfl
theorem hn_a (a n : Nat) : Int32.ofNat a + Int32.ofNat n = Int32.ofNat (a + n) := (Int32.ofNat_add a n).symm
theorem hn_1 {x : Int32} (h : x.toInt ≤ 1000) (h0 : 0 ≤ x.toInt) : (x + 1).toInt = x.toInt + 1 := by
  rw [Int32.toInt_add]
  have e : (1 : Int32).toInt = 1 := rfl
  rw [e]
  apply Int.bmod_eq_of_le <;> omega

/-! ===== wayOf: rows of distances ===== -/
def hw_rx (E : Nat → Nat → Bool) (k : Nat) (F : Nat → Int) (o : Nat) : Nat → Int := if E k o = true ∧ F o + 1 < F k then (fun i => if i = k then F o + 1 else F i) else F
def hw_r1 (E : Nat → Nat → Bool) (P : Nat) (F : Nat → Int) (k : Nat) : Nat → Int := (List.range P).foldl (hw_rx E k) F
def hw_r2 (E : Nat → Nat → Bool) (P : Nat) (F : Nat → Int) : Nat → Int := (List.range P).foldl (hw_r1 E P) F
def hw_r3 (E : Nat → Nat → Bool) (P : Nat) : Nat → (Nat → Int) → Nat → Int
  | 0, F => F
  | n + 1, F => hw_r3 E P n (hw_r2 E P F)
theorem hw_fi {α β : Type} {J : β → Prop} {st : β → α → β} (h : ∀ f a, J f → J (st f a)) : ∀ (l : List α) (f : β), J f → J (l.foldl st f)
  | [], _, hf => hf
  | a :: l, f, hf => hw_fi h l _ (h f a hf)
theorem hw_fe {α β : Type} {D Z : β → Prop} {st : β → α → β} (h : ∀ f a, D f → D (st f a)) {a : α} (hz : ∀ f, D f → Z (st f a)) (hk : ∀ f b, D f → Z f → Z (st f b)) : ∀ (l : List α) (f : β), a ∈ l → D f → Z (l.foldl st f)
  | [], _, ha, _ => by cases ha
  | b :: l, f, ha, hf => by
    rcases List.mem_cons.mp ha with rfl | ha
    · exact (hw_fi (J := fun f => D f ∧ Z f) (fun f a q => ⟨h f a q.1, hk f a q.1 q.2⟩) l _ ⟨h f _ hf, hz f hf⟩).2
    · exact hw_fe h hz hk l _ ha (h f b hf)
section HW
variable {E : Nat → Nat → Bool} {P t0 : Nat}
theorem hw_rx_le (k : Nat) (F : Nat → Int) (o v : Nat) : hw_rx E k F o v ≤ F v := by
  unfold hw_rx
  split
  · rename_i h
    dsimp only
    split
    · rename_i e
      subst e
      omega
    · exact Int.le_refl _
  · exact Int.le_refl _
def hw_Bd (E : Nat → Nat → Bool) (t0 : Nat) (F : Nat → Int) : Prop := (∀ v, 0 ≤ F v ∧ F v ≤ 100) ∧ F t0 = 0 ∧ ∀ v, v ≠ t0 → F v = 100 ∨ ∃ u, E v u = true ∧ F u + 1 ≤ F v
theorem hw_Bd_rx {k : Nat} (F : Nat → Int) (o : Nat) (h : hw_Bd E t0 F) : hw_Bd E t0 (hw_rx E k F o) := by
  unfold hw_rx
  split
  · rename_i hc
    obtain ⟨hE, hl⟩ := hc
    obtain ⟨h1, h2, h3⟩ := h
    have ho := h1 o
    have hk := h1 k
    have hok : o ≠ k := by
      intro e
      subst e
      omega
    refine ⟨fun v => ?_, ?_, fun v hv => ?_⟩
    · dsimp only
      split
      · omega
      · exact h1 v
    · dsimp only
      split
      · rename_i e
        rw [e] at h2
        omega
      · exact h2
    · dsimp only
      by_cases e : v = k
      · subst e
        rw [if_pos rfl]
        exact Or.inr ⟨o, hE, by rw [if_neg hok]; omega⟩
      · rw [if_neg e]
        rcases h3 v hv with q | ⟨u, q1, q2⟩
        · exact Or.inl q
        · refine Or.inr ⟨u, q1, ?_⟩
          split
          · rename_i e2
            rw [e2] at q2
            omega
          · exact q2
  · exact h
def hw_I (E : Nat → Nat → Bool) (r : Int) (F : Nat → Int) : Prop := ∀ k o, E k o = true → F o < r → F k ≤ F o + 1
def hw_D (r : Int) (F0 f : Nat → Int) : Prop := (∀ v, f v ≤ F0 v) ∧ ∀ v, f v = F0 v ∨ r + 1 ≤ f v
theorem hw_D_rx {r : Int} {F0 : Nat → Int} (hI : hw_I E r F0) {k : Nat} (f : Nat → Int) (o : Nat) (h : hw_D r F0 f) : hw_D r F0 (hw_rx E k f o) := by
  refine ⟨fun v => Int.le_trans (hw_rx_le k f o v) (h.1 v), fun v => ?_⟩
  unfold hw_rx
  split
  · rename_i hc
    obtain ⟨hE, hl⟩ := hc
    dsimp only
    split
    · right
      have q1 := h.1 k
      rcases h.2 o with q | q
      · by_cases hr : f o < r
        · have q2 := hI k o hE (by omega)
          omega
        · omega
      · omega
    · exact h.2 v
  · exact h.2 v
theorem hw_I_s {r : Int} {F0 : Nat → Int} (hP : ∀ k o, E k o = true → k < P ∧ o < P) (hI : hw_I E r F0) : hw_I E (r + 1) (hw_r2 E P F0) := by
  have hD1 : ∀ (f : Nat → Int) (k : Nat), hw_D r F0 f → hw_D r F0 (hw_r1 E P f k) := fun f k h => hw_fi (fun f o h => hw_D_rx hI f o h) _ f h
  have hD0 : hw_D r F0 F0 := ⟨fun v => Int.le_refl _, fun v => Or.inl rfl⟩
  have hD2 : hw_D r F0 (hw_r2 E P F0) := hw_fi hD1 _ F0 hD0
  intro k o hE ho
  obtain ⟨hk, hoP⟩ := hP k o hE
  have e1 : hw_r2 E P F0 o = F0 o := by
    rcases hD2.2 o with q | q
    · exact q
    · omega
  have hle1 : ∀ (f : Nat → Int) (j v : Nat), hw_r1 E P f j v ≤ f v := fun f j v => hw_fi (J := fun g => g v ≤ f v) (fun g o q => Int.le_trans (hw_rx_le j g o v) q) _ f (Int.le_refl _)
  have hz1 : ∀ f, hw_D r F0 f → hw_r1 E P f k k ≤ F0 o + 1 := by
    intro f hf
    refine hw_fe (D := hw_D r F0) (Z := fun g => g k ≤ F0 o + 1) (a := o) (fun g o h => hw_D_rx hI g o h) ?_ (fun g b _ q => Int.le_trans (hw_rx_le k g b k) q) _ f (List.mem_range.mpr hoP) hf
    intro g hg
    have e2 : g o = F0 o := by
      rcases hg.2 o with q | q
      · exact q
      · have := hg.1 o
        omega
    unfold hw_rx
    split
    · dsimp only
      rw [if_pos rfl]
      omega
    · rename_i hc
      have : ¬ g o + 1 < g k := fun q => hc ⟨hE, q⟩
      omega
  have hz2 : hw_r2 E P F0 k ≤ F0 o + 1 := hw_fe (D := hw_D r F0) (Z := fun g => g k ≤ F0 o + 1) (a := k) hD1 hz1 (fun g b _ q => Int.le_trans (hle1 g b k) q) _ F0 (List.mem_range.mpr hk) hD0
  omega
theorem hw_I_n (hP : ∀ k o, E k o = true → k < P ∧ o < P) : ∀ (n : Nat) (r : Int) (F : Nat → Int), hw_I E r F → hw_I E (r + n) (hw_r3 E P n F)
  | 0, r, F, h => by
    have e : r + ((0 : Nat) : Int) = r := by omega
    rw [e]
    exact h
  | n + 1, r, F, h => by
    have e : r + ((n + 1 : Nat) : Int) = r + 1 + n := by omega
    rw [e]
    exact hw_I_n hP n (r + 1) _ (hw_I_s hP h)
theorem hw_Bd_n : ∀ (n : Nat) (F : Nat → Int), hw_Bd E t0 F → hw_Bd E t0 (hw_r3 E P n F)
  | 0, _, h => h
  | n + 1, F, h => hw_Bd_n n _ (hw_fi (fun f k q => hw_fi (fun f o q => hw_Bd_rx f o q) _ f q) _ F h)
theorem hw_cm (G : Nat → Int) (t : Int) : ∀ l : List Nat, l.countP (fun u => decide (G u < t)) ≤ l.countP (fun u => decide (G u < t + 1))
  | [] => Nat.le_refl _
  | a :: l => by
    have ih := hw_cm G t l
    rw [List.countP_cons, List.countP_cons]
    simp only [decide_eq_true_eq]
    split <;> split <;> omega
theorem hw_cs (G : Nat → Int) (t : Int) : ∀ (l : List Nat) (u : Nat), u ∈ l → G u = t → l.countP (fun u => decide (G u < t)) + 1 ≤ l.countP (fun u => decide (G u < t + 1))
  | [], _, h, _ => by cases h
  | a :: l, u, h, e => by
    rw [List.countP_cons, List.countP_cons]
    simp only [decide_eq_true_eq]
    rcases List.mem_cons.mp h with rfl | h
    · have ih := hw_cm G t l
      rw [if_neg (by omega), if_pos (by omega)]
      omega
    · have ih := hw_cs G t l u h e
      split <;> split <;> omega
theorem hw_pg {G : Nat → Int} (h : ∀ t : Nat, t ≤ 10 → ∃ u, u < 10 ∧ G u = t) : False := by
  have h1 : ∀ t : Nat, t ≤ 11 → t ≤ (List.range 10).countP (fun u => decide (G u < (t : Int))) := by
    intro t
    induction t with
    | zero => exact fun _ => Nat.zero_le _
    | succ t ih =>
      intro ht
      obtain ⟨u, hu, e⟩ := h t (by omega)
      have q := hw_cs G t (List.range 10) u (List.mem_range.mpr hu) e
      have q2 := ih (by omega)
      have e2 : ((t + 1 : Nat) : Int) = (t : Int) + 1 := by omega
      rw [e2]
      omega
  have h2 := h1 11 (by omega)
  have h3 : (List.range 10).countP (fun u => decide (G u < ((11 : Nat) : Int))) ≤ (List.range 10).length := List.countP_le_length
  rw [List.length_range] at h3
  omega
theorem hw_end {G : Nat → Int} (hP : ∀ k o, E k o = true → k < P ∧ o < P) (hP10 : P ≤ 10) (ht : t0 < 10) (hB : hw_Bd E t0 G) (hI : hw_I E 10 G) : (∀ v, G v = 100 ∨ G v ≤ 9) ∧ ∀ v, 0 < G v → G v < 100 → ∃ u, E v u = true ∧ G u = G v - 1 := by
  have hin : ∀ v, G v < 100 → v < 10 := by
    intro v hv
    by_cases e : v = t0
    · omega
    · rcases hB.2.2 v e with q | ⟨u, q, -⟩
      · omega
      · have := hP v u q
        omega
  have hst : ∀ v, 0 < G v → G v ≤ 10 → ∃ u, E v u = true ∧ G u = G v - 1 := by
    intro v h0 h1
    by_cases e : v = t0
    · rw [e, hB.2.1] at h0
      omega
    · rcases hB.2.2 v e with q | ⟨u, q1, q2⟩
      · omega
      · have := hI v u q1 (by omega)
        exact ⟨u, q1, by omega⟩
  have hch : ∀ (n : Nat) (v : Nat), G v = n → n ≤ 10 → ∀ t : Nat, t ≤ n → ∃ u, u < 10 ∧ G u = t := by
    intro n
    induction n with
    | zero =>
      intro v hv hn t ht
      have e : t = 0 := by omega
      subst e
      exact ⟨v, hin v (by omega), hv⟩
    | succ n ih =>
      intro v hv hn t ht
      by_cases e : t = n + 1
      · subst e
        exact ⟨v, hin v (by omega), hv⟩
      · obtain ⟨u, -, hu⟩ := hst v (by omega) (by omega)
        exact ih u (by omega) (by omega) t (by omega)
  have h10 : ∀ v, G v ≠ 10 := fun v hv => hw_pg (fun t ht => hch 10 v hv (Nat.le_refl _) t ht)
  have hno : ∀ (n : Nat) (v : Nat), G v = 10 + (n : Int) → G v < 100 → False := by
    intro n
    induction n using Nat.strongRecOn with
    | ind n ih =>
      intro v hv hl
      by_cases e : v = t0
      · rw [e, hB.2.1] at hv
        omega
      · rcases hB.2.2 v e with q | ⟨u, q1, q2⟩
        · omega
        · by_cases hu : G u < 10
          · have := hI v u q1 hu
            exact h10 v (by omega)
          · exact ih (G u - 10).toNat (by omega) u (by omega) (by omega)
  have hall : ∀ v, G v = 100 ∨ G v ≤ 9 := by
    intro v
    have q := hB.1 v
    by_cases e : G v = 100
    · exact Or.inl e
    · by_cases e2 : G v ≤ 9
      · exact Or.inr e2
      · exact (hno (G v - 10).toNat v (by omega) (by omega)).elim
  refine ⟨hall, fun v h0 h1 => hst v h0 ?_⟩
  rcases hall v with q | q <;> omega
end HW

/-! ===== wayOf: the machine ===== -/
theorem hw_k33 : pi_look pi_fT 11 33 = some (11, 6, 1253) := rfl
theorem hw_k56 : pi_look pi_fT 11 56 = some (11, 23, 1270) := rfl
theorem hw_k59 : pi_look pi_fT 11 59 = some (11, 24, 1271) := rfl
theorem hw_k229 : pi_look pi_iT 11 229 = some (0, 168, 2, 1442) := rfl
theorem hw_k361 : pi_look pi_iT 11 361 = some (2, 249, 2, 1708) := rfl
theorem hn_1' {x : Int32} (h : x.toInt ≤ 1000) (h0 : 0 ≤ x.toInt) : (x + Int32.ofInt 1).toInt = x.toInt + 1 := hn_1 h h0
section HT
variable {own nL pc k : Nat} {ini : Bool} {lv : pi_L} {r : List Value} {w : pi_W} {x y : Int32}
theorem hs_ian {a n m : Nat} {f : Nat → Int32} (hA : w[a]? = some (.inl (0, m, .inl f))) (h : n < 1000) (hm : n < m) : pi_step own ini nL .iaload 1 (pc, lv, .int (Int32.ofNat n) :: .ref a :: r, w) = some (pc + 1, lv, .int (f n) :: r, w) := by
  rw [hs_ia hA (hn_r h hm), hn_c h]
theorem hs_isn {a n m : Nat} {f : Nat → Int32} (hA : w[a]? = some (.inl (0, m, .inl f))) (h : n < 1000) (hm : n < m) : pi_step own ini nL .iastore 1 (pc, lv, .int y :: .int (Int32.ofNat n) :: .ref a :: r, w) = some (pc + 1, lv, r, w.set a (.inl (0, m, .inl (upd f n y)))) := by
  rw [hs_is hA (hn_r h hm), hn_c h]
theorem hs_ia0 {a m : Nat} {f : Nat → Int32} (hA : w[a]? = some (.inl (0, m, .inl f))) (hm : 0 < m) : pi_step own ini nL .iaload 1 (pc, lv, .int (Int32.ofInt 0) :: .ref a :: r, w) = some (pc + 1, lv, .int (f 0) :: r, w) := by
  have e : Int32.ofInt 0 = Int32.ofNat 0 := by decide
  rw [e]
  exact hs_ian hA (by decide) hm
theorem hs_a5 {n : Nat} : pi_step own ini nL .iadd 1 (pc, lv, .int (Int32.ofNat n) :: .int (Int32.ofInt 5) :: r, w) = some (pc + 1, lv, .int (Int32.ofNat (5 + n)) :: r, w) := by
  rw [← hn_a]
  rfl
theorem hs_a138 {n : Nat} : pi_step own ini nL .iadd 1 (pc, lv, .int (Int32.ofNat n) :: .int (Int16.ofInt 138).toInt32 :: r, w) = some (pc + 1, lv, .int (Int32.ofNat (138 + n)) :: r, w) := by
  rw [← hn_a]
  rfl
theorem hs_st {k : Nat} (hk : k < nL) : pi_step own ini nL (.istore k) 2 (pc, lv, .int x :: r, w) = some (pc + 2, pi_set lv k (.int x), r, w) := by
  simp only [pi_step]
  rw [if_pos ⟨trivial, hk⟩]
end HT
theorem hg_ne {lv : pi_L} {i j : Nat} {v : Value} {x : Int32} (h : pi_get lv j = some (.int x)) (hj : j ≠ i) : pi_get (pi_set lv i v) j = some (.int x) := pi_get_set_ne h hj (fun q => (show ¬ ((1 : Nat) = 2) by decide) q.2)
def hw_B (lv : pi_L) (a b c : Int32) : Prop := pi_get lv 0 = some (.ref 61) ∧ pi_get lv 1 = some (.int a) ∧ pi_get lv 2 = some (.int b) ∧ pi_get lv 3 = some (.int c)
theorem hw_B.set {lv : pi_L} {a b c : Int32} {i : Nat} {v : Value} (h : hw_B lv a b c) (hi : 4 ≤ i) : hw_B (pi_set lv i v) a b c := ⟨pi_get_set_ne h.1 (by omega) (fun q => (show ¬ ((1 : Nat) = 2) by decide) q.2), hg_ne h.2.1 (by omega), hg_ne h.2.2.1 (by omega), hg_ne h.2.2.2 (by omega)⟩
def hw_X (w0 : pi_W) (fs : List Value) (sf : Nat → Int32) (P : Nat) : Prop := w0[61]? = some (.inr (11, fs)) ∧ fs[6]? = some (.ref 63) ∧ fs[23]? = some (.ref 70) ∧ fs[24]? = some (.ref 71) ∧ w0[63]? = some (.inl (0, 411, .inl sf)) ∧ sf 0 = Int32.ofNat P ∧ P ≤ 10
def hw_W (w0 w : pi_W) (f g : Nat → Int32) : Prop := w.length = w0.length ∧ (∀ c, c ≠ 70 → c ≠ 71 → w[c]? = w0[c]?) ∧ w[70]? = some (.inl (0, 10, .inl f)) ∧ w[71]? = some (.inl (0, 10, .inl g))
def hw_R (f : Nat → Int32) (F : Nat → Int) : Prop := ∀ i, i < 10 → (f i).toInt = F i ∧ 0 ≤ F i ∧ F i ≤ 100
theorem hw_W.s70 {w0 w : pi_W} {f g : Nat → Int32} (h : hw_W w0 w f g) (f' : Nat → Int32) : hw_W w0 (w.set 70 (.inl (0, 10, .inl f'))) f' g := by
  obtain ⟨h1, h2, h3, h4⟩ := h
  have hl := (List.getElem?_eq_some_iff.mp h3).1
  refine ⟨by rw [List.length_set]; exact h1, fun c q1 q2 => ?_, ?_, ?_⟩
  · rw [List.getElem?_set_ne (fun e => q1 e.symm)]
    exact h2 c q1 q2
  · rw [List.getElem?_set_self hl]
  · rw [List.getElem?_set_ne (by decide)]
    exact h4
theorem hw_W.s71 {w0 w : pi_W} {f g : Nat → Int32} (h : hw_W w0 w f g) (g' : Nat → Int32) : hw_W w0 (w.set 71 (.inl (0, 10, .inl g'))) f g' := by
  obtain ⟨h1, h2, h3, h4⟩ := h
  have hl := (List.getElem?_eq_some_iff.mp h4).1
  refine ⟨by rw [List.length_set]; exact h1, fun c q1 q2 => ?_, ?_, ?_⟩
  · rw [List.getElem?_set_ne (fun e => q2 e.symm)]
    exact h2 c q1 q2
  · rw [List.getElem?_set_ne (by decide)]
    exact h3
  · rw [List.getElem?_set_self hl]
def hw_E (sf : Nat → Int32) (c : Int32) (P k o : Nat) : Bool := decide (k < P) && decide (o < P) && decide (sf (5 + k) >>> (Int32.ofNat o &&& 31) &&& 1 = 1) && decide (sf (138 + o) &&& c = 0)
theorem hw_E_iff {sf : Nat → Int32} {c : Int32} {P k o : Nat} : hw_E sf c P k o = true ↔ (k < P ∧ o < P) ∧ sf (5 + k) >>> (Int32.ofNat o &&& 31) &&& 1 = 1 ∧ sf (138 + o) &&& c = 0 := by
  simp only [hw_E, Bool.and_eq_true, decide_eq_true_eq, and_assoc]
theorem hw_bit (d : Nat) (w : pi_W) (x o : Int32) : ∃ n, pi_run n d hw_mb (0, lv_args 0 [.int x, .int o], [], w) 0 0 = some (some (.int (if x >>> (o &&& 31) &&& 1 = 1 then 1 else 0)), w, 0, 0) := by
  by_cases h : x >>> (o &&& 31) &&& 1 = 1
  · rw [if_pos h]
    refine ⟨10, ?_⟩
    refine (pi_st (s' := (1, _, [.int x], w)) rfl rfl rfl rfl rfl).trans ?_
    refine (pi_st (s' := (2, _, [.int o, .int x], w)) rfl rfl rfl rfl rfl).trans ?_
    refine (pi_st (s' := (3, _, [.int (x >>> (o &&& 31))], w)) rfl rfl rfl rfl rfl).trans ?_
    refine (pi_st (s' := (4, _, [.int 1, .int (x >>> (o &&& 31))], w)) rfl rfl rfl rfl rfl).trans ?_
    refine (pi_st (s' := (5, _, [.int (x >>> (o &&& 31) &&& 1)], w)) rfl rfl rfl rfl rfl).trans ?_
    refine (pi_st (s' := (6, _, [.int 1, .int (x >>> (o &&& 31) &&& 1)], w)) rfl rfl rfl rfl rfl).trans ?_
    refine (pi_st (i := .if_icmp .ne 7) (len := 3) (s' := (9, _, [], w)) rfl rfl rfl rfl (hs_icn (t := 13) (hc_nen h) rfl)).trans ?_
    refine (pi_st (s' := (10, _, [.int 1], w)) rfl rfl rfl rfl rfl).trans ?_
    refine (pi_st (s' := (14, _, [.int 1], w)) rfl rfl rfl rfl rfl).trans ?_
    exact pi_fi (i := .ireturn) (len := 1) rfl rfl rfl
  · rw [if_neg h]
    refine ⟨9, ?_⟩
    refine (pi_st (s' := (1, _, [.int x], w)) rfl rfl rfl rfl rfl).trans ?_
    refine (pi_st (s' := (2, _, [.int o, .int x], w)) rfl rfl rfl rfl rfl).trans ?_
    refine (pi_st (s' := (3, _, [.int (x >>> (o &&& 31))], w)) rfl rfl rfl rfl rfl).trans ?_
    refine (pi_st (s' := (4, _, [.int 1, .int (x >>> (o &&& 31))], w)) rfl rfl rfl rfl rfl).trans ?_
    refine (pi_st (s' := (5, _, [.int (x >>> (o &&& 31) &&& 1)], w)) rfl rfl rfl rfl rfl).trans ?_
    refine (pi_st (s' := (6, _, [.int 1, .int (x >>> (o &&& 31) &&& 1)], w)) rfl rfl rfl rfl rfl).trans ?_
    refine (pi_st (i := .if_icmp .ne 7) (len := 3) (s' := (13, _, [], w)) rfl rfl rfl rfl (hs_ic (hc_ne h) rfl)).trans ?_
    refine (pi_st (s' := (14, _, [.int 0], w)) rfl rfl rfl rfl rfl).trans ?_
    exact pi_fi (i := .ireturn) (len := 1) rfl rfl rfl
theorem hw_can (d : Nat) {w : pi_W} {fs : List Value} {sf : Nat → Int32} (h61 : w[61]? = some (.inr (11, fs))) (h6 : fs[6]? = some (.ref 63)) (h63 : w[63]? = some (.inl (0, 411, .inl sf))) {o : Nat} (ho : o < 10) (c : Int32) : ∃ n, pi_run n d hw_mc (0, lv_args 0 [.ref 61, .int (Int32.ofNat o), .int c], [], w) 0 0 = some (some (.int (if sf (138 + o) &&& c = 0 then 1 else 0)), w, 0, 0) := by
  by_cases h : sf (138 + o) &&& c = 0
  · rw [if_pos h]
    refine ⟨12, ?_⟩
    refine (pi_st (s' := (1, _, [.ref 61], w)) rfl rfl rfl rfl rfl).trans ?_
    refine (pi_st (i := .getfield 33) (len := 3) (s' := (4, _, [.ref 63], w)) rfl rfl rfl rfl (hp_gf hw_k33 h61 h6)).trans ?_
    refine (pi_st (s' := (7, _, [.int (Int16.ofInt 138).toInt32, .ref 63], w)) rfl rfl rfl rfl rfl).trans ?_
    refine (pi_st (s' := (8, _, [.int (Int32.ofNat o), .int (Int16.ofInt 138).toInt32, .ref 63], w)) rfl rfl rfl rfl rfl).trans ?_
    refine (pi_st (i := .iadd) (len := 1) (s' := (9, _, [.int (Int32.ofNat (138 + o)), .ref 63], w)) rfl rfl rfl rfl hs_a138).trans ?_
    refine (pi_st (i := .iaload) (len := 1) (s' := (10, _, [.int (sf (138 + o))], w)) rfl rfl rfl rfl (hs_ian h63 (by omega) (by omega))).trans ?_
    refine (pi_st (s' := (11, _, [.int c, .int (sf (138 + o))], w)) rfl rfl rfl rfl rfl).trans ?_
    refine (pi_st (s' := (12, _, [.int (sf (138 + o) &&& c)], w)) rfl rfl rfl rfl rfl).trans ?_
    refine (pi_st (i := .ifCond .ne 7) (len := 3) (s' := (15, _, [], w)) rfl rfl rfl rfl (hs_ifn (t := 19) (hc_nen h) rfl)).trans ?_
    refine (pi_st (s' := (16, _, [.int 1], w)) rfl rfl rfl rfl rfl).trans ?_
    refine (pi_st (s' := (20, _, [.int 1], w)) rfl rfl rfl rfl rfl).trans ?_
    exact pi_fi (i := .ireturn) (len := 1) rfl rfl rfl
  · rw [if_neg h]
    refine ⟨11, ?_⟩
    refine (pi_st (s' := (1, _, [.ref 61], w)) rfl rfl rfl rfl rfl).trans ?_
    refine (pi_st (i := .getfield 33) (len := 3) (s' := (4, _, [.ref 63], w)) rfl rfl rfl rfl (hp_gf hw_k33 h61 h6)).trans ?_
    refine (pi_st (s' := (7, _, [.int (Int16.ofInt 138).toInt32, .ref 63], w)) rfl rfl rfl rfl rfl).trans ?_
    refine (pi_st (s' := (8, _, [.int (Int32.ofNat o), .int (Int16.ofInt 138).toInt32, .ref 63], w)) rfl rfl rfl rfl rfl).trans ?_
    refine (pi_st (i := .iadd) (len := 1) (s' := (9, _, [.int (Int32.ofNat (138 + o)), .ref 63], w)) rfl rfl rfl rfl hs_a138).trans ?_
    refine (pi_st (i := .iaload) (len := 1) (s' := (10, _, [.int (sf (138 + o))], w)) rfl rfl rfl rfl (hs_ian h63 (by omega) (by omega))).trans ?_
    refine (pi_st (s' := (11, _, [.int c, .int (sf (138 + o))], w)) rfl rfl rfl rfl rfl).trans ?_
    refine (pi_st (s' := (12, _, [.int (sf (138 + o) &&& c)], w)) rfl rfl rfl rfl rfl).trans ?_
    refine (pi_st (i := .ifCond .ne 7) (len := 3) (s' := (19, _, [], w)) rfl rfl rfl rfl (hs_if (hc_ne h) rfl)).trans ?_
    refine (pi_st (s' := (20, _, [.int 0], w)) rfl rfl rfl rfl rfl).trans ?_
    exact pi_fi (i := .ireturn) (len := 1) rfl rfl rfl
theorem hw_cb {d pc : Nat} {lv : pi_L} {w : pi_W} {x o : Int32} (hf : pi_fetch mc_250 pc = some (.invokestatic 229, 3)) : af_To (d + 1) hw_m (pc, lv, [.int o, .int x], w) (pc + 3, lv, [.int (if x >>> (o &&& 31) &&& 1 = 1 then 1 else 0)], w) :=
  ht_call (As := [.int x, .int o]) (rest := []) (r := some (.int (if x >>> (o &&& 31) &&& 1 = 1 then 1 else 0))) (mz := hw_mb) hf rfl rfl hw_k229 (by decide) (by decide) pz_168 rfl (hw_bit d w x o)
theorem hw_cc {d pc : Nat} {lv : pi_L} {w : pi_W} {fs : List Value} {sf : Nat → Int32} {o : Nat} {c : Int32} (h61 : w[61]? = some (.inr (11, fs))) (h6 : fs[6]? = some (.ref 63)) (h63 : w[63]? = some (.inl (0, 411, .inl sf))) (ho : o < 10) (hf : pi_fetch mc_250 pc = some (.invokevirtual 361, 3)) : af_To (d + 1) hw_m (pc, lv, [.int c, .int (Int32.ofNat o), .ref 61], w) (pc + 3, lv, [.int (if sf (138 + o) &&& c = 0 then 1 else 0)], w) := by
  refine ht_call (As := [.ref 61, .int (Int32.ofNat o), .int c]) (rest := []) (r := some (.int (if sf (138 + o) &&& c = 0 then 1 else 0))) (mz := hw_mc) hf rfl rfl hw_k361 (by decide) (by decide) pz_249 ?_ (hw_can d h61 h6 h63 ho c)
  have e : pi_recv 2 11 [.ref 61, .int (Int32.ofNat o), .int c] w = true := by simp [pi_recv, h61]
  unfold pi_args
  exact if_pos ⟨rfl, Nat.zero_le _, e, Nat.le_refl _, rfl, Or.inl (by decide), by decide⟩
theorem hw_10 : (Int8.ofInt 10).toInt32.toInt = 10 := by decide
theorem hw_100 : (Int8.ofInt 100).toInt32.toInt = 100 := by decide
theorem hw_b6 {d : Nat} {w0 w : pi_W} {fs : List Value} {sf f g : Nat → Int32} {P k o : Nat} {F : Nat → Int} {lv : pi_L} {a b c : Int32} (hX : hw_X w0 fs sf P) (hW : hw_W w0 w f g) (hR : hw_R f F) (hB : hw_B lv a b c) (g5 : pi_get lv 5 = some (.int (Int32.ofNat k))) (g6 : pi_get lv 6 = some (.int (Int32.ofNat o))) (hk : k < P) (ho : o < P) : ∃ w' f', af_To (d + 1) hw_m (91, lv, [], w) (153, lv, [], w') ∧ hw_W w0 w' f' g ∧ hw_R f' (hw_rx (hw_E sf c P) k F o) := by
  obtain ⟨g0, g1, g2, g3⟩ := hB
  have hW61 : w[61]? = some (.inr (11, fs)) := (hW.2.1 61 (by decide) (by decide)).trans hX.1
  have hW63 : w[63]? = some (.inl (0, 411, .inl sf)) := (hW.2.1 63 (by decide) (by decide)).trans hX.2.2.2.2.1
  have hW70 := hW.2.2.1
  have hP10 := hX.2.2.2.2.2.2
  have h1 : af_To (d + 1) hw_m (91, lv, [], w) (105, lv, [.int (if sf (5 + k) >>> (Int32.ofNat o &&& 31) &&& 1 = 1 then 1 else 0)], w) := by
    refine af_To.tr (ht_st (s' := (92, _, _, _)) hw_f91 rfl rfl rfl (hs_al g0)) ?_
    refine af_To.tr (ht_st (s' := (95, _, _, _)) hw_f92 rfl rfl rfl (hp_gf hw_k33 hW61 hX.2.1)) ?_
    refine af_To.tr (ht_st (s' := (96, _, _, _)) hw_f95 rfl rfl rfl rfl) ?_
    refine af_To.tr (ht_st (s' := (98, _, _, _)) hw_f96 rfl rfl rfl (hs_il g5)) ?_
    refine af_To.tr (ht_st (s' := (99, _, _, _)) hw_f98 rfl rfl rfl hs_a5) ?_
    refine af_To.tr (ht_st (s' := (100, _, _, _)) hw_f99 rfl rfl rfl (hs_ian hW63 (by omega) (by omega))) ?_
    refine af_To.tr (ht_st (s' := (102, _, _, _)) hw_f100 rfl rfl rfl (hs_il g6)) ?_
    exact hw_cb hw_f102
  by_cases hb : sf (5 + k) >>> (Int32.ofNat o &&& 31) &&& 1 = 1
  · rw [if_pos hb] at h1
    have h2 : af_To (d + 1) hw_m (105, lv, [.int 1], w) (115, lv, [.int (if sf (138 + o) &&& c = 0 then 1 else 0)], w) := by
      refine af_To.tr (ht_st (s' := (108, _, _, _)) hw_f105 rfl rfl rfl (hs_ifn (t := 153) (hc_eqn (by decide)) rfl)) ?_
      refine af_To.tr (ht_st (s' := (109, _, _, _)) hw_f108 rfl rfl rfl (hs_al g0)) ?_
      refine af_To.tr (ht_st (s' := (111, _, _, _)) hw_f109 rfl rfl rfl (hs_il g6)) ?_
      refine af_To.tr (ht_st (s' := (112, _, _, _)) hw_f111 rfl rfl rfl (hs_iln g3)) ?_
      exact hw_cc hW61 hX.2.1 hW63 (by omega) hw_f112
    by_cases hc : sf (138 + o) &&& c = 0
    · rw [if_pos hc] at h2
      have hE : hw_E sf c P k o = true := hw_E_iff.mpr ⟨⟨hk, ho⟩, hb, hc⟩
      obtain ⟨rk, rk0, rk1⟩ := hR k (by omega)
      obtain ⟨ro, ro0, ro1⟩ := hR o (by omega)
      have ro2 := hn_1' (x := f o) (by omega) (by omega)
      have h3 : af_To (d + 1) hw_m (115, lv, [.int 1], w) (134, lv, [.int (f k), .int (f o + Int32.ofInt 1)], w) := by
        refine af_To.tr (ht_st (s' := (118, _, _, _)) hw_f115 rfl rfl rfl (hs_ifn (t := 153) (hc_eqn (by decide)) rfl)) ?_
        refine af_To.tr (ht_st (s' := (119, _, _, _)) hw_f118 rfl rfl rfl (hs_al g0)) ?_
        refine af_To.tr (ht_st (s' := (122, _, _, _)) hw_f119 rfl rfl rfl (hp_gf hw_k56 hW61 hX.2.2.1)) ?_
        refine af_To.tr (ht_st (s' := (124, _, _, _)) hw_f122 rfl rfl rfl (hs_il g6)) ?_
        refine af_To.tr (ht_st (s' := (125, _, _, _)) hw_f124 rfl rfl rfl (hs_ian hW70 (by omega) (by omega))) ?_
        refine af_To.tr (ht_st (s' := (126, _, _, _)) hw_f125 rfl rfl rfl rfl) ?_
        refine af_To.tr (ht_st (s' := (127, _, _, _)) hw_f126 rfl rfl rfl rfl) ?_
        refine af_To.tr (ht_st (s' := (128, _, _, _)) hw_f127 rfl rfl rfl (hs_al g0)) ?_
        refine af_To.tr (ht_st (s' := (131, _, _, _)) hw_f128 rfl rfl rfl (hp_gf hw_k56 hW61 hX.2.2.1)) ?_
        refine af_To.tr (ht_st (s' := (133, _, _, _)) hw_f131 rfl rfl rfl (hs_il g5)) ?_
        refine af_To.tr (ht_st (s' := (134, _, _, _)) hw_f133 rfl rfl rfl (hs_ian hW70 (by omega) (by omega))) ?_
        exact af_To.rf _ _ _
      by_cases hl : F o + 1 < F k
      · refine ⟨w.set 70 (.inl (0, 10, .inl (upd f k (f o + Int32.ofInt 1)))), upd f k (f o + Int32.ofInt 1), (h1.tr (h2.tr h3)).tr ?_, hW.s70 _, ?_⟩
        · refine af_To.tr (ht_st (s' := (137, _, _, _)) hw_f134 rfl rfl rfl (hs_icn (t := 153) (hc_gen (by omega)) rfl)) ?_
          refine af_To.tr (ht_st (s' := (138, _, _, _)) hw_f137 rfl rfl rfl (hs_al g0)) ?_
          refine af_To.tr (ht_st (s' := (141, _, _, _)) hw_f138 rfl rfl rfl (hp_gf hw_k56 hW61 hX.2.2.1)) ?_
          refine af_To.tr (ht_st (s' := (143, _, _, _)) hw_f141 rfl rfl rfl (hs_il g5)) ?_
          refine af_To.tr (ht_st (s' := (144, _, _, _)) hw_f143 rfl rfl rfl (hs_al g0)) ?_
          refine af_To.tr (ht_st (s' := (147, _, _, _)) hw_f144 rfl rfl rfl (hp_gf hw_k56 hW61 hX.2.2.1)) ?_
          refine af_To.tr (ht_st (s' := (149, _, _, _)) hw_f147 rfl rfl rfl (hs_il g6)) ?_
          refine af_To.tr (ht_st (s' := (150, _, _, _)) hw_f149 rfl rfl rfl (hs_ian hW70 (by omega) (by omega))) ?_
          refine af_To.tr (ht_st (s' := (151, _, _, _)) hw_f150 rfl rfl rfl rfl) ?_
          refine af_To.tr (ht_st (s' := (152, _, _, _)) hw_f151 rfl rfl rfl rfl) ?_
          refine af_To.tr (ht_st (s' := (153, _, _, _)) hw_f152 rfl rfl rfl (hs_isn hW70 (by omega) (by omega))) ?_
          exact af_To.rf _ _ _
        · intro i hi
          unfold hw_rx
          rw [if_pos ⟨hE, hl⟩]
          unfold upd
          by_cases e : i = k
          · rw [if_pos e, if_pos e]
            omega
          · rw [if_neg e, if_neg e]
            exact hR i hi
      · refine ⟨w, f, (h1.tr (h2.tr h3)).tr (ht_st hw_f134 rfl rfl rfl (hs_ic (hc_ge (by omega)) rfl)), hW, ?_⟩
        unfold hw_rx
        rw [if_neg (fun q => hl q.2)]
        exact hR
    · rw [if_neg hc] at h2
      refine ⟨w, f, (h1.tr h2).tr (ht_st hw_f115 rfl rfl rfl (hs_if (hc_eq rfl) rfl)), hW, ?_⟩
      unfold hw_rx
      rw [if_neg (fun q => hc (hw_E_iff.mp q.1).2.2)]
      exact hR
  · rw [if_neg hb] at h1
    refine ⟨w, f, h1.tr (ht_st hw_f105 rfl rfl rfl (hs_if (hc_eq rfl) rfl)), hW, ?_⟩
    unfold hw_rx
    rw [if_neg (fun q => hb (hw_E_iff.mp q.1).2.1)]
    exact hR
theorem hw_l6 {d : Nat} {w0 : pi_W} {fs : List Value} {sf g : Nat → Int32} {P : Nat} {a b c : Int32} (hX : hw_X w0 fs sf P) {k : Nat} (hk : k < P) (r : Int32) : ∀ (n o : Nat) (lv : pi_L) (w : pi_W) (f : Nat → Int32) (F : Nat → Int), o + n = P → hw_W w0 w f g → hw_R f F → hw_B lv a b c → pi_get lv 4 = some (.int r) → pi_get lv 5 = some (.int (Int32.ofNat k)) → pi_get lv 6 = some (.int (Int32.ofNat o)) → ∃ lv' w' f', af_To (d + 1) hw_m (80, lv, [], w) (159, lv', [], w') ∧ hw_W w0 w' f' g ∧ hw_R f' ((List.range' o n).foldl (hw_rx (hw_E sf c P) k) F) ∧ hw_B lv' a b c ∧ pi_get lv' 4 = some (.int r) ∧ pi_get lv' 5 = some (.int (Int32.ofNat k)) := by
  intro n
  induction n with
  | zero =>
    intro o lv w f F hn hW hR hB g4 g5 g6
    obtain ⟨g0, g1, g2, g3⟩ := hB
    have hW61 : w[61]? = some (.inr (11, fs)) := (hW.2.1 61 (by decide) (by decide)).trans hX.1
    have hW63 : w[63]? = some (.inl (0, 411, .inl sf)) := (hW.2.1 63 (by decide) (by decide)).trans hX.2.2.2.2.1
    have hW70 := hW.2.2.1
    have hP10 := hX.2.2.2.2.2.2
    refine ⟨lv, w, f, ?_, hW, hR, ⟨g0, g1, g2, g3⟩, g4, g5⟩
    refine af_To.tr (ht_st (s' := (82, _, _, _)) hw_f80 rfl rfl rfl (hs_il g6)) ?_
    refine af_To.tr (ht_st (s' := (83, _, _, _)) hw_f82 rfl rfl rfl (hs_al g0)) ?_
    refine af_To.tr (ht_st (s' := (86, _, _, _)) hw_f83 rfl rfl rfl (hp_gf hw_k33 hW61 hX.2.1)) ?_
    refine af_To.tr (ht_st (s' := (87, _, _, _)) hw_f86 rfl rfl rfl rfl) ?_
    refine af_To.tr (ht_st (s' := (88, _, _, _)) hw_f87 rfl rfl rfl (hs_ia0 hW63 (by decide))) ?_
    exact ht_st hw_f88 rfl rfl rfl (hs_ic (hc_ge (by rw [hX.2.2.2.2.2.1, hn_t (by omega), hn_t (by omega)]; omega)) rfl)
  | succ n ih =>
    intro o lv w f F hn hW hR hB g4 g5 g6
    obtain ⟨w1, f1, q1, q2, q3⟩ := hw_b6 (d := d) hX hW hR hB g5 g6 hk (by omega)
    have hB0 := hB
    obtain ⟨g0, g1, g2, g3⟩ := hB
    have hW61 : w[61]? = some (.inr (11, fs)) := (hW.2.1 61 (by decide) (by decide)).trans hX.1
    have hW63 : w[63]? = some (.inl (0, 411, .inl sf)) := (hW.2.1 63 (by decide) (by decide)).trans hX.2.2.2.2.1
    have hW70 := hW.2.2.1
    have hP10 := hX.2.2.2.2.2.2
    obtain ⟨lv', w', f', p1, p2, p3, p4, p5, p6⟩ := ih (o + 1) (pi_set lv 6 (.int (Int32.ofNat (o + 1)))) w1 f1 _ (by omega) q2 q3 (hB0.set (by decide)) (hg_ne g4 (by decide)) (hg_ne g5 (by decide)) (pi_get_set _ _ _)
    refine ⟨lv', w', f', ?_, p2, p3, p4, p5, p6⟩
    refine af_To.tr (ht_st (s' := (82, _, _, _)) hw_f80 rfl rfl rfl (hs_il g6)) ?_
    refine af_To.tr (ht_st (s' := (83, _, _, _)) hw_f82 rfl rfl rfl (hs_al g0)) ?_
    refine af_To.tr (ht_st (s' := (86, _, _, _)) hw_f83 rfl rfl rfl (hp_gf hw_k33 hW61 hX.2.1)) ?_
    refine af_To.tr (ht_st (s' := (87, _, _, _)) hw_f86 rfl rfl rfl rfl) ?_
    refine af_To.tr (ht_st (s' := (88, _, _, _)) hw_f87 rfl rfl rfl (hs_ia0 hW63 (by decide))) ?_
    refine af_To.tr (ht_st (s' := (91, _, _, _)) hw_f88 rfl rfl rfl (hs_icn (t := 159) (hc_gen (by rw [hX.2.2.2.2.2.1, hn_t (by omega), hn_t (by omega)]; omega)) rfl)) ?_
    refine af_To.tr q1 ?_
    refine af_To.tr (ht_st (s' := (156, _, _, _)) hw_f153 rfl rfl rfl (hs_inc g6 (by decide))) ?_
    rw [hn_s]
    exact af_To.tr (ht_st (s' := (80, _, _, _)) hw_f156 rfl rfl rfl rfl) p1
theorem hw_l5 {d : Nat} {w0 : pi_W} {fs : List Value} {sf g : Nat → Int32} {P : Nat} {a b c : Int32} (hX : hw_X w0 fs sf P) (r : Int32) : ∀ (n k : Nat) (lv : pi_L) (w : pi_W) (f : Nat → Int32) (F : Nat → Int), k + n = P → hw_W w0 w f g → hw_R f F → hw_B lv a b c → pi_get lv 4 = some (.int r) → pi_get lv 5 = some (.int (Int32.ofNat k)) → ∃ lv' w' f', af_To (d + 1) hw_m (66, lv, [], w) (165, lv', [], w') ∧ hw_W w0 w' f' g ∧ hw_R f' ((List.range' k n).foldl (hw_r1 (hw_E sf c P) P) F) ∧ hw_B lv' a b c ∧ pi_get lv' 4 = some (.int r) := by
  intro n
  induction n with
  | zero =>
    intro k lv w f F hn hW hR hB g4 g5
    obtain ⟨g0, g1, g2, g3⟩ := hB
    have hW61 : w[61]? = some (.inr (11, fs)) := (hW.2.1 61 (by decide) (by decide)).trans hX.1
    have hW63 : w[63]? = some (.inl (0, 411, .inl sf)) := (hW.2.1 63 (by decide) (by decide)).trans hX.2.2.2.2.1
    have hW70 := hW.2.2.1
    have hP10 := hX.2.2.2.2.2.2
    refine ⟨lv, w, f, ?_, hW, hR, ⟨g0, g1, g2, g3⟩, g4⟩
    refine af_To.tr (ht_st (s' := (68, _, _, _)) hw_f66 rfl rfl rfl (hs_il g5)) ?_
    refine af_To.tr (ht_st (s' := (69, _, _, _)) hw_f68 rfl rfl rfl (hs_al g0)) ?_
    refine af_To.tr (ht_st (s' := (72, _, _, _)) hw_f69 rfl rfl rfl (hp_gf hw_k33 hW61 hX.2.1)) ?_
    refine af_To.tr (ht_st (s' := (73, _, _, _)) hw_f72 rfl rfl rfl rfl) ?_
    refine af_To.tr (ht_st (s' := (74, _, _, _)) hw_f73 rfl rfl rfl (hs_ia0 hW63 (by decide))) ?_
    exact ht_st hw_f74 rfl rfl rfl (hs_ic (hc_ge (by rw [hX.2.2.2.2.2.1, hn_t (by omega), hn_t (by omega)]; omega)) rfl)
  | succ n ih =>
    intro k lv w f F hn hW hR hB g4 g5
    have hB0 := hB
    obtain ⟨g0, g1, g2, g3⟩ := hB
    have hW61 : w[61]? = some (.inr (11, fs)) := (hW.2.1 61 (by decide) (by decide)).trans hX.1
    have hW63 : w[63]? = some (.inl (0, 411, .inl sf)) := (hW.2.1 63 (by decide) (by decide)).trans hX.2.2.2.2.1
    have hW70 := hW.2.2.1
    have hP10 := hX.2.2.2.2.2.2
    obtain ⟨lv1, w1, f1, q1, q2, q3, q4, q5, q6⟩ := hw_l6 (d := d) hX (k := k) (by omega) r P 0 (pi_set lv 6 (.int (Int32.ofNat 0))) w f F (by omega) hW hR (hB0.set (by decide)) (hg_ne g4 (by decide)) (hg_ne g5 (by decide)) (pi_get_set _ _ _)
    rw [← List.range_eq_range'] at q3
    obtain ⟨lv', w', f', p1, p2, p3, p4, p5⟩ := ih (k + 1) (pi_set lv1 5 (.int (Int32.ofNat (k + 1)))) w1 f1 _ (by omega) q2 q3 (q4.set (by decide)) (hg_ne q5 (by decide)) (pi_get_set _ _ _)
    refine ⟨lv', w', f', ?_, p2, p3, p4, p5⟩
    refine af_To.tr (ht_st (s' := (68, _, _, _)) hw_f66 rfl rfl rfl (hs_il g5)) ?_
    refine af_To.tr (ht_st (s' := (69, _, _, _)) hw_f68 rfl rfl rfl (hs_al g0)) ?_
    refine af_To.tr (ht_st (s' := (72, _, _, _)) hw_f69 rfl rfl rfl (hp_gf hw_k33 hW61 hX.2.1)) ?_
    refine af_To.tr (ht_st (s' := (73, _, _, _)) hw_f72 rfl rfl rfl rfl) ?_
    refine af_To.tr (ht_st (s' := (74, _, _, _)) hw_f73 rfl rfl rfl (hs_ia0 hW63 (by decide))) ?_
    refine af_To.tr (ht_st (s' := (77, _, _, _)) hw_f74 rfl rfl rfl (hs_icn (t := 165) (hc_gen (by rw [hX.2.2.2.2.2.1, hn_t (by omega), hn_t (by omega)]; omega)) rfl)) ?_
    refine af_To.tr (ht_st (s' := (78, lv, [.int (Int32.ofNat 0)], w)) hw_f77 rfl rfl rfl rfl) ?_
    refine af_To.tr (ht_st (s' := (80, _, _, _)) hw_f78 rfl rfl rfl (hs_st (by decide))) ?_
    refine af_To.tr q1 ?_
    refine af_To.tr (ht_st (s' := (162, _, _, _)) hw_f159 rfl rfl rfl (hs_inc q6 (by decide))) ?_
    rw [hn_s]
    exact af_To.tr (ht_st (s' := (66, _, _, _)) hw_f162 rfl rfl rfl rfl) p1
theorem hw_l4 {d : Nat} {w0 : pi_W} {fs : List Value} {sf g : Nat → Int32} {P : Nat} {a b c : Int32} (hX : hw_X w0 fs sf P) : ∀ (n r : Nat) (lv : pi_L) (w : pi_W) (f : Nat → Int32) (F : Nat → Int), r + n = 10 → hw_W w0 w f g → hw_R f F → hw_B lv a b c → pi_get lv 4 = some (.int (Int32.ofNat r)) → ∃ lv' w' f', af_To (d + 1) hw_m (56, lv, [], w) (171, lv', [], w') ∧ hw_W w0 w' f' g ∧ hw_R f' (hw_r3 (hw_E sf c P) P n F) ∧ hw_B lv' a b c := by
  intro n
  induction n with
  | zero =>
    intro r lv w f F hn hW hR hB g4
    obtain ⟨g0, g1, g2, g3⟩ := hB
    refine ⟨lv, w, f, ?_, hW, hR, ⟨g0, g1, g2, g3⟩⟩
    refine af_To.tr (ht_st (s' := (58, _, _, _)) hw_f56 rfl rfl rfl (hs_il g4)) ?_
    refine af_To.tr (ht_st (s' := (60, _, _, _)) hw_f58 rfl rfl rfl rfl) ?_
    exact ht_st hw_f60 rfl rfl rfl (hs_ic (hc_ge (by rw [hn_t (by omega), hw_10]; omega)) rfl)
  | succ n ih =>
    intro r lv w f F hn hW hR hB g4
    have hB0 := hB
    obtain ⟨g0, g1, g2, g3⟩ := hB
    obtain ⟨lv1, w1, f1, q1, q2, q3, q4, q5⟩ := hw_l5 (d := d) hX (Int32.ofNat r) P 0 (pi_set lv 5 (.int (Int32.ofNat 0))) w f F (by omega) hW hR (hB0.set (by decide)) (hg_ne g4 (by decide)) (pi_get_set _ _ _)
    rw [← List.range_eq_range'] at q3
    obtain ⟨lv', w', f', p1, p2, p3, p4⟩ := ih (r + 1) (pi_set lv1 4 (.int (Int32.ofNat (r + 1)))) w1 f1 _ (by omega) q2 q3 (q4.set (by decide)) (pi_get_set _ _ _)
    refine ⟨lv', w', f', ?_, p2, p3, p4⟩
    refine af_To.tr (ht_st (s' := (58, _, _, _)) hw_f56 rfl rfl rfl (hs_il g4)) ?_
    refine af_To.tr (ht_st (s' := (60, _, _, _)) hw_f58 rfl rfl rfl rfl) ?_
    refine af_To.tr (ht_st (s' := (63, _, _, _)) hw_f60 rfl rfl rfl (hs_icn (t := 171) (hc_gen (by rw [hn_t (by omega), hw_10]; omega)) rfl)) ?_
    refine af_To.tr (ht_st (s' := (64, lv, [.int (Int32.ofNat 0)], w)) hw_f63 rfl rfl rfl rfl) ?_
    refine af_To.tr (ht_st (s' := (66, _, _, _)) hw_f64 rfl rfl rfl (hs_st (by decide))) ?_
    refine af_To.tr q1 ?_
    refine af_To.tr (ht_st (s' := (168, _, _, _)) hw_f165 rfl rfl rfl (hs_inc q5 (by decide))) ?_
    rw [hn_s]
    exact af_To.tr (ht_st (s' := (56, _, _, _)) hw_f168 rfl rfl rfl rfl) p1
def hw_F0 (t0 i : Nat) : Int := if i = t0 then 0 else 100
theorem hw_l1 {d : Nat} {w0 : pi_W} {fs : List Value} {sf g : Nat → Int32} {P : Nat} {a c : Int32} {t0 : Nat} (ht0 : t0 < 10) (hX : hw_X w0 fs sf P) : ∀ (n k : Nat) (lv : pi_L) (w : pi_W) (f : Nat → Int32), k + n = 10 → hw_W w0 w f g → (∀ i, i < k → (f i).toInt = hw_F0 t0 i) → hw_B lv a (Int32.ofNat t0) c → pi_get lv 4 = some (.int (Int32.ofNat k)) → ∃ lv' w' f', af_To (d + 1) hw_m (21, lv, [], w) (53, lv', [], w') ∧ hw_W w0 w' f' g ∧ (∀ i, i < 10 → (f' i).toInt = hw_F0 t0 i) ∧ hw_B lv' a (Int32.ofNat t0) c := by
  intro n
  induction n with
  | zero =>
    intro k lv w f hn hW hR hB g4
    obtain ⟨g0, g1, g2, g3⟩ := hB
    refine ⟨lv, w, f, ?_, hW, (fun i hi => hR i (by omega)), ⟨g0, g1, g2, g3⟩⟩
    refine af_To.tr (ht_st (s' := (23, _, _, _)) hw_f21 rfl rfl rfl (hs_il g4)) ?_
    refine af_To.tr (ht_st (s' := (25, _, _, _)) hw_f23 rfl rfl rfl rfl) ?_
    exact ht_st hw_f25 rfl rfl rfl (hs_ic (hc_ge (by rw [hn_t (by omega), hw_10]; omega)) rfl)
  | succ n ih =>
    intro k lv w f hn hW hR hB g4
    have hB0 := hB
    obtain ⟨g0, g1, g2, g3⟩ := hB
    have hW61 : w[61]? = some (.inr (11, fs)) := (hW.2.1 61 (by decide) (by decide)).trans hX.1
    have hW70 := hW.2.2.1
    have hb : ∃ v : Int32, v.toInt = hw_F0 t0 k ∧ af_To (d + 1) hw_m (37, lv, [.int (Int32.ofNat t0), .int (Int32.ofNat k), .int (Int32.ofNat k), .ref 70], w) (46, lv, [.int v, .int (Int32.ofNat k), .ref 70], w) := by
      unfold hw_F0
      by_cases e : k = t0
      · rw [if_pos e]
        refine ⟨Int32.ofInt 0, by decide, ?_⟩
        refine af_To.tr (ht_st (s' := (40, _, _, _)) hw_f37 rfl rfl rfl (hs_icn (t := 44) (hc_nen (by rw [e])) rfl)) ?_
        refine af_To.tr (ht_st (s' := (41, _, _, _)) hw_f40 rfl rfl rfl rfl) ?_
        exact ht_st hw_f41 rfl rfl rfl rfl
      · rw [if_neg e]
        refine ⟨(Int8.ofInt 100).toInt32, by decide, ?_⟩
        refine af_To.tr (ht_st (s' := (44, _, _, _)) hw_f37 rfl rfl rfl (hs_ic (hc_ne (fun q => e (by have q2 := congrArg Int32.toInt q; rw [hn_t (by omega), hn_t (by omega)] at q2; omega))) rfl)) ?_
        exact ht_st hw_f44 rfl rfl rfl rfl
    obtain ⟨v, hv, hb⟩ := hb
    obtain ⟨lv', w', f', p1, p2, p3, p4⟩ := ih (k + 1) (pi_set lv 4 (.int (Int32.ofNat (k + 1)))) _ (upd f k v) (by omega) (hW.s70 (upd f k v)) (by
      intro i hi
      unfold upd
      by_cases e : i = k
      · rw [if_pos e, e]
        exact hv
      · rw [if_neg e]
        exact hR i (by omega)) (hB0.set (by decide)) (pi_get_set _ _ _)
    refine ⟨lv', w', f', ?_, p2, p3, p4⟩
    refine af_To.tr (ht_st (s' := (23, _, _, _)) hw_f21 rfl rfl rfl (hs_il g4)) ?_
    refine af_To.tr (ht_st (s' := (25, _, _, _)) hw_f23 rfl rfl rfl rfl) ?_
    refine af_To.tr (ht_st (s' := (28, _, _, _)) hw_f25 rfl rfl rfl (hs_icn (t := 53) (hc_gen (by rw [hn_t (by omega), hw_10]; omega)) rfl)) ?_
    refine af_To.tr (ht_st (s' := (29, _, _, _)) hw_f28 rfl rfl rfl (hs_al g0)) ?_
    refine af_To.tr (ht_st (s' := (32, _, _, _)) hw_f29 rfl rfl rfl (hp_gf hw_k56 hW61 hX.2.2.1)) ?_
    refine af_To.tr (ht_st (s' := (34, _, _, _)) hw_f32 rfl rfl rfl (hs_il g4)) ?_
    refine af_To.tr (ht_st (s' := (36, _, _, _)) hw_f34 rfl rfl rfl (hs_il g4)) ?_
    refine af_To.tr (ht_st (s' := (37, _, _, _)) hw_f36 rfl rfl rfl (hs_iln g2)) ?_
    refine af_To.tr hb ?_
    refine af_To.tr (ht_st (s' := (47, _, _, _)) hw_f46 rfl rfl rfl (hs_isn hW70 (by omega) (by omega))) ?_
    refine af_To.tr (ht_st (s' := (50, _, _, _)) hw_f47 rfl rfl rfl (hs_inc g4 (by decide))) ?_
    rw [hn_s]
    exact af_To.tr (ht_st (s' := (21, _, _, _)) hw_f50 rfl rfl rfl rfl) p1
def hw_T (d : Nat) (lv : pi_L) (w : pi_W) (F : Nat → Int) (a b c : Int32) (M i : Nat) : Prop := ∃ lv' v, af_To (d + 1) hw_m (204, lv, [], w) (254, lv', [], w) ∧ v < 10 ∧ F v = (M : Int) - 1 - i ∧ hw_B lv' a b c ∧ pi_get lv' 4 = some (.int (Int32.ofNat M)) ∧ pi_get lv' 6 = some (.int (Int32.ofNat i)) ∧ pi_get lv' 7 = some (.int (Int32.ofNat v))
theorem hw_l8s {d : Nat} {w0 : pi_W} {fs : List Value} {sf g : Nat → Int32} {P : Nat} {a b c : Int32} (hX : hw_X w0 fs sf P) {F : Nat → Int} {f : Nat → Int32} (hR : hw_R f F) {w : pi_W} (hW : hw_W w0 w f g) {k M i u o : Nat} {lv : pi_L} (hk : k < 10) (hM : M < 100) (hi : i < M) (hu : o = u → hw_E sf c P k o = true) (hF : o = u → F o = (M : Int) - 1 - i) (ho : o < 10) (hn : o = u ∨ hw_T d (pi_set lv 7 (.int (Int32.ofNat (o + 1)))) w F a b c M i) (hB : hw_B lv a b c) (g4 : pi_get lv 4 = some (.int (Int32.ofNat M))) (g5 : pi_get lv 5 = some (.int (Int32.ofNat k))) (g6 : pi_get lv 6 = some (.int (Int32.ofNat i))) (g7 : pi_get lv 7 = some (.int (Int32.ofNat o))) : hw_T d lv w F a b c M i := by
  have hB0 := hB
  obtain ⟨g0, g1, g2, g3⟩ := hB
  have hW61 : w[61]? = some (.inr (11, fs)) := (hW.2.1 61 (by decide) (by decide)).trans hX.1
  have hW63 : w[63]? = some (.inl (0, 411, .inl sf)) := (hW.2.1 63 (by decide) (by decide)).trans hX.2.2.2.2.1
  have hW70 := hW.2.2.1
  have hP10 := hX.2.2.2.2.2.2
  have hgo : o ≠ u → af_To (d + 1) hw_m (204, lv, [], w) (248, lv, [], w) → hw_T d lv w F a b c M i := by
    intro hne h
    rcases hn with q | ⟨lv', v, q1, q⟩
    · exact absurd q hne
    · refine ⟨lv', v, h.tr ?_, q⟩
      refine af_To.tr (ht_st (s' := (251, _, _, _)) hw_f248 rfl rfl rfl (hs_inc g7 (by decide))) ?_
      rw [hn_s]
      exact af_To.tr (ht_st (s' := (204, _, _, _)) hw_f251 rfl rfl rfl rfl) q1
  have h1 : af_To (d + 1) hw_m (204, lv, [], w) (218, lv, [.int (if sf (5 + k) >>> (Int32.ofNat o &&& 31) &&& 1 = 1 then 1 else 0)], w) := by
    refine af_To.tr (ht_st (s' := (205, _, _, _)) hw_f204 rfl rfl rfl (hs_al g0)) ?_
    refine af_To.tr (ht_st (s' := (208, _, _, _)) hw_f205 rfl rfl rfl (hp_gf hw_k33 hW61 hX.2.1)) ?_
    refine af_To.tr (ht_st (s' := (209, _, _, _)) hw_f208 rfl rfl rfl rfl) ?_
    refine af_To.tr (ht_st (s' := (211, _, _, _)) hw_f209 rfl rfl rfl (hs_il g5)) ?_
    refine af_To.tr (ht_st (s' := (212, _, _, _)) hw_f211 rfl rfl rfl hs_a5) ?_
    refine af_To.tr (ht_st (s' := (213, _, _, _)) hw_f212 rfl rfl rfl (hs_ian hW63 (by omega) (by omega))) ?_
    refine af_To.tr (ht_st (s' := (215, _, _, _)) hw_f213 rfl rfl rfl (hs_il g7)) ?_
    exact hw_cb hw_f215
  by_cases hb : sf (5 + k) >>> (Int32.ofNat o &&& 31) &&& 1 = 1
  · rw [if_pos hb] at h1
    have h2 : af_To (d + 1) hw_m (218, lv, [.int 1], w) (228, lv, [.int (if sf (138 + o) &&& c = 0 then 1 else 0)], w) := by
      refine af_To.tr (ht_st (s' := (221, _, _, _)) hw_f218 rfl rfl rfl (hs_ifn (t := 248) (hc_eqn (by decide)) rfl)) ?_
      refine af_To.tr (ht_st (s' := (222, _, _, _)) hw_f221 rfl rfl rfl (hs_al g0)) ?_
      refine af_To.tr (ht_st (s' := (224, _, _, _)) hw_f222 rfl rfl rfl (hs_il g7)) ?_
      refine af_To.tr (ht_st (s' := (225, _, _, _)) hw_f224 rfl rfl rfl (hs_iln g3)) ?_
      exact hw_cc hW61 hX.2.1 hW63 (by omega) hw_f225
    by_cases hc : sf (138 + o) &&& c = 0
    · rw [if_pos hc] at h2
      obtain ⟨ro, ro0, ro1⟩ := hR o (by omega)
      have hx : (Int32.ofNat M - Int32.ofInt 1 - Int32.ofNat i).toInt = (M : Int) - 1 - i := by
        have e1 : (Int32.ofNat M - Int32.ofInt 1).toInt = (M : Int) - 1 := by
          rw [Int32.toInt_sub, hn_t (by omega)]
          have e : (Int32.ofInt 1).toInt = 1 := rfl
          rw [e]
          apply Int.bmod_eq_of_le <;> omega
        rw [Int32.toInt_sub, e1, hn_t (by omega)]
        apply Int.bmod_eq_of_le <;> omega
      have h3 : af_To (d + 1) hw_m (228, lv, [.int 1], w) (245, lv, [.int (Int32.ofNat M - Int32.ofInt 1 - Int32.ofNat i), .int (f o)], w) := by
        refine af_To.tr (ht_st (s' := (231, _, _, _)) hw_f228 rfl rfl rfl (hs_ifn (t := 248) (hc_eqn (by decide)) rfl)) ?_
        refine af_To.tr (ht_st (s' := (232, _, _, _)) hw_f231 rfl rfl rfl (hs_al g0)) ?_
        refine af_To.tr (ht_st (s' := (235, _, _, _)) hw_f232 rfl rfl rfl (hp_gf hw_k56 hW61 hX.2.2.1)) ?_
        refine af_To.tr (ht_st (s' := (237, _, _, _)) hw_f235 rfl rfl rfl (hs_il g7)) ?_
        refine af_To.tr (ht_st (s' := (238, _, _, _)) hw_f237 rfl rfl rfl (hs_ian hW70 (by omega) (by omega))) ?_
        refine af_To.tr (ht_st (s' := (240, _, _, _)) hw_f238 rfl rfl rfl (hs_il g4)) ?_
        refine af_To.tr (ht_st (s' := (241, _, _, _)) hw_f240 rfl rfl rfl rfl) ?_
        refine af_To.tr (ht_st (s' := (242, _, _, _)) hw_f241 rfl rfl rfl rfl) ?_
        refine af_To.tr (ht_st (s' := (244, _, _, _)) hw_f242 rfl rfl rfl (hs_il g6)) ?_
        refine af_To.tr (ht_st (s' := (245, _, _, _)) hw_f244 rfl rfl rfl rfl) ?_
        exact af_To.rf _ _ _
      by_cases hl : F o = (M : Int) - 1 - i
      · refine ⟨lv, o, ((h1.tr h2).tr h3).tr (ht_st hw_f245 rfl rfl rfl (hs_ic (hc_eq (Int32.toInt_inj.mp (by omega))) rfl)), ho, hl, hB0, g4, g6, g7⟩
      · exact hgo (fun e => hl (hF e)) (((h1.tr h2).tr h3).tr (ht_st hw_f245 rfl rfl rfl (hs_icn (t := 254) (hc_eqn (fun e => hl (by rw [← ro, e, hx]))) rfl)))
    · rw [if_neg hc] at h2
      exact hgo (fun e => hc (hw_E_iff.mp (hu e)).2.2) ((h1.tr h2).tr (ht_st hw_f228 rfl rfl rfl (hs_if (hc_eq rfl) rfl)))
  · rw [if_neg hb] at h1
    exact hgo (fun e => hb (hw_E_iff.mp (hu e)).2.1) (h1.tr (ht_st hw_f218 rfl rfl rfl (hs_if (hc_eq rfl) rfl)))
theorem hw_l8 {d : Nat} {w0 : pi_W} {fs : List Value} {sf g : Nat → Int32} {P : Nat} {a b c : Int32} (hX : hw_X w0 fs sf P) {F : Nat → Int} {f : Nat → Int32} (hR : hw_R f F) {w : pi_W} (hW : hw_W w0 w f g) {k M i : Nat} (hk : k < 10) (hM : M < 100) (hi : i < M) {u : Nat} (hu : hw_E sf c P k u = true) (hF : F u = (M : Int) - 1 - i) : ∀ (n o : Nat) (lv : pi_L), o + n = u → hw_B lv a b c → pi_get lv 4 = some (.int (Int32.ofNat M)) → pi_get lv 5 = some (.int (Int32.ofNat k)) → pi_get lv 6 = some (.int (Int32.ofNat i)) → pi_get lv 7 = some (.int (Int32.ofNat o)) → hw_T d lv w F a b c M i := by
  intro n
  induction n with
  | zero => exact fun o lv hn hB g4 g5 g6 g7 => hw_l8s hX hR hW hk hM hi (u := u) (fun e => by rw [e]; exact hu) (fun e => by rw [e]; exact hF) (by have := (hw_E_iff.mp hu).1; have := hX.2.2.2.2.2.2; omega) (Or.inl (by omega)) hB g4 g5 g6 g7
  | succ n ih =>
    intro o lv hn hB g4 g5 g6 g7
    refine hw_l8s hX hR hW hk hM hi (u := u) (fun e => by omega) (fun e => by omega) (by have := (hw_E_iff.mp hu).1; have := hX.2.2.2.2.2.2; omega) (Or.inr ?_) hB g4 g5 g6 g7
    exact ih (o + 1) (pi_set lv 7 (.int (Int32.ofNat (o + 1)))) (by omega) (hB.set (by decide)) (hg_ne g4 (by decide)) (hg_ne g5 (by decide)) (hg_ne g6 (by decide)) (pi_get_set _ _ _)
theorem hw_l7 {d : Nat} {w0 : pi_W} {fs : List Value} {sf : Nat → Int32} {P : Nat} {a b c : Int32} (hX : hw_X w0 fs sf P) {F : Nat → Int} {f : Nat → Int32} (hR : hw_R f F) {M : Nat} (hM : M ≤ 9) (hst : ∀ v, 0 < F v → F v < 100 → ∃ u, hw_E sf c P v u = true ∧ F u = F v - 1) : ∀ (n i k : Nat) (lv : pi_L) (w : pi_W) (g : Nat → Int32), i + n = M → k < 10 → F k = (M : Int) - i → hw_W w0 w f g → (∀ j, j < 10 → 0 ≤ (g j).toInt ∧ (g j).toInt ≤ 9) → hw_B lv a b c → pi_get lv 4 = some (.int (Int32.ofNat M)) → pi_get lv 5 = some (.int (Int32.ofNat k)) → pi_get lv 6 = some (.int (Int32.ofNat i)) → ∃ lv' w' g', af_To (d + 1) hw_m (194, lv, [], w) (273, lv', [], w') ∧ hw_W w0 w' f g' ∧ (∀ j, j < 10 → 0 ≤ (g' j).toInt ∧ (g' j).toInt ≤ 9) ∧ pi_get lv' 4 = some (.int (Int32.ofNat M)) := by
  intro n
  induction n with
  | zero =>
    intro i k lv w g hn hk hF hW hG hB g4 g5 g6
    refine ⟨lv, w, g, ?_, hW, hG, g4⟩
    refine af_To.tr (ht_st (s' := (196, _, _, _)) hw_f194 rfl rfl rfl (hs_il g6)) ?_
    refine af_To.tr (ht_st (s' := (198, _, _, _)) hw_f196 rfl rfl rfl (hs_il g4)) ?_
    exact ht_st hw_f198 rfl rfl rfl (hs_ic (hc_ge (by rw [hn_t (by omega), hn_t (by omega)]; omega)) rfl)
  | succ n ih =>
    intro i k lv w g hn hk hF hW hG hB g4 g5 g6
    obtain ⟨u, hu1, hu2⟩ := hst k (by omega) (by omega)
    obtain ⟨lv1, v, q1, q2, q3, q4, q5, q6, q7⟩ := hw_l8 (d := d) (a := a) (b := b) hX hR hW hk (M := M) (i := i) (by omega) (by omega) hu1 (by omega) u 0 (pi_set lv 7 (.int (Int32.ofNat 0))) (by omega) (hB.set (by decide)) (hg_ne g4 (by decide)) (hg_ne g5 (by decide)) (hg_ne g6 (by decide)) (pi_get_set _ _ _)
    obtain ⟨lv', w', g', p1, p2, p3, p4⟩ := ih (i + 1) v (pi_set (pi_set lv1 5 (.int (Int32.ofNat v))) 6 (.int (Int32.ofNat (i + 1)))) _ (upd g i (Int32.ofNat v)) (by omega) q2 (by omega) (hW.s71 (upd g i (Int32.ofNat v))) (by
      intro j hj
      unfold upd
      by_cases e : j = i
      · rw [if_pos e, hn_t (by omega)]
        omega
      · rw [if_neg e]
        exact hG j hj) ((q4.set (by decide)).set (by decide)) (hg_ne (hg_ne q5 (by decide)) (by decide)) (hg_ne (pi_get_set _ _ _) (by decide)) (pi_get_set _ _ _)
    refine ⟨lv', w', g', ?_, p2, p3, p4⟩
    refine af_To.tr (ht_st (s' := (196, _, _, _)) hw_f194 rfl rfl rfl (hs_il g6)) ?_
    refine af_To.tr (ht_st (s' := (198, _, _, _)) hw_f196 rfl rfl rfl (hs_il g4)) ?_
    refine af_To.tr (ht_st (s' := (201, _, _, _)) hw_f198 rfl rfl rfl (hs_icn (t := 273) (hc_gen (by rw [hn_t (by omega), hn_t (by omega)]; omega)) rfl)) ?_
    refine af_To.tr (ht_st (s' := (202, lv, [.int (Int32.ofNat 0)], w)) hw_f201 rfl rfl rfl rfl) ?_
    refine af_To.tr (ht_st (s' := (204, _, _, _)) hw_f202 rfl rfl rfl (hs_st (by decide))) ?_
    refine af_To.tr q1 ?_
    have hW61 : w[61]? = some (.inr (11, fs)) := (hW.2.1 61 (by decide) (by decide)).trans hX.1
    have hW71 := hW.2.2.2
    obtain ⟨g0, -, -, -⟩ := q4
    refine af_To.tr (ht_st (s' := (255, _, _, _)) hw_f254 rfl rfl rfl (hs_al g0)) ?_
    refine af_To.tr (ht_st (s' := (258, _, _, _)) hw_f255 rfl rfl rfl (hp_gf hw_k59 hW61 hX.2.2.2.1)) ?_
    refine af_To.tr (ht_st (s' := (260, _, _, _)) hw_f258 rfl rfl rfl (hs_il q6)) ?_
    refine af_To.tr (ht_st (s' := (262, _, _, _)) hw_f260 rfl rfl rfl (hs_il q7)) ?_
    refine af_To.tr (ht_st (s' := (263, _, _, _)) hw_f262 rfl rfl rfl (hs_isn hW71 (by omega) (by omega))) ?_
    refine af_To.tr (ht_st (s' := (265, _, _, _)) hw_f263 rfl rfl rfl (hs_il q7)) ?_
    refine af_To.tr (ht_st (s' := (267, _, _, _)) hw_f265 rfl rfl rfl (hs_st (by decide))) ?_
    refine af_To.tr (ht_st (s' := (270, _, _, _)) hw_f267 rfl rfl rfl (hs_inc (hg_ne q6 (by decide)) (by decide))) ?_
    rw [hn_s]
    exact af_To.tr (ht_st (s' := (194, _, _, _)) hw_f270 rfl rfl rfl rfl) p1
theorem hw_run {d : Nat} {w0 : pi_W} {fs : List Value} {sf f0 g0 : Nat → Int32} {P s0 t0 : Nat} {c : Int32} (hX : hw_X w0 fs sf P) (hW : hw_W w0 w0 f0 g0) (hf0 : ∀ j, j < 10 → 0 ≤ (f0 j).toInt ∧ (f0 j).toInt ≤ 100) (hg0 : ∀ j, j < 10 → 0 ≤ (g0 j).toInt ∧ (g0 j).toInt ≤ 9) (hs : s0 < 10) (ht : t0 < 10) : ∃ (n : Nat) (r : Int32) (w' : pi_W) (f g : Nat → Int32), pi_run n (d + 1) hw_m (0, lv_args 0 [.ref 61, .int (Int32.ofNat s0), .int (Int32.ofNat t0), .int c], [], w0) 0 0 = some (some (.int r), w', 0, 0) ∧ hw_W w0 w' f g ∧ (∀ j, j < 10 → 0 ≤ (f j).toInt ∧ (f j).toInt ≤ 100) ∧ (∀ j, j < 10 → 0 ≤ (g j).toInt ∧ (g j).toInt ≤ 9) ∧ (r = -1 ∨ (0 ≤ r.toInt ∧ r.toInt ≤ 9)) := by
  have hB : hw_B (lv_args 0 [.ref 61, .int (Int32.ofNat s0), .int (Int32.ofNat t0), .int c]) (Int32.ofNat s0) (Int32.ofNat t0) c := ⟨rfl, rfl, rfl, rfl⟩
  obtain ⟨lv, hlv⟩ : ∃ lv, lv = lv_args 0 [.ref 61, .int (Int32.ofNat s0), .int (Int32.ofNat t0), .int c] := ⟨_, rfl⟩
  rw [← hlv] at hB ⊢
  have hB0 := hB
  obtain ⟨q0, q1, q2, q3⟩ := hB
  have hW61 := hX.1
  have hP10 := hX.2.2.2.2.2.2
  have hin : af_To (d + 1) hw_m (0, lv, [], w0) (2, lv, [.int (Int32.ofNat t0), .int (Int32.ofNat s0)], w0) := by
    refine af_To.tr (ht_st (s' := (1, _, _, _)) hw_f0 rfl rfl rfl (hs_iln q1)) ?_
    exact ht_st hw_f1 rfl rfl rfl (hs_iln q2)
  by_cases hst : Int32.ofNat s0 = Int32.ofNat t0
  · obtain ⟨n, hn⟩ : ∃ n, pi_run n (d + 1) hw_m (0, lv, [], w0) 0 0 = some (some (.int 0), w0, 0, 0) := by
      refine hin.tr (s2 := (6, lv, [.int 0], w0)) ?_ 1 _ (pi_fi (i := .ireturn) (len := 1) hw_f6 rfl (pi_ri 0))
      refine af_To.tr (ht_st (s' := (5, _, _, _)) hw_f2 rfl rfl rfl (hs_icn (t := 7) (hc_nen hst.symm.symm) rfl)) ?_
      exact ht_st hw_f5 rfl rfl rfl rfl
    exact ⟨n, 0, w0, f0, g0, hn, hW, hf0, hg0, Or.inr ⟨by decide, by decide⟩⟩
  · have h1 : af_To (d + 1) hw_m (0, lv, [], w0) (13, lv, [.int (if sf (138 + t0) &&& c = 0 then 1 else 0)], w0) := by
      refine hin.tr ?_
      refine af_To.tr (ht_st (s' := (7, _, _, _)) hw_f2 rfl rfl rfl (hs_ic (hc_ne hst) rfl)) ?_
      refine af_To.tr (ht_st (s' := (8, _, _, _)) hw_f7 rfl rfl rfl (hs_al q0)) ?_
      refine af_To.tr (ht_st (s' := (9, _, _, _)) hw_f8 rfl rfl rfl (hs_iln q2)) ?_
      refine af_To.tr (ht_st (s' := (10, _, _, _)) hw_f9 rfl rfl rfl (hs_iln q3)) ?_
      exact hw_cc hW61 hX.2.1 hX.2.2.2.2.1 ht hw_f10
    by_cases hc : sf (138 + t0) &&& c = 0
    · rw [if_pos hc] at h1
      obtain ⟨lv1, w1, f1, a1, a2, a3, a4⟩ := hw_l1 (d := d) ht hX 10 0 (pi_set lv 4 (.int (Int32.ofNat 0))) w0 f0 (by omega) hW (fun i hi => by omega) (hB0.set (by decide)) (pi_get_set _ _ _)
      have hR1 : hw_R f1 (hw_F0 t0) := by
        intro i hi
        refine ⟨a3 i hi, ?_⟩
        unfold hw_F0
        split <;> omega
      obtain ⟨lv2, w2, f2, b1, b2, b3, b4⟩ := hw_l4 (d := d) hX 10 0 (pi_set lv1 4 (.int (Int32.ofNat 0))) w1 f1 _ (by omega) a2 hR1 (a4.set (by decide)) (pi_get_set _ _ _)
      have hE : ∀ k o, hw_E sf c P k o = true → k < P ∧ o < P := fun k o h => (hw_E_iff.mp h).1
      have hI0 : hw_I (hw_E sf c P) 0 (hw_F0 t0) := by
        intro k o _ h
        unfold hw_F0 at h
        split at h <;> omega
      have hBd0 : hw_Bd (hw_E sf c P) t0 (hw_F0 t0) := by
        refine ⟨fun v => ?_, ?_, fun v hv => Or.inl ?_⟩
        · unfold hw_F0
          split <;> omega
        · unfold hw_F0
          exact if_pos rfl
        · unfold hw_F0
          exact if_neg hv
      have hI := hw_I_n hE 10 0 _ hI0
      have e10 : (0 : Int) + ((10 : Nat) : Int) = 10 := rfl
      rw [e10] at hI
      have hBd := hw_Bd_n (P := P) 10 _ hBd0
      obtain ⟨hall, hstp⟩ := hw_end hE hP10 ht hBd hI
      obtain ⟨rs, rs0, rs1⟩ := b3 s0 hs
      have hf2 : ∀ j, j < 10 → 0 ≤ (f2 j).toInt ∧ (f2 j).toInt ≤ 100 := fun j hj => by
        have := b3 j hj
        omega
      have h2 : af_To (d + 1) hw_m (0, lv, [], w0) (179, pi_set lv2 4 (.int (f2 s0)), [], w2) := by
        refine h1.tr ?_
        refine af_To.tr (ht_st (s' := (18, _, _, _)) hw_f13 rfl rfl rfl (hs_if (hc_ne (by decide)) rfl)) ?_
        refine af_To.tr (ht_st (s' := (19, lv, [.int (Int32.ofNat 0)], w0)) hw_f18 rfl rfl rfl rfl) ?_
        refine af_To.tr (ht_st (s' := (21, _, _, _)) hw_f19 rfl rfl rfl (hs_st (by decide))) ?_
        refine af_To.tr a1 ?_
        refine af_To.tr (ht_st (s' := (54, lv1, [.int (Int32.ofNat 0)], w1)) hw_f53 rfl rfl rfl rfl) ?_
        refine af_To.tr (ht_st (s' := (56, _, _, _)) hw_f54 rfl rfl rfl (hs_st (by decide))) ?_
        refine af_To.tr b1 ?_
        have hV61 : w2[61]? = some (.inr (11, fs)) := (b2.2.1 61 (by decide) (by decide)).trans hX.1
        refine af_To.tr (ht_st (s' := (172, _, _, _)) hw_f171 rfl rfl rfl (hs_al b4.1)) ?_
        refine af_To.tr (ht_st (s' := (175, _, _, _)) hw_f172 rfl rfl rfl (hp_gf hw_k56 hV61 hX.2.2.1)) ?_
        refine af_To.tr (ht_st (s' := (176, _, _, _)) hw_f175 rfl rfl rfl (hs_iln b4.2.1)) ?_
        refine af_To.tr (ht_st (s' := (177, _, _, _)) hw_f176 rfl rfl rfl (hs_ian b2.2.2.1 (by omega) (by omega))) ?_
        exact ht_st hw_f177 rfl rfl rfl (hs_st (by decide))
      by_cases hm : (hw_r3 (hw_E sf c P) P 10 (hw_F0 t0)) s0 = 100
      · obtain ⟨n, hn⟩ : ∃ n, pi_run n (d + 1) hw_m (0, lv, [], w0) 0 0 = some (some (.int (-1)), w2, 0, 0) := by
          refine h2.tr (s2 := (187, pi_set lv2 4 (.int (f2 s0)), [.int (-1)], w2)) ?_ 1 _ (pi_fi (i := .ireturn) (len := 1) hw_f187 rfl (pi_ri (-1)))
          refine af_To.tr (ht_st (s' := (181, _, _, _)) hw_f179 rfl rfl rfl (hs_il (pi_get_set _ _ _))) ?_
          refine af_To.tr (ht_st (s' := (183, _, _, _)) hw_f181 rfl rfl rfl rfl) ?_
          refine af_To.tr (ht_st (s' := (186, _, _, _)) hw_f183 rfl rfl rfl (hs_icn (t := 188) (hc_ltn (by rw [hw_100]; omega)) rfl)) ?_
          exact ht_st hw_f186 rfl rfl rfl rfl
        exact ⟨n, -1, w2, f2, g0, hn, b2, hf2, hg0, Or.inl rfl⟩
      · have hm9 : (hw_r3 (hw_E sf c P) P 10 (hw_F0 t0)) s0 ≤ 9 := (hall s0).resolve_left hm
        have eM : f2 s0 = Int32.ofNat (f2 s0).toInt.toNat := hn_i (by omega)
        obtain ⟨M, hM⟩ : ∃ M, M = (f2 s0).toInt.toNat := ⟨_, rfl⟩
        rw [← hM] at eM
        obtain ⟨lv', w', g', p1, p2, p3, p4⟩ := hw_l7 (d := d) (a := Int32.ofNat s0) (b := Int32.ofNat t0) hX b3 (M := M) (by omega) hstp M 0 s0 (pi_set (pi_set (pi_set lv2 4 (.int (f2 s0))) 5 (.int (Int32.ofNat s0))) 6 (.int (Int32.ofNat 0))) w2 g0 (by omega) hs (by omega) b2 hg0 (((b4.set (by decide)).set (by decide)).set (by decide)) (hg_ne (hg_ne (by rw [← eM]; exact pi_get_set _ _ _) (by decide)) (by decide)) (hg_ne (pi_get_set _ _ _) (by decide)) (pi_get_set _ _ _)
        obtain ⟨n, hn⟩ : ∃ n, pi_run n (d + 1) hw_m (0, lv, [], w0) 0 0 = some (some (.int (Int32.ofNat M)), w', 0, 0) := by
          refine h2.tr (s2 := (275, lv', [.int (Int32.ofNat M)], w')) ?_ 1 _ (pi_fi (i := .ireturn) (len := 1) hw_f275 rfl (pi_ri _))
          refine af_To.tr (ht_st (s' := (181, _, _, _)) hw_f179 rfl rfl rfl (hs_il (pi_get_set _ _ _))) ?_
          refine af_To.tr (ht_st (s' := (183, _, _, _)) hw_f181 rfl rfl rfl rfl) ?_
          refine af_To.tr (ht_st (s' := (188, _, _, _)) hw_f183 rfl rfl rfl (hs_ic (hc_lt (by rw [hw_100]; omega)) rfl)) ?_
          refine af_To.tr (ht_st (s' := (189, _, _, _)) hw_f188 rfl rfl rfl (hs_iln (b4.set (by decide)).2.1)) ?_
          refine af_To.tr (ht_st (s' := (191, _, _, _)) hw_f189 rfl rfl rfl (hs_st (by decide))) ?_
          refine af_To.tr (ht_st (s' := (192, _, [.int (Int32.ofNat 0)], w2)) hw_f191 rfl rfl rfl rfl) ?_
          refine af_To.tr (ht_st (s' := (194, _, _, _)) hw_f192 rfl rfl rfl (hs_st (by decide))) ?_
          refine af_To.tr p1 ?_
          exact ht_st hw_f273 rfl rfl rfl (hs_il p4)
        exact ⟨n, Int32.ofNat M, w', f2, g', hn, p2, hf2, p3, Or.inr (by rw [hn_t (by omega)]; omega)⟩
    · rw [if_neg hc] at h1
      obtain ⟨n, hn⟩ : ∃ n, pi_run n (d + 1) hw_m (0, lv, [], w0) 0 0 = some (some (.int (-1)), w0, 0, 0) := by
        refine h1.tr (s2 := (17, lv, [.int (-1)], w0)) ?_ 1 _ (pi_fi (i := .ireturn) (len := 1) hw_f17 rfl (pi_ri (-1)))
        refine af_To.tr (ht_st (s' := (16, _, _, _)) hw_f13 rfl rfl rfl (hs_ifn (t := 18) (hc_nen rfl) rfl)) ?_
        exact ht_st hw_f16 rfl rfl rfl rfl
      exact ⟨n, -1, w0, f0, g0, hn, hW, hf0, hg0, Or.inl rfl⟩
theorem ah_439 : af_Holds aw_Sh 6 ak_439 := by
  refine ⟨⟨by decide, by decide⟩, _, _, hw_m, pz_250, fun ρ As w hC hs hT hK => ?_⟩
  obtain ⟨vs, rfl, hs1⟩ := st_r hs
  obtain ⟨a, vs1, rfl, -, ha, hs2⟩ := st_i hs1
  obtain ⟨b, vs2, rfl, -, hb, hs3⟩ := st_i hs2
  obtain ⟨c, vs3, rfl, -, hc, hs4⟩ := st_i hs3
  have hv := hs4.nil
  subst hv
  rw [af_ev_1] at ha hb hc
  have k0 := (hK.1 (0, 0, 9) (by simp [ak_439])).2
  have k1 := (hK.1 (1, 0, 9) (by simp [ak_439])).2
  dsimp only at k0 k1
  obtain ⟨e, he, fs, rfl, hln, hfs⟩ := hC.at (a := 61) (c := .inr (11, _)) rfl
  obtain ⟨v6, h6, hv6⟩ := hfs 6 (.inl 63) rfl
  obtain ⟨v23, h23, hv23⟩ := hfs 23 (.inl 70) rfl
  obtain ⟨v24, h24, hv24⟩ := hfs 24 (.inl 71) rfl
  have hv6 : v6 = .ref 63 := hv6
  have hv23 : v23 = .ref 70 := hv23
  have hv24 : v24 = .ref 71 := hv24
  subst hv6 hv23 hv24
  obtain ⟨e63, he63, hoc63⟩ := hC.at (a := 63) (c := .inl (0, 411, _)) rfl
  obtain ⟨sf, rfl, hsf⟩ := af_okA.int (by decide) hoc63
  obtain ⟨e70, he70, hoc70⟩ := hC.at (a := 70) (c := .inl (0, 10, [(10, 0, 100)])) rfl
  obtain ⟨f0, rfl, hf0⟩ := af_okA.int (by decide) hoc70
  obtain ⟨e71, he71, hoc71⟩ := hC.at (a := 71) (c := .inl (0, 10, [(10, 0, 9)])) rfl
  obtain ⟨g0, rfl, hg0⟩ := af_okA.int (by decide) hoc71
  obtain ⟨q, q1, q2, q3⟩ := hsf 0 (by decide)
  cases q1
  dsimp only at q2 q3
  have hX : hw_X w fs sf (sf 0).toInt.toNat := ⟨he, h6, h23, h24, he63, hn_i q2, by omega⟩
  have hW : hw_W w w f0 g0 := ⟨rfl, fun _ _ _ => rfl, he70, he71⟩
  have hsg : ∀ (hi : Int) (j : Nat), j < 10 → af_seg [(10, 0, hi)] j = some (0, hi) := by
    intro hi j hj
    unfold af_seg
    rw [if_pos hj]
  have hf1 : ∀ j, j < 10 → 0 ≤ (f0 j).toInt ∧ (f0 j).toInt ≤ 100 := by
    intro j hj
    obtain ⟨q, q1, q2⟩ := hf0 j hj
    rw [hsg _ j hj] at q1
    cases q1
    exact q2
  have hg1 : ∀ j, j < 10 → 0 ≤ (g0 j).toInt ∧ (g0 j).toInt ≤ 9 := by
    intro j hj
    obtain ⟨q, q1, q2⟩ := hg0 j hj
    rw [hsg _ j hj] at q1
    cases q1
    exact q2
  have ea : a = Int32.ofNat a.toInt.toNat := hn_i (by omega)
  have eb : b = Int32.ofNat b.toInt.toNat := hn_i (by omega)
  obtain ⟨n, r, w', f, g, hrun, hW', hf, hg, hr⟩ := hw_run (d := 5) (c := c) (s0 := a.toInt.toNat) (t0 := b.toInt.toNat) hX hW hf1 hg1 (by omega) (by omega)
  rw [← ea, ← eb] at hrun
  have hC' : af_Conf aw_Sh w' := by
    refine ⟨by rw [hW'.1]; exact hC.1, hC.2.1, fun k cc hk => ?_⟩
    by_cases e1 : k = 70
    · subst e1
      have e2 : aw_Sh[70]? = some (.inl (0, 10, [(10, 0, 100)])) := rfl
      rw [e2] at hk
      cases hk
      refine ⟨_, hW'.2.2.1, ?_⟩
      show af_okA 0 10 [(10, 0, 100)] _
      unfold af_okA
      rw [if_neg (by decide)]
      exact ⟨by decide, f, rfl, fun j hj => ⟨_, hsg _ j hj, hf j hj⟩⟩
    · by_cases e3 : k = 71
      · subst e3
        have e2 : aw_Sh[71]? = some (.inl (0, 10, [(10, 0, 9)])) := rfl
        rw [e2] at hk
        cases hk
        refine ⟨_, hW'.2.2.2, ?_⟩
        show af_okA 0 10 [(10, 0, 9)] _
        unfold af_okA
        rw [if_neg (by decide)]
        exact ⟨by decide, g, rfl, fun j hj => ⟨_, hsg _ j hj, hg j hj⟩⟩
      · rw [hW'.2.1 k e1 e3]
        exact hC.2.2 k cc hk
  have hFr : af_Fr [(70, 0, 10), (71, 0, 10)] w w' := by
    intro cc i hi
    unfold af_wloc
    by_cases e1 : cc = 70
    · subst e1
      have hi10 : ¬ i < 10 := by
        intro q
        have : af_cov [(70, 0, 10), (71, 0, 10)] 70 i i = true := by simp [af_cov, q]
        rw [this] at hi
        cases hi
      rw [hW'.2.2.1, he70]
      simp only [af_cloc, if_neg hi10]
    · by_cases e3 : cc = 71
      · subst e3
        have hi10 : ¬ i < 10 := by
          intro q
          have : af_cov [(70, 0, 10), (71, 0, 10)] 71 i i = true := by simp [af_cov, q]
          rw [this] at hi
          cases hi
        rw [hW'.2.2.2, he71]
        simp only [af_cloc, if_neg hi10]
      · rw [hW'.2.1 cc e1 e3]
  rcases hr with hr | hr
  · subst hr
    refine ⟨n, some (.int (-1)), w', hrun, hC', hFr, _, List.mem_cons_of_mem _ List.mem_cons_self, ρ, af_ag.rf _ _, ⟨⟨(fun v hv => by cases hv), -1, rfl, ?_⟩, trivial⟩, (fun e he => by cases he), (fun e he => by cases he), (fun e he => by cases he), (fun e he => by cases he)⟩
    rfl
  · refine ⟨n, some (.int r), w', hrun, hC', hFr, _, List.mem_cons_self, af_upd ρ 3 r.toInt, af_upd_ag ρ 3 _, ⟨⟨af_wf_1 3 0, r, rfl, ?_⟩, trivial⟩, (fun e he => by cases he), ?_, (fun e he => by cases he), (fun e he => by cases he)⟩
    · rw [af_ev_1, af_upd_at]
      omega
    · intro e he
      rcases List.mem_singleton.mp he with rfl
      refine ⟨Nat.lt_succ_self 3, ?_⟩
      show 0 ≤ af_upd ρ 3 r.toInt 3 ∧ af_upd ρ 3 r.toInt 3 ≤ 9
      rw [af_upd_at]
      exact hr
