/-! ===== what is said of a man, by hand ===== -/
theorem hi_457 : pi_look pi_iT 11 457 = some (2, 279, 4, 1837) := rfl
theorem hi_461 : pi_look pi_iT 11 461 = some (2, 280, 1, 1833) := rfl
theorem hf280_0 : pi_fetch mc_280 0 = some (.iconst 0, 1) := rfl
theorem hf280_1 : pi_fetch mc_280 1 = some (.istore_n 2, 1) := rfl
theorem hf280_2 : pi_fetch mc_280 2 = some (.iconst 0, 1) := rfl
theorem hf280_3 : pi_fetch mc_280 3 = some (.istore_n 3, 1) := rfl
theorem hf280_4 : pi_fetch mc_280 4 = some (.iload_n 3, 1) := rfl
theorem hf280_5 : pi_fetch mc_280 5 = some (.aload_n 0, 1) := rfl
theorem hf280_6 : pi_fetch mc_280 6 = some (.getfield 33, 3) := rfl
theorem hf280_9 : pi_fetch mc_280 9 = some (.sipush 230, 3) := rfl
theorem hf280_12 : pi_fetch mc_280 12 = some (.iaload, 1) := rfl
theorem hf280_13 : pi_fetch mc_280 13 = some (.if_icmp .ge 199, 3) := rfl
theorem hf280_16 : pi_fetch mc_280 16 = some (.sipush 231, 3) := rfl
theorem hf280_19 : pi_fetch mc_280 19 = some (.iconst 3, 1) := rfl
theorem hf280_20 : pi_fetch mc_280 20 = some (.iload_n 3, 1) := rfl
theorem hf280_21 : pi_fetch mc_280 21 = some (.imul, 1) := rfl
theorem hf280_22 : pi_fetch mc_280 22 = some (.iadd, 1) := rfl
theorem hf280_23 : pi_fetch mc_280 23 = some (.istore 4, 2) := rfl
theorem hf280_25 : pi_fetch mc_280 25 = some (.aload_n 0, 1) := rfl
theorem hf280_26 : pi_fetch mc_280 26 = some (.getfield 33, 3) := rfl
theorem hf280_29 : pi_fetch mc_280 29 = some (.iload 4, 2) := rfl
theorem hf280_31 : pi_fetch mc_280 31 = some (.iaload, 1) := rfl
theorem hf280_32 : pi_fetch mc_280 32 = some (.bipush 20, 2) := rfl
theorem hf280_34 : pi_fetch mc_280 34 = some (.if_icmp .ne 30, 3) := rfl
theorem hf280_37 : pi_fetch mc_280 37 = some (.aload_n 0, 1) := rfl
theorem hf280_38 : pi_fetch mc_280 38 = some (.getfield 71, 3) := rfl
theorem hf280_41 : pi_fetch mc_280 41 = some (.iload_n 2, 1) := rfl
theorem hf280_42 : pi_fetch mc_280 42 = some (.iconst 1, 1) := rfl
theorem hf280_43 : pi_fetch mc_280 43 = some (.isub, 1) := rfl
theorem hf280_44 : pi_fetch mc_280 44 = some (.aload_n 0, 1) := rfl
theorem hf280_45 : pi_fetch mc_280 45 = some (.getfield 71, 3) := rfl
theorem hf280_48 : pi_fetch mc_280 48 = some (.iload_n 2, 1) := rfl
theorem hf280_49 : pi_fetch mc_280 49 = some (.iconst 1, 1) := rfl
theorem hf280_50 : pi_fetch mc_280 50 = some (.isub, 1) := rfl
theorem hf280_51 : pi_fetch mc_280 51 = some (.baload, 1) := rfl
theorem hf280_52 : pi_fetch mc_280 52 = some (.ifCond .ne 7, 3) := rfl
theorem hf280_55 : pi_fetch mc_280 55 = some (.iconst 1, 1) := rfl
theorem hf280_56 : pi_fetch mc_280 56 = some (.goto 4, 3) := rfl
theorem hf280_59 : pi_fetch mc_280 59 = some (.iconst 0, 1) := rfl
theorem hf280_60 : pi_fetch mc_280 60 = some (.bastore, 1) := rfl
theorem hf280_61 : pi_fetch mc_280 61 = some (.goto 145, 3) := rfl
theorem hf280_64 : pi_fetch mc_280 64 = some (.aload_n 0, 1) := rfl
theorem hf280_65 : pi_fetch mc_280 65 = some (.getfield 33, 3) := rfl
theorem hf280_68 : pi_fetch mc_280 68 = some (.iload 4, 2) := rfl
theorem hf280_70 : pi_fetch mc_280 70 = some (.iaload, 1) := rfl
theorem hf280_71 : pi_fetch mc_280 71 = some (.bipush 21, 2) := rfl
theorem hf280_73 : pi_fetch mc_280 73 = some (.if_icmp .eq 15, 3) := rfl
theorem hf280_76 : pi_fetch mc_280 76 = some (.aload_n 0, 1) := rfl
theorem hf280_77 : pi_fetch mc_280 77 = some (.getfield 33, 3) := rfl
theorem hf280_80 : pi_fetch mc_280 80 = some (.iload 4, 2) := rfl
theorem hf280_82 : pi_fetch mc_280 82 = some (.iaload, 1) := rfl
theorem hf280_83 : pi_fetch mc_280 83 = some (.bipush 22, 2) := rfl
theorem hf280_85 : pi_fetch mc_280 85 = some (.if_icmp .ne 82, 3) := rfl
theorem hf280_88 : pi_fetch mc_280 88 = some (.iinc 2 (-1), 3) := rfl
theorem hf280_91 : pi_fetch mc_280 91 = some (.aload_n 0, 1) := rfl
theorem hf280_92 : pi_fetch mc_280 92 = some (.getfield 71, 3) := rfl
theorem hf280_95 : pi_fetch mc_280 95 = some (.iload_n 2, 1) := rfl
theorem hf280_96 : pi_fetch mc_280 96 = some (.iconst 1, 1) := rfl
theorem hf280_97 : pi_fetch mc_280 97 = some (.isub, 1) := rfl
theorem hf280_98 : pi_fetch mc_280 98 = some (.aload_n 0, 1) := rfl
theorem hf280_99 : pi_fetch mc_280 99 = some (.getfield 33, 3) := rfl
theorem hf280_102 : pi_fetch mc_280 102 = some (.iload 4, 2) := rfl
theorem hf280_104 : pi_fetch mc_280 104 = some (.iaload, 1) := rfl
theorem hf280_105 : pi_fetch mc_280 105 = some (.bipush 21, 2) := rfl
theorem hf280_107 : pi_fetch mc_280 107 = some (.if_icmp .ne 31, 3) := rfl
theorem hf280_110 : pi_fetch mc_280 110 = some (.aload_n 0, 1) := rfl
theorem hf280_111 : pi_fetch mc_280 111 = some (.getfield 71, 3) := rfl
theorem hf280_114 : pi_fetch mc_280 114 = some (.iload_n 2, 1) := rfl
theorem hf280_115 : pi_fetch mc_280 115 = some (.iconst 1, 1) := rfl
theorem hf280_116 : pi_fetch mc_280 116 = some (.isub, 1) := rfl
theorem hf280_117 : pi_fetch mc_280 117 = some (.baload, 1) := rfl
theorem hf280_118 : pi_fetch mc_280 118 = some (.ifCond .eq 16, 3) := rfl
theorem hf280_121 : pi_fetch mc_280 121 = some (.aload_n 0, 1) := rfl
theorem hf280_122 : pi_fetch mc_280 122 = some (.getfield 71, 3) := rfl
theorem hf280_125 : pi_fetch mc_280 125 = some (.iload_n 2, 1) := rfl
theorem hf280_126 : pi_fetch mc_280 126 = some (.baload, 1) := rfl
theorem hf280_127 : pi_fetch mc_280 127 = some (.ifCond .eq 7, 3) := rfl
theorem hf280_130 : pi_fetch mc_280 130 = some (.iconst 1, 1) := rfl
theorem hf280_131 : pi_fetch mc_280 131 = some (.goto 32, 3) := rfl
theorem hf280_134 : pi_fetch mc_280 134 = some (.iconst 0, 1) := rfl
theorem hf280_135 : pi_fetch mc_280 135 = some (.goto 28, 3) := rfl
theorem hf280_138 : pi_fetch mc_280 138 = some (.aload_n 0, 1) := rfl
theorem hf280_139 : pi_fetch mc_280 139 = some (.getfield 71, 3) := rfl
theorem hf280_142 : pi_fetch mc_280 142 = some (.iload_n 2, 1) := rfl
theorem hf280_143 : pi_fetch mc_280 143 = some (.iconst 1, 1) := rfl
theorem hf280_144 : pi_fetch mc_280 144 = some (.isub, 1) := rfl
theorem hf280_145 : pi_fetch mc_280 145 = some (.baload, 1) := rfl
theorem hf280_146 : pi_fetch mc_280 146 = some (.ifCond .ne 12, 3) := rfl
theorem hf280_149 : pi_fetch mc_280 149 = some (.aload_n 0, 1) := rfl
theorem hf280_150 : pi_fetch mc_280 150 = some (.getfield 71, 3) := rfl
theorem hf280_153 : pi_fetch mc_280 153 = some (.iload_n 2, 1) := rfl
theorem hf280_154 : pi_fetch mc_280 154 = some (.baload, 1) := rfl
theorem hf280_155 : pi_fetch mc_280 155 = some (.ifCond .eq 7, 3) := rfl
theorem hf280_158 : pi_fetch mc_280 158 = some (.iconst 1, 1) := rfl
theorem hf280_159 : pi_fetch mc_280 159 = some (.goto 4, 3) := rfl
theorem hf280_162 : pi_fetch mc_280 162 = some (.iconst 0, 1) := rfl
theorem hf280_163 : pi_fetch mc_280 163 = some (.bastore, 1) := rfl
theorem hf280_164 : pi_fetch mc_280 164 = some (.goto 42, 3) := rfl
theorem hf280_167 : pi_fetch mc_280 167 = some (.aload_n 0, 1) := rfl
theorem hf280_168 : pi_fetch mc_280 168 = some (.getfield 71, 3) := rfl
theorem hf280_171 : pi_fetch mc_280 171 = some (.iload_n 2, 1) := rfl
theorem hf280_172 : pi_fetch mc_280 172 = some (.aload_n 0, 1) := rfl
theorem hf280_173 : pi_fetch mc_280 173 = some (.iload_n 1, 1) := rfl
theorem hf280_174 : pi_fetch mc_280 174 = some (.aload_n 0, 1) := rfl
theorem hf280_175 : pi_fetch mc_280 175 = some (.getfield 33, 3) := rfl
theorem hf280_178 : pi_fetch mc_280 178 = some (.iload 4, 2) := rfl
theorem hf280_180 : pi_fetch mc_280 180 = some (.iaload, 1) := rfl
theorem hf280_181 : pi_fetch mc_280 181 = some (.aload_n 0, 1) := rfl
theorem hf280_182 : pi_fetch mc_280 182 = some (.getfield 33, 3) := rfl
theorem hf280_185 : pi_fetch mc_280 185 = some (.iload 4, 2) := rfl
theorem hf280_187 : pi_fetch mc_280 187 = some (.iconst 1, 1) := rfl
theorem hf280_188 : pi_fetch mc_280 188 = some (.iadd, 1) := rfl
theorem hf280_189 : pi_fetch mc_280 189 = some (.iaload, 1) := rfl
theorem hf280_190 : pi_fetch mc_280 190 = some (.aload_n 0, 1) := rfl
theorem hf280_191 : pi_fetch mc_280 191 = some (.getfield 33, 3) := rfl
theorem hf280_194 : pi_fetch mc_280 194 = some (.iload 4, 2) := rfl
theorem hf280_196 : pi_fetch mc_280 196 = some (.iconst 2, 1) := rfl
theorem hf280_197 : pi_fetch mc_280 197 = some (.iadd, 1) := rfl
theorem hf280_198 : pi_fetch mc_280 198 = some (.iaload, 1) := rfl
theorem hf280_199 : pi_fetch mc_280 199 = some (.invokevirtual 457, 3) := rfl
theorem hf280_202 : pi_fetch mc_280 202 = some (.bastore, 1) := rfl
theorem hf280_203 : pi_fetch mc_280 203 = some (.iinc 2 1, 3) := rfl
theorem hf280_206 : pi_fetch mc_280 206 = some (.iinc 3 1, 3) := rfl
theorem hf280_209 : pi_fetch mc_280 209 = some (.goto (-205), 3) := rfl
theorem hf280_212 : pi_fetch mc_280 212 = some (.aload_n 0, 1) := rfl
theorem hf280_213 : pi_fetch mc_280 213 = some (.getfield 71, 3) := rfl
theorem hf280_216 : pi_fetch mc_280 216 = some (.iconst 0, 1) := rfl
theorem hf280_217 : pi_fetch mc_280 217 = some (.baload, 1) := rfl
theorem hf280_218 : pi_fetch mc_280 218 = some (.ireturn, 1) := rfl
def hm280 : pi_M := (11, 5, (some .boolean), false, mc_280)
set_option maxRecDepth 100000 in
theorem pz_280 : pi_mt[280]? = some (mn_280, prog_13_method_120_code, (11, 5, (some .boolean), false, mc_280)) := rfl
theorem hf281_0 : pi_fetch mc_281 0 = some (.aload_n 0, 1) := rfl
theorem hf281_1 : pi_fetch mc_281 1 = some (.iconst 0, 1) := rfl
theorem hf281_2 : pi_fetch mc_281 2 = some (.putfield 1, 3) := rfl
theorem hf281_5 : pi_fetch mc_281 5 = some (.aload_n 0, 1) := rfl
theorem hf281_6 : pi_fetch mc_281 6 = some (.getfield 33, 3) := rfl
theorem hf281_9 : pi_fetch mc_281 9 = some (.sipush 230, 3) := rfl
theorem hf281_12 : pi_fetch mc_281 12 = some (.iaload, 1) := rfl
theorem hf281_13 : pi_fetch mc_281 13 = some (.ifCond .eq 8, 3) := rfl
theorem hf281_16 : pi_fetch mc_281 16 = some (.iload_n 1, 1) := rfl
theorem hf281_17 : pi_fetch mc_281 17 = some (.iconst (-1), 1) := rfl
theorem hf281_18 : pi_fetch mc_281 18 = some (.if_icmp .ge 5, 3) := rfl
theorem hf281_21 : pi_fetch mc_281 21 = some (.iconst (-1), 1) := rfl
theorem hf281_22 : pi_fetch mc_281 22 = some (.ireturn, 1) := rfl
theorem hf281_23 : pi_fetch mc_281 23 = some (.iconst 0, 1) := rfl
theorem hf281_24 : pi_fetch mc_281 24 = some (.istore_n 2, 1) := rfl
theorem hf281_25 : pi_fetch mc_281 25 = some (.iconst 0, 1) := rfl
theorem hf281_26 : pi_fetch mc_281 26 = some (.istore_n 3, 1) := rfl
theorem hf281_27 : pi_fetch mc_281 27 = some (.iload_n 3, 1) := rfl
theorem hf281_28 : pi_fetch mc_281 28 = some (.aload_n 0, 1) := rfl
theorem hf281_29 : pi_fetch mc_281 29 = some (.getfield 33, 3) := rfl
theorem hf281_32 : pi_fetch mc_281 32 = some (.iconst 4, 1) := rfl
theorem hf281_33 : pi_fetch mc_281 33 = some (.iaload, 1) := rfl
theorem hf281_34 : pi_fetch mc_281 34 = some (.if_icmp .ge 30, 3) := rfl
theorem hf281_37 : pi_fetch mc_281 37 = some (.aload_n 0, 1) := rfl
theorem hf281_38 : pi_fetch mc_281 38 = some (.iload_n 3, 1) := rfl
theorem hf281_39 : pi_fetch mc_281 39 = some (.invokevirtual 461, 3) := rfl
theorem hf281_42 : pi_fetch mc_281 42 = some (.ifCond .ne 6, 3) := rfl
theorem hf281_45 : pi_fetch mc_281 45 = some (.goto 13, 3) := rfl
theorem hf281_48 : pi_fetch mc_281 48 = some (.iload_n 2, 1) := rfl
theorem hf281_49 : pi_fetch mc_281 49 = some (.iload_n 1, 1) := rfl
theorem hf281_50 : pi_fetch mc_281 50 = some (.if_icmp .ne 5, 3) := rfl
theorem hf281_53 : pi_fetch mc_281 53 = some (.iload_n 3, 1) := rfl
theorem hf281_54 : pi_fetch mc_281 54 = some (.ireturn, 1) := rfl
theorem hf281_55 : pi_fetch mc_281 55 = some (.iinc 2 1, 3) := rfl
theorem hf281_58 : pi_fetch mc_281 58 = some (.iinc 3 1, 3) := rfl
theorem hf281_61 : pi_fetch mc_281 61 = some (.goto (-34), 3) := rfl
theorem hf281_64 : pi_fetch mc_281 64 = some (.iload_n 1, 1) := rfl
theorem hf281_65 : pi_fetch mc_281 65 = some (.iconst (-1), 1) := rfl
theorem hf281_66 : pi_fetch mc_281 66 = some (.if_icmp .ne 7, 3) := rfl
theorem hf281_69 : pi_fetch mc_281 69 = some (.iload_n 2, 1) := rfl
theorem hf281_70 : pi_fetch mc_281 70 = some (.goto 4, 3) := rfl
theorem hf281_73 : pi_fetch mc_281 73 = some (.iconst (-1), 1) := rfl
theorem hf281_74 : pi_fetch mc_281 74 = some (.ireturn, 1) := rfl
def hm281 : pi_M := (11, 4, (some .int), false, mc_281)
set_option maxRecDepth 100000 in
theorem pz_281 : pi_mt[281]? = some (mn_281, prog_13_method_121_code, (11, 4, (some .int), false, mc_281)) := rfl
def sx_G : af_G := ((11, 5, (some .boolean), mc_280), aw_Sh, [], 4, [(75, 0, 45)], [], [(206, (4, [(0, .inr (.inl 61)), (1, .inl (0, [1])), (2, .inl (0, [0])), (3, .inl (0, [2])), (4, .inl (0, [3]))], [], [], ([(0, 1, 45), (1, 0, 5), (2, 0, 44), (3, 231, 363)], [], [])), [(0, 0, (0, []))])], [], [])
def sx_s : af_S := (4, [(0, .inr (.inl 61)), (1, .inl (0, [1])), (2, .inl (0, [0])), (3, .inl (0, [2])), (4, .inl (0, [3]))], [], [], ([(0, 1, 45), (1, 0, 5), (2, 0, 44), (3, 231, 363)], [], []))
set_option maxRecDepth 1000000 in
theorem sx_r : af_run 22 sx_G none (37, sx_s) = true := by decide +kernel
set_option maxRecDepth 1000000 in
theorem sx_l : (sx_G.2.2.2.2.2.2.1.take 0).all (fun q => af_pos q.2.1.2.2.2.2 q.2.2 && af_run 22 sx_G (some q.2.2) (q.1, q.2.1)) = true := by decide +kernel
theorem sx_w : ax_wf sx_G.2.2.2.1 sx_G.2.2.2.2.2.1 sx_G.2.2.2.2.2.2.1 = true := by decide +kernel
theorem sx_h : ∀ K ∈ sx_G.2.2.1, af_Holds sx_G.2.1 0 K := af_HN
def sy_G : af_G := ((11, 5, (some .boolean), mc_280), aw_Sh, [], 4, [(75, 0, 44)], [], [(206, (4, [(0, .inr (.inl 61)), (1, .inl (0, [1])), (2, .inl ((-1), [0])), (3, .inl (0, [2])), (4, .inl (0, [3]))], [], [], ([(0, 2, 45), (1, 0, 5), (2, 0, 44), (3, 231, 363)], [], [])), [(0, 0, (0, []))])], [], [])
def sy_s : af_S := (4, [(0, .inr (.inl 61)), (1, .inl (0, [1])), (2, .inl (0, [0])), (3, .inl (0, [2])), (4, .inl (0, [3]))], [], [], ([(0, 2, 45), (1, 0, 5), (2, 0, 44), (3, 231, 363)], [], []))
set_option maxRecDepth 1000000 in
theorem sy_r : af_run 34 sy_G none (88, sy_s) = true := by decide +kernel
set_option maxRecDepth 1000000 in
theorem sy_l : (sy_G.2.2.2.2.2.2.1.take 0).all (fun q => af_pos q.2.1.2.2.2.2 q.2.2 && af_run 34 sy_G (some q.2.2) (q.1, q.2.1)) = true := by decide +kernel
theorem sy_w : ax_wf sy_G.2.2.2.1 sy_G.2.2.2.2.2.1 sy_G.2.2.2.2.2.2.1 = true := by decide +kernel
theorem sy_h : ∀ K ∈ sy_G.2.2.1, af_Holds sy_G.2.1 0 K := af_HN
def hm279 : pi_M := (11, 6, (some .boolean), false, mc_279)
theorem rq_le {f : Nat → Int32} {n x : Nat} (h : rq f n = some x) : ∀ {i : Nat}, i ≤ n → ∃ y, rq f i = some y := by
  induction n generalizing x with
  | zero =>
    intro i hi
    have e : i = 0 := by omega
    subst e
    exact ⟨x, h⟩
  | succ n ih =>
    intro i hi
    by_cases e : i = n + 1
    · subst e
      exact ⟨x, h⟩
    · rw [rq_s] at h
      cases hq : rq f n with
      | none =>
        rw [hq] at h
        cases h
      | some y => exact ih hq (by omega)
theorem rq_dep {f : Nat → Int32} : ∀ {i D : Nat}, rq f i = some D → D ≤ i
  | 0, D, h => by
    cases h
    exact Nat.le_refl _
  | i + 1, D, h => by
    rw [rq_s] at h
    cases hq : rq f i with
    | none =>
      rw [hq] at h
      cases h
    | some y =>
      rw [hq] at h
      have hy := rq_dep hq
      have h2 : rq1 (f (3 * i)) (f (3 * i + 2)) y = some D := h
      unfold rq1 at h2
      split at h2
      · split at h2
        · cases h2
          omega
        · cases h2
      · split at h2
        · split at h2
          · cases h2
            omega
          · cases h2
        · split at h2
          · cases h2
          · cases h2
            omega
theorem hp_rb {pc : Nat} {lv : pi_L} {w : pi_W} {x : Int32} (h0 : 0 ≤ x.toInt) (h1 : x.toInt ≤ 1) : pi_end (some .boolean) .ireturn 1 (pc, lv, [.int x], w) = some (some (.int x)) := by
  simp only [pi_end]
  rw [if_pos trivial, if_pos (af_nz h0 h1)]
def hs_T : af_M := [(75, 0, 45)]
theorem hq_s75 : aw_Sh[75]? = some (.inl (3, 45, [(45, 0, 1)])) := rfl
theorem hq_01 {n : Nat} {x : Int32} (h0 : 0 ≤ x.toInt) (h1 : x.toInt ≤ 1) (q : Int × Int) (h : af_seg [(45, 0, 1)] n = some q) : q.1 ≤ x.toInt ∧ x.toInt ≤ q.2 := by
  unfold af_seg at h
  split at h
  · cases h
    exact ⟨h0, h1⟩
  · cases h
theorem hq_nb {x : Int32} (h0 : 0 ≤ x.toInt) (h1 : x.toInt ≤ 1) : vp_nar .boolean x = x := by
  have : x = 0 ∨ x = 1 := by
    have h : x.toInt = 0 ∨ x.toInt = 1 := by omega
    rcases h with h | h
    · exact Or.inl (Int32.toInt_inj.mp h)
    · exact Or.inr (Int32.toInt_inj.mp h)
  rcases this with rfl | rfl <;> rfl
def sq_D (w : pi_W) (r : Option Value) (w' : pi_W) : Prop := af_Conf aw_Sh w' ∧ af_Fr hs_T w w' ∧ ∃ x : Int32, r = some (.int x) ∧ 0 ≤ x.toInt ∧ x.toInt ≤ 1
/-- what stands in the row of numbers stays -/
def hs_row (w : pi_W) (n : Nat) (f : Nat → Int32) : Prop := af_wloc w 63 230 = some (.int (Int32.ofNat n)) ∧ ∀ j, j < 180 → af_wloc w 63 (231 + j) = some (.int (f j))
theorem hs_row.fr {w w' : pi_W} {n : Nat} {f : Nat → Int32} (h : hs_row w n f) (hF : af_Fr hs_T w w') : hs_row w' n f := ⟨(hq_cell hF (by decide)).trans h.1, fun j hj => (hq_cell hF (by decide)).trans (h.2 j hj)⟩
theorem hs_leafc {d : Nat} {w : pi_W} {k x y z : Int32} (hd : 8 ≤ d) (hC : af_Conf aw_Sh w) (hk : 0 ≤ k.toInt ∧ k.toInt ≤ 5) (hz : x.toInt = 2 → 0 ≤ z.toInt ∧ z.toInt ≤ 5) : hq_F d hm279 (fun r w' => af_Conf aw_Sh w' ∧ af_Fr [] w w' ∧ ∃ v : Int32, r = some (.int v) ∧ 0 ≤ v.toInt ∧ v.toInt ≤ 1) (0, lv_args 0 [.ref 61, .int k, .int x, .int y, .int z], [], w) := by
  have hi : ∀ u : Int32, (-2147483648 : Int) ≤ u.toInt ∧ u.toInt ≤ 2147483647 := fun u => af_i32 u
  have hvs : af_St 4 (fun v => if v = 0 then k.toInt else if v = 1 then x.toInt else if v = 2 then y.toInt else z.toInt) [.inr (.inl 61), .inl (0, [0]), .inl (0, [1]), .inl (0, [2]), .inl (0, [3])] [.ref 61, .int k, .int x, .int y, .int z] :=
    ⟨rfl, ⟨(fun v hv => by simp at hv; omega), k, rfl, by simp [af_ev]⟩, ⟨(fun v hv => by simp at hv; omega), x, rfl, by simp [af_ev]⟩, ⟨(fun v hv => by simp at hv; omega), y, rfl, by simp [af_ev]⟩, ⟨(fun v hv => by simp at hv; omega), z, rfl, by simp [af_ev]⟩, trivial⟩
  have hx := hi x
  have hy := hi y
  have hz2 := hi z
  by_cases h2 : x.toInt = 2
  · have hz3 := hz h2
    refine (hq_holds ah_558 (d := d) (by omega) pz_279 _ hC hvs (fun e he => by cases he) ⟨?_, (fun e he => by cases he), (fun e he => by cases he)⟩).imp ?_
    · intro e he
      simp only [ak_558, List.mem_cons, List.not_mem_nil, or_false] at he
      rcases he with rfl | rfl | rfl | rfl <;> refine ⟨by decide, ?_⟩ <;> simp <;> omega
    · rintro r w' ⟨q1, q2, P, hP, ρ2, -, hst, -⟩
      refine ⟨q1, q2, ?_⟩
      simp only [ak_558, List.mem_cons, List.not_mem_nil, or_false] at hP
      rcases hP with rfl | rfl
      · obtain ⟨v, rfl, hv⟩ := hl_res hst
        exact ⟨v, rfl, by rw [hv, af_ev_c]; decide, by rw [hv, af_ev_c]; decide⟩
      · obtain ⟨v, rfl, hv⟩ := hl_res hst
        exact ⟨v, rfl, by rw [hv, af_ev_c]; decide, by rw [hv, af_ev_c]; decide⟩
  · by_cases h1 : x.toInt ≤ 1
    · refine (hq_holds ah_557 (d := d) (by omega) pz_279 _ hC hvs (fun e he => by cases he) ⟨?_, (fun e he => by cases he), (fun e he => by cases he)⟩).imp ?_
      · intro e he
        simp only [ak_557, List.mem_cons, List.not_mem_nil, or_false] at he
        rcases he with rfl | rfl | rfl | rfl <;> refine ⟨by decide, ?_⟩ <;> simp <;> omega
      · rintro r w' ⟨q1, q2, P, hP, ρ2, -, hst, -⟩
        refine ⟨q1, q2, ?_⟩
        simp only [ak_557, List.mem_cons, List.not_mem_nil, or_false] at hP
        rcases hP with rfl | rfl
        · obtain ⟨v, rfl, hv⟩ := hl_res hst
          exact ⟨v, rfl, by rw [hv, af_ev_c]; decide, by rw [hv, af_ev_c]; decide⟩
        · obtain ⟨v, rfl, hv⟩ := hl_res hst
          exact ⟨v, rfl, by rw [hv, af_ev_c]; decide, by rw [hv, af_ev_c]; decide⟩
    · refine (hq_holds ah_559 (d := d) (by omega) pz_279 _ hC hvs (fun e he => by cases he) ⟨?_, (fun e he => by cases he), (fun e he => by cases he)⟩).imp ?_
      · intro e he
        simp only [ak_559, List.mem_cons, List.not_mem_nil, or_false] at he
        rcases he with rfl | rfl | rfl | rfl <;> refine ⟨by decide, ?_⟩ <;> simp <;> omega
      · rintro r w' ⟨q1, q2, P, hP, ρ2, -, hst, -⟩
        refine ⟨q1, q2, ?_⟩
        simp only [ak_559, List.mem_cons, List.not_mem_nil, or_false] at hP
        rcases hP with rfl | rfl
        · obtain ⟨v, rfl, hv⟩ := hl_res hst
          exact ⟨v, rfl, by rw [hv, af_ev_c]; decide, by rw [hv, af_ev_c]; decide⟩
        · obtain ⟨v, rfl, hv⟩ := hl_res hst
          exact ⟨v, rfl, by rw [hv, af_ev_c]; decide, by rw [hv, af_ev_c]; decide⟩

theorem hs_sx {d i D : Nat} {k : Int32} {w : pi_W} {lv : pi_L} {Q : Option Value → pi_W → Prop} (hd : 8 ≤ d) (hC : af_Conf aw_Sh w) (hk : 0 ≤ k.toInt ∧ k.toInt ≤ 5) (hi : i ≤ 44) (hD : D + 1 ≤ 45) (g0 : pi_get lv 0 = some (.ref 61)) (g1 : pi_get lv 1 = some (.int k)) (g2 : pi_get lv 2 = some (.int (Int32.ofNat (D + 1)))) (g3 : pi_get lv 3 = some (.int (Int32.ofNat i))) (g4 : pi_get lv 4 = some (.int (Int32.ofNat (231 + 3 * i)))) (hn : ∀ w' lv', af_Conf aw_Sh w' → af_Fr hs_T w w' → pi_get lv' 0 = some (.ref 61) → pi_get lv' 1 = some (.int k) → pi_get lv' 2 = some (.int (Int32.ofNat (D + 1))) → pi_get lv' 3 = some (.int (Int32.ofNat i)) → hq_F (d + 1) hm280 Q (206, lv', [], w')) : hq_F (d + 1) hm280 Q (37, lv, [], w) := by
  have hSat : af_Sat aw_Sh (fun v => if v = 0 then ((D + 1 : Nat) : Int) else if v = 1 then k.toInt else if v = 2 then (i : Int) else ((231 + 3 * i : Nat) : Int)) sx_s (37, lv, [], w) := by
    refine ⟨?_, trivial, hC, (fun e he => by cases he), ?_, (fun e he => by cases he), (fun e he => by cases he)⟩
    · intro e he
      simp only [sx_s, List.mem_cons, List.not_mem_nil, or_false] at he
      rcases he with rfl | rfl | rfl | rfl | rfl
      · exact ⟨_, g0, rfl⟩
      · exact ⟨_, g1, (fun v hv => by simp at hv; subst hv; decide), k, rfl, by simp [af_ev]⟩
      · exact ⟨_, g2, (fun v hv => by simp at hv; subst hv; decide), _, rfl, by rw [hn_t (by omega)]; simp [af_ev]⟩
      · exact ⟨_, g3, (fun v hv => by simp at hv; subst hv; decide), _, rfl, by rw [hn_t (by omega)]; simp [af_ev]⟩
      · exact ⟨_, g4, (fun v hv => by simp at hv; subst hv; decide), _, rfl, by rw [hn_t (by omega)]; simp [af_ev]⟩
    · intro e he
      simp only [sx_s, List.mem_cons, List.not_mem_nil, or_false] at he
      rcases he with rfl | rfl | rfl | rfl <;> refine ⟨by decide, ?_⟩ <;> simp <;> omega
  refine ax_seg (Φ := hq_F _ _ _) (G := sx_G) (d := d) (mi := hm280) (nl := 0) rfl (fun K hK => (sx_h K hK).mono (by omega)) sx_w sx_l sx_r rfl hSat (fun s s' h1 h2 => hq_F.to h1 h2) (fun s hfin => hq_fin hfin (fun r w' hC' hF' hP' => ?_)) (fun s' q ρ' hq hpc hS hag hF => ?_)
  · obtain ⟨P, hPm, -⟩ := hP'
    simp [sx_G] at hPm
  · obtain ⟨pc', lv', st', w1⟩ := s'
    simp only [sx_G, List.drop, List.mem_singleton] at hq
    subst hq
    dsimp only at hpc hS
    subst hpc
    obtain ⟨hL, hst, hC1, hT, hK⟩ := hS
    replace hC1 : af_Conf aw_Sh _ := hC1
    dsimp only at hL hst hT hK hC1
    have hstn := af_St.nil hst
    subst hstn
    have a0 := hag 0 (by decide)
    have a1 := hag 1 (by decide)
    have a2 := hag 2 (by decide)
    simp at a0 a1 a2
    obtain ⟨x1, p1, e1⟩ := hl_int hL (i := 1) (f := (0, [1])) (by simp)
    obtain ⟨x2, p2, e2⟩ := hl_int hL (i := 2) (f := (0, [0])) (by simp)
    obtain ⟨x3, p3, e3⟩ := hl_int hL (i := 3) (f := (0, [2])) (by simp)
    rw [af_ev_1] at e1 e2 e3
    refine hn w1 lv' hC1 (hF.cov (by decide)) (hl_ref hL (by simp)) ?_ ?_ ?_
    · rw [p1, Int32.toInt_inj.mp (show x1.toInt = k.toInt by omega)]
    · rw [p2, hn_e (x := x2) (n := D + 1) (by omega) (by omega)]
    · rw [p3, hn_e (x := x3) (n := i) (by omega) (by omega)]
theorem hs_sy {d i D : Nat} {k : Int32} {w : pi_W} {lv : pi_L} {Q : Option Value → pi_W → Prop} (hd : 8 ≤ d) (hC : af_Conf aw_Sh w) (hk : 0 ≤ k.toInt ∧ k.toInt ≤ 5) (hi : i ≤ 44) (hD : D + 2 ≤ 45) (g0 : pi_get lv 0 = some (.ref 61)) (g1 : pi_get lv 1 = some (.int k)) (g2 : pi_get lv 2 = some (.int (Int32.ofNat (D + 2)))) (g3 : pi_get lv 3 = some (.int (Int32.ofNat i))) (g4 : pi_get lv 4 = some (.int (Int32.ofNat (231 + 3 * i)))) (hn : ∀ w' lv', af_Conf aw_Sh w' → af_Fr hs_T w w' → pi_get lv' 0 = some (.ref 61) → pi_get lv' 1 = some (.int k) → pi_get lv' 2 = some (.int (Int32.ofNat (D + 1))) → pi_get lv' 3 = some (.int (Int32.ofNat i)) → hq_F (d + 1) hm280 Q (206, lv', [], w')) : hq_F (d + 1) hm280 Q (88, lv, [], w) := by
  have hSat : af_Sat aw_Sh (fun v => if v = 0 then ((D + 2 : Nat) : Int) else if v = 1 then k.toInt else if v = 2 then (i : Int) else ((231 + 3 * i : Nat) : Int)) sy_s (88, lv, [], w) := by
    refine ⟨?_, trivial, hC, (fun e he => by cases he), ?_, (fun e he => by cases he), (fun e he => by cases he)⟩
    · intro e he
      simp only [sy_s, List.mem_cons, List.not_mem_nil, or_false] at he
      rcases he with rfl | rfl | rfl | rfl | rfl
      · exact ⟨_, g0, rfl⟩
      · exact ⟨_, g1, (fun v hv => by simp at hv; subst hv; decide), k, rfl, by simp [af_ev]⟩
      · exact ⟨_, g2, (fun v hv => by simp at hv; subst hv; decide), _, rfl, by rw [hn_t (by omega)]; simp [af_ev]⟩
      · exact ⟨_, g3, (fun v hv => by simp at hv; subst hv; decide), _, rfl, by rw [hn_t (by omega)]; simp [af_ev]⟩
      · exact ⟨_, g4, (fun v hv => by simp at hv; subst hv; decide), _, rfl, by rw [hn_t (by omega)]; simp [af_ev]⟩
    · intro e he
      simp only [sy_s, List.mem_cons, List.not_mem_nil, or_false] at he
      rcases he with rfl | rfl | rfl | rfl <;> refine ⟨by decide, ?_⟩ <;> simp <;> omega
  refine ax_seg (Φ := hq_F _ _ _) (G := sy_G) (d := d) (mi := hm280) (nl := 0) rfl (fun K hK => (sy_h K hK).mono (by omega)) sy_w sy_l sy_r rfl hSat (fun s s' h1 h2 => hq_F.to h1 h2) (fun s hfin => hq_fin hfin (fun r w' hC' hF' hP' => ?_)) (fun s' q ρ' hq hpc hS hag hF => ?_)
  · obtain ⟨P, hPm, -⟩ := hP'
    simp [sy_G] at hPm
  · obtain ⟨pc', lv', st', w1⟩ := s'
    simp only [sy_G, List.drop, List.mem_singleton] at hq
    subst hq
    dsimp only at hpc hS
    subst hpc
    obtain ⟨hL, hst, hC1, hT, hK⟩ := hS
    replace hC1 : af_Conf aw_Sh _ := hC1
    dsimp only at hL hst hT hK hC1
    have hstn := af_St.nil hst
    subst hstn
    have a0 := hag 0 (by decide)
    have a1 := hag 1 (by decide)
    have a2 := hag 2 (by decide)
    simp at a0 a1 a2
    obtain ⟨x1, p1, e1⟩ := hl_int hL (i := 1) (f := (0, [1])) (by simp)
    obtain ⟨x2, p2, e2⟩ := hl_int hL (i := 2) (f := ((-1), [0])) (by simp)
    obtain ⟨x3, p3, e3⟩ := hl_int hL (i := 3) (f := (0, [2])) (by simp)
    rw [af_ev_1] at e1 e2 e3
    refine hn w1 lv' hC1 (hF.cov (by decide)) (hl_ref hL (by simp)) ?_ ?_ ?_
    · rw [p1, Int32.toInt_inj.mp (show x1.toInt = k.toInt by omega)]
    · rw [p2, hn_e (x := x2) (n := D + 1) (by omega) (by omega)]
    · rw [p3, hn_e (x := x3) (n := i) (by omega) (by omega)]
theorem hs_said1 {d n Dn : Nat} {k : Int32} {f : Nat → Int32} {w0 : pi_W} (hd : 8 ≤ d) (hk : 0 ≤ k.toInt ∧ k.toInt ≤ 5) (hn45 : n ≤ 45) (hrp : rq f n = some Dn) : ∀ (m i D : Nat) {w : pi_W} {lv : pi_L}, i + m = n → rq f i = some D → af_Conf aw_Sh w → af_Fr hs_T w0 w → hs_row w n f → pi_get lv 0 = some (.ref 61) → pi_get lv 1 = some (.int k) → pi_get lv 2 = some (.int (Int32.ofNat D)) → pi_get lv 3 = some (.int (Int32.ofNat i)) → hq_F (d + 1) hm280 (sq_D w0) (4, lv, [], w) := by
  intro m
  induction m with
  | zero =>
    intro i D w lv hm hD hC hF hr g0 g1 g2 g3
    refine hq_F.st (s' := (5, _, _, _)) hf280_4 rfl rfl rfl (hs_iln g3) ?_
    refine hq_F.st (s' := (6, _, _, _)) hf280_5 rfl rfl rfl (hs_al g0) ?_
    refine hq_F.st (s' := (9, _, _, _)) hf280_6 rfl rfl rfl (hq_gf hC hq_s61 hk_33 (hq_ref hC hq_s61 (b := 63) rfl)) ?_
    refine hq_F.st (s' := (12, _, _, _)) hf280_9 rfl rfl rfl rfl ?_
    refine hq_F.st (s' := (13, _, _, _)) hf280_12 rfl rfl rfl (hq_ia hC hq_s63 (n := 230) (by decide) hr.1) ?_
    refine hq_F.st (s' := (212, _, _, _)) hf280_13 rfl rfl rfl (hs_ic (hc_ge (by rw [hn_t (by omega), hn_t (by omega)]; omega)) rfl) ?_
    obtain ⟨x, hx, hx0, hx1⟩ := hq_int hC (c := 75) (i := 0) (lo := 0) (hi := 1) (by decide) rfl
    refine hq_F.st (s' := (213, _, _, _)) hf280_212 rfl rfl rfl (hs_al g0) ?_
    refine hq_F.st (s' := (216, _, _, _)) hf280_213 rfl rfl rfl (hq_gf hC hq_s61 hk_71 (hq_ref hC hq_s61 (b := 75) rfl)) ?_
    refine hq_F.st (s' := (217, _, _, _)) hf280_216 rfl rfl rfl rfl ?_
    refine hq_F.st (s' := (218, _, _, _)) hf280_217 rfl rfl rfl (hq_ba hC hq_s75 (n := 0) (by decide) hx) ?_
    exact hq_F.en hf280_218 rfl (hp_rb hx0 hx1) ⟨hC, hF, x, rfl, hx0, hx1⟩
  | succ m ih =>
    intro i D w lv hm hD hC hF hr g0 g1 g2 g3
    have hDi := rq_dep hD
    obtain ⟨D', hD'⟩ := rq_le hrp (i := i + 1) (by omega)
    have hst : rq1 (f (3 * i)) (f (3 * i + 2)) D = some D' := by
      rw [rq_s] at hD'
      rw [hD] at hD'
      exact hD'
    have hback : ∀ w' lv', af_Conf aw_Sh w' → af_Fr hs_T w w' → pi_get lv' 0 = some (.ref 61) → pi_get lv' 1 = some (.int k) → pi_get lv' 2 = some (.int (Int32.ofNat D')) → pi_get lv' 3 = some (.int (Int32.ofNat i)) → hq_F (d + 1) hm280 (sq_D w0) (206, lv', [], w') := by
      intro w' lv' hC' hF' q0 q1 q2 q3
      refine hq_F.st (s' := (209, _, _, _)) hf280_206 rfl rfl rfl (hs_inc q3 (by decide)) ?_
      rw [hn_s]
      refine hq_F.st (s' := (4, _, _, _)) hf280_209 rfl rfl rfl rfl ?_
      exact ih (i + 1) D' (by omega) hD' hC' (hF.tr hF') (hr.fr hF') (pi_get_set_ne q0 (by decide) (fun q => (show ¬ ((1 : Nat) = 2) by decide) q.2)) (hg_ne q1 (by decide)) (hg_ne q2 (by decide)) (pi_get_set _ _ _)
    refine hq_F.st (s' := (5, _, _, _)) hf280_4 rfl rfl rfl (hs_iln g3) ?_
    refine hq_F.st (s' := (6, _, _, _)) hf280_5 rfl rfl rfl (hs_al g0) ?_
    refine hq_F.st (s' := (9, _, _, _)) hf280_6 rfl rfl rfl (hq_gf hC hq_s61 hk_33 (hq_ref hC hq_s61 (b := 63) rfl)) ?_
    refine hq_F.st (s' := (12, _, _, _)) hf280_9 rfl rfl rfl rfl ?_
    refine hq_F.st (s' := (13, _, _, _)) hf280_12 rfl rfl rfl (hq_ia hC hq_s63 (n := 230) (by decide) hr.1) ?_
    refine hq_F.st (s' := (16, _, _, _)) hf280_13 rfl rfl rfl (hs_icn (t := 212) (hc_gen (by rw [hn_t (by omega), hn_t (by omega)]; omega)) rfl) ?_
    refine hq_F.st (s' := (19, _, _, _)) hf280_16 rfl rfl rfl rfl ?_
    refine hq_F.st (s' := (20, _, _, _)) hf280_19 rfl rfl rfl rfl ?_
    refine hq_F.st (s' := (21, _, _, _)) hf280_20 rfl rfl rfl (hs_iln g3) ?_
    refine hq_F.st (s' := (22, _, _, _)) hf280_21 rfl rfl rfl hs_m3 ?_
    refine hq_F.st (s' := (23, _, _, _)) hf280_22 rfl rfl rfl hs_a231 ?_
    refine hq_F.st (s' := (25, _, _, _)) hf280_23 rfl rfl rfl (hs_st (by decide)) ?_
    have p0 : pi_get (pi_set lv 4 (.int (Int32.ofNat (231 + 3 * i)))) 0 = some (.ref 61) := pi_get_set_ne g0 (by decide) (fun q => (show ¬ ((1 : Nat) = 2) by decide) q.2)
    have p1 : pi_get (pi_set lv 4 (.int (Int32.ofNat (231 + 3 * i)))) 1 = some (.int k) := hg_ne g1 (by decide)
    have p2 : pi_get (pi_set lv 4 (.int (Int32.ofNat (231 + 3 * i)))) 2 = some (.int (Int32.ofNat D)) := hg_ne g2 (by decide)
    have p3 : pi_get (pi_set lv 4 (.int (Int32.ofNat (231 + 3 * i)))) 3 = some (.int (Int32.ofNat i)) := hg_ne g3 (by decide)
    have p4 : pi_get (pi_set lv 4 (.int (Int32.ofNat (231 + 3 * i)))) 4 = some (.int (Int32.ofNat (231 + 3 * i))) := pi_get_set _ _ _
    revert p0 p1 p2 p3 p4
    generalize pi_set lv 4 (.int (Int32.ofNat (231 + 3 * i))) = lv1
    intro p0 p1 p2 p3 p4
    refine hq_F.st (s' := (26, _, _, _)) hf280_25 rfl rfl rfl (hs_al p0) ?_
    refine hq_F.st (s' := (29, _, _, _)) hf280_26 rfl rfl rfl (hq_gf hC hq_s61 hk_33 (hq_ref hC hq_s61 (b := 63) rfl)) ?_
    refine hq_F.st (s' := (31, _, _, _)) hf280_29 rfl rfl rfl (hs_il p4) ?_
    refine hq_F.st (s' := (32, _, _, _)) hf280_31 rfl rfl rfl (hq_ia hC hq_s63 (n := 231 + 3 * i) (hn_t (by omega)) (hr.2 (3 * i) (by omega))) ?_
    refine hq_F.st (s' := (34, _, _, _)) hf280_32 rfl rfl rfl rfl ?_
    rw [e_20]
    by_cases h20 : f (3 * i) = 20
    · refine hq_F.st (s' := (37, _, _, _)) hf280_34 rfl rfl rfl (hs_icn (t := 64) (hc_nen h20) rfl) ?_
      unfold rq1 at hst
      rw [if_pos h20] at hst
      split at hst
      · rename_i hD1
        cases hst
        obtain ⟨E, rfl⟩ : ∃ e, D = e + 1 := ⟨D - 1, by omega⟩
        exact hs_sx hd hC hk (by omega) (by omega) p0 p1 p2 p3 p4 hback
      · cases hst
    · refine hq_F.st (s' := (64, _, _, _)) hf280_34 rfl rfl rfl (hs_ic (hc_ne h20) rfl) ?_
      have hbin : (f (3 * i) = 21 ∨ f (3 * i) = 22) → hq_F (d + 1) hm280 (sq_D w0) (88, lv1, [], w) := by
        intro hb
        unfold rq1 at hst
        rw [if_neg h20, if_pos hb] at hst
        split at hst
        · rename_i hD1
          cases hst
          obtain ⟨E, rfl⟩ : ∃ e, D = e + 2 := ⟨D - 2, by omega⟩
          exact hs_sy hd hC hk (by omega) (by omega) p0 p1 p2 p3 p4 hback
        · cases hst
      refine hq_F.st (s' := (65, _, _, _)) hf280_64 rfl rfl rfl (hs_al p0) ?_
      refine hq_F.st (s' := (68, _, _, _)) hf280_65 rfl rfl rfl (hq_gf hC hq_s61 hk_33 (hq_ref hC hq_s61 (b := 63) rfl)) ?_
      refine hq_F.st (s' := (70, _, _, _)) hf280_68 rfl rfl rfl (hs_il p4) ?_
      refine hq_F.st (s' := (71, _, _, _)) hf280_70 rfl rfl rfl (hq_ia hC hq_s63 (n := 231 + 3 * i) (hn_t (by omega)) (hr.2 (3 * i) (by omega))) ?_
      refine hq_F.st (s' := (73, _, _, _)) hf280_71 rfl rfl rfl rfl ?_
      rw [e_21]
      by_cases h21 : f (3 * i) = 21
      · refine hq_F.st (s' := (88, _, _, _)) hf280_73 rfl rfl rfl (hs_ic (hc_eq h21) rfl) ?_
        exact hbin (Or.inl h21)
      · refine hq_F.st (s' := (76, _, _, _)) hf280_73 rfl rfl rfl (hs_icn (t := 88) (hc_eqn h21) rfl) ?_
        refine hq_F.st (s' := (77, _, _, _)) hf280_76 rfl rfl rfl (hs_al p0) ?_
        refine hq_F.st (s' := (80, _, _, _)) hf280_77 rfl rfl rfl (hq_gf hC hq_s61 hk_33 (hq_ref hC hq_s61 (b := 63) rfl)) ?_
        refine hq_F.st (s' := (82, _, _, _)) hf280_80 rfl rfl rfl (hs_il p4) ?_
        refine hq_F.st (s' := (83, _, _, _)) hf280_82 rfl rfl rfl (hq_ia hC hq_s63 (n := 231 + 3 * i) (hn_t (by omega)) (hr.2 (3 * i) (by omega))) ?_
        refine hq_F.st (s' := (85, _, _, _)) hf280_83 rfl rfl rfl rfl ?_
        rw [e_22]
        by_cases h22 : f (3 * i) = 22
        · refine hq_F.st (s' := (88, _, _, _)) hf280_85 rfl rfl rfl (hs_icn (t := 167) (hc_nen h22) rfl) ?_
          exact hbin (Or.inr h22)
        · refine hq_F.st (s' := (167, _, _, _)) hf280_85 rfl rfl rfl (hs_ic (hc_ne h22) rfl) ?_
          unfold rq1 at hst
          rw [if_neg h20, if_neg (by rintro (q | q); exact h21 q; exact h22 q)] at hst
          split at hst
          · cases hst
          · rename_i hlf
            cases hst
            refine hq_F.st (s' := (168, _, _, _)) hf280_167 rfl rfl rfl (hs_al p0) ?_
            refine hq_F.st (s' := (171, _, _, _)) hf280_168 rfl rfl rfl (hq_gf hC hq_s61 hk_71 (hq_ref hC hq_s61 (b := 75) rfl)) ?_
            refine hq_F.st (s' := (172, _, _, _)) hf280_171 rfl rfl rfl (hs_iln p2) ?_
            refine hq_F.st (s' := (173, _, _, _)) hf280_172 rfl rfl rfl (hs_al p0) ?_
            refine hq_F.st (s' := (174, _, _, _)) hf280_173 rfl rfl rfl (hs_iln p1) ?_
            refine hq_F.st (s' := (175, _, _, _)) hf280_174 rfl rfl rfl (hs_al p0) ?_
            refine hq_F.st (s' := (178, _, _, _)) hf280_175 rfl rfl rfl (hq_gf hC hq_s61 hk_33 (hq_ref hC hq_s61 (b := 63) rfl)) ?_
            refine hq_F.st (s' := (180, _, _, _)) hf280_178 rfl rfl rfl (hs_il p4) ?_
            refine hq_F.st (s' := (181, _, _, _)) hf280_180 rfl rfl rfl (hq_ia hC hq_s63 (n := 231 + 3 * i) (hn_t (by omega)) (hr.2 (3 * i) (by omega))) ?_
            refine hq_F.st (s' := (182, _, _, _)) hf280_181 rfl rfl rfl (hs_al p0) ?_
            refine hq_F.st (s' := (185, _, _, _)) hf280_182 rfl rfl rfl (hq_gf hC hq_s61 hk_33 (hq_ref hC hq_s61 (b := 63) rfl)) ?_
            refine hq_F.st (s' := (187, _, _, _)) hf280_185 rfl rfl rfl (hs_il p4) ?_
            refine hq_F.st (s' := (188, _, _, _)) hf280_187 rfl rfl rfl rfl ?_
            refine hq_F.st (s' := (189, _, _, _)) hf280_188 rfl rfl rfl hs_p1 ?_
            refine hq_F.st (s' := (190, _, _, _)) hf280_189 rfl rfl rfl (hq_ia hC hq_s63 (n := 231 + 3 * i + 1) (hn_t (by omega)) (hr.2 (3 * i + 1) (by omega))) ?_
            refine hq_F.st (s' := (191, _, _, _)) hf280_190 rfl rfl rfl (hs_al p0) ?_
            refine hq_F.st (s' := (194, _, _, _)) hf280_191 rfl rfl rfl (hq_gf hC hq_s61 hk_33 (hq_ref hC hq_s61 (b := 63) rfl)) ?_
            refine hq_F.st (s' := (196, _, _, _)) hf280_194 rfl rfl rfl (hs_il p4) ?_
            refine hq_F.st (s' := (197, _, _, _)) hf280_196 rfl rfl rfl rfl ?_
            refine hq_F.st (s' := (198, _, _, _)) hf280_197 rfl rfl rfl hs_p2 ?_
            refine hq_F.st (s' := (199, _, _, _)) hf280_198 rfl rfl rfl (hq_ia hC hq_s63 (n := 231 + 3 * i + 2) (hn_t (by omega)) (hr.2 (3 * i + 2) (by omega))) ?_
            refine hq_F.call (d := d) hf280_199 rfl rfl hi_457 (by decide) (by decide) pz_279 (hq_args (mz := hm279) hC (As := [.int k, .int (f (3 * i)), .int (f (3 * i + 1)), .int (f (3 * i + 2))]) rfl rfl rfl (by show 2 ≤ 8; decide) rfl (Nat.le_of_ble_eq_true rfl) rfl (by decide)) (hs_leafc hd hC hk (fun e => ?_)) (fun r w' q => by rw [q.1.1, hC.1]) ?_
            · apply Classical.byContradiction
              intro q
              exact hlf ⟨Int32.toInt_inj.mp e, q⟩
            · rintro r w1 ⟨hC1, hF1, v, rfl, hv0, hv1⟩
              refine hq_F.bs hf280_202 hC1 hq_s75 (n := D) (hn_t (by omega)) (by omega) (hq_nb hv0 hv1) (hq_01 hv0 hv1) (fun w2 hC2 hF2 hv2 => ?_)
              refine hq_F.st (s' := (206, _, _, _)) hf280_203 rfl rfl rfl (hs_inc p2 (by decide)) ?_
              rw [hn_s]
              exact hback w2 _ hC2 ((hF1.cov (by decide)).tr (hq_fr hF2 (fun c j hc => by
                obtain ⟨e1, e2⟩ := hq_cov1.mp hc
                unfold af_cov hs_T
                simp only [List.any_cons, List.any_nil, Bool.or_false, Bool.and_eq_true, beq_iff_eq, Nat.ble_eq, Nat.blt_eq]
                omega))) (pi_get_set_ne p0 (by decide) (fun q => (show ¬ ((1 : Nat) = 2) by decide) q.2)) (hg_ne p1 (by decide)) (pi_get_set _ _ _) (hg_ne p3 (by decide))
theorem hs_isSaid {d : Nat} {k : Int32} {w : pi_W} (hd : 8 ≤ d) (hC : af_Conf aw_Sh w) (hv : sv w 63 0) (hk : 0 ≤ k.toInt ∧ k.toInt ≤ 5) : hq_F (d + 1) hm280 (sq_D w) (0, lv_args 0 [.ref 61, .int k], [], w) := by
  obtain ⟨n, f, h1, h2, h3, D, h4⟩ := hv
  have g0 : pi_get (lv_args 0 [.ref 61, .int k]) 0 = some (.ref 61) := rfl
  have g1 : pi_get (lv_args 0 [.ref 61, .int k]) 1 = some (.int k) := rfl
  revert g0 g1
  generalize lv_args 0 [.ref 61, .int k] = lv
  intro g0 g1
  refine hq_F.st (s' := (1, lv, [.int (Int32.ofNat 0)], w)) hf280_0 rfl rfl rfl rfl ?_
  refine hq_F.st (s' := (2, pi_set lv 2 (.int (Int32.ofNat 0)), [], w)) hf280_1 rfl rfl rfl rfl ?_
  refine hq_F.st (s' := (3, pi_set lv 2 (.int (Int32.ofNat 0)), [.int (Int32.ofNat 0)], w)) hf280_2 rfl rfl rfl rfl ?_
  refine hq_F.st (s' := (4, pi_set (pi_set lv 2 (.int (Int32.ofNat 0))) 3 (.int (Int32.ofNat 0)), [], w)) hf280_3 rfl rfl rfl rfl ?_
  exact hs_said1 hd hk h1 h4 n 0 0 (by omega) rfl hC (af_Fr.rf _ _) ⟨h2, fun j hj => h3 j hj⟩ (pi_get_set_ne (pi_get_set_ne g0 (by decide) (fun q => (show ¬ ((1 : Nat) = 2) by decide) q.2)) (by decide) (fun q => (show ¬ ((1 : Nat) = 2) by decide) q.2)) (hg_ne (hg_ne g1 (by decide)) (by decide)) (hg_ne (pi_get_set _ _ _) (by decide)) (pi_get_set _ _ _)
def hs_U : af_M := [(61, 0, 1), (75, 0, 45)]
def sq_E (w : pi_W) (_r : Option Value) (w' : pi_W) : Prop := af_Conf aw_Sh w' ∧ af_Fr hs_U w w'
theorem hs_said2 {d M : Nat} {k : Int32} {w0 : pi_W} (hd : 9 ≤ d) (hM : M ≤ 6) : ∀ (m i : Nat) (x : Int32) {w : pi_W} {lv : pi_L}, i + m = M → af_Conf aw_Sh w → af_Fr hs_U w0 w → sv w 63 0 → af_wloc w 63 4 = some (.int (Int32.ofNat M)) → pi_get lv 0 = some (.ref 61) → pi_get lv 1 = some (.int k) → pi_get lv 2 = some (.int x) → pi_get lv 3 = some (.int (Int32.ofNat i)) → hq_F (d + 1) hm281 (sq_E w0) (27, lv, [], w) := by
  intro m
  induction m with
  | zero =>
    intro i x w lv hm hC hF hv h4 g0 g1 g2 g3
    refine hq_F.st (s' := (28, _, _, _)) hf281_27 rfl rfl rfl (hs_iln g3) ?_
    refine hq_F.st (s' := (29, _, _, _)) hf281_28 rfl rfl rfl (hs_al g0) ?_
    refine hq_F.st (s' := (32, _, _, _)) hf281_29 rfl rfl rfl (hq_gf hC hq_s61 hk_33 (hq_ref hC hq_s61 (b := 63) rfl)) ?_
    refine hq_F.st (s' := (33, _, _, _)) hf281_32 rfl rfl rfl rfl ?_
    refine hq_F.st (s' := (34, _, _, _)) hf281_33 rfl rfl rfl (hq_ia hC hq_s63 (n := 4) (by decide) h4) ?_
    refine hq_F.st (s' := (64, _, _, _)) hf281_34 rfl rfl rfl (hs_ic (hc_ge (by rw [hn_t (by omega), hn_t (by omega)]; omega)) rfl) ?_
    refine hq_F.st (s' := (65, _, _, _)) hf281_64 rfl rfl rfl (hs_iln g1) ?_
    refine hq_F.st (s' := (66, _, _, _)) hf281_65 rfl rfl rfl rfl ?_
    by_cases hk : k = Int32.ofInt (-1)
    · refine hq_F.st (s' := (69, _, _, _)) hf281_66 rfl rfl rfl (hs_icn (t := 73) (hc_nen hk) rfl) ?_
      refine hq_F.st (s' := (70, _, _, _)) hf281_69 rfl rfl rfl (hs_iln g2) ?_
      refine hq_F.st (s' := (74, _, _, _)) hf281_70 rfl rfl rfl rfl ?_
      exact hq_F.en hf281_74 rfl (pi_ri x) ⟨hC, hF⟩
    · refine hq_F.st (s' := (73, _, _, _)) hf281_66 rfl rfl rfl (hs_ic (hc_ne hk) rfl) ?_
      refine hq_F.st (s' := (74, _, _, _)) hf281_73 rfl rfl rfl rfl ?_
      exact hq_F.en hf281_74 rfl (pi_ri _) ⟨hC, hF⟩
  | succ m ih =>
    intro i x w lv hm hC hF hv h4 g0 g1 g2 g3
    obtain ⟨d, rfl⟩ : ∃ e, d = e + 1 := ⟨d - 1, by omega⟩
    refine hq_F.st (s' := (28, _, _, _)) hf281_27 rfl rfl rfl (hs_iln g3) ?_
    refine hq_F.st (s' := (29, _, _, _)) hf281_28 rfl rfl rfl (hs_al g0) ?_
    refine hq_F.st (s' := (32, _, _, _)) hf281_29 rfl rfl rfl (hq_gf hC hq_s61 hk_33 (hq_ref hC hq_s61 (b := 63) rfl)) ?_
    refine hq_F.st (s' := (33, _, _, _)) hf281_32 rfl rfl rfl rfl ?_
    refine hq_F.st (s' := (34, _, _, _)) hf281_33 rfl rfl rfl (hq_ia hC hq_s63 (n := 4) (by decide) h4) ?_
    refine hq_F.st (s' := (37, _, _, _)) hf281_34 rfl rfl rfl (hs_icn (t := 64) (hc_gen (by rw [hn_t (by omega), hn_t (by omega)]; omega)) rfl) ?_
    refine hq_F.st (s' := (38, _, _, _)) hf281_37 rfl rfl rfl (hs_al g0) ?_
    refine hq_F.st (s' := (39, _, _, _)) hf281_38 rfl rfl rfl (hs_iln g3) ?_
    refine hq_F.call hf281_39 rfl rfl hi_461 (by decide) (by decide) pz_280 (hq_args (mz := hm280) hC (As := [.int (Int32.ofNat i)]) rfl rfl rfl (Nat.zero_le _) rfl (Nat.le_of_ble_eq_true rfl) rfl (by decide)) (hs_isSaid (d := d) (by omega) hC hv (by rw [hn_t (by omega)]; omega)) (fun r w' q => by rw [q.1.1, hC.1]) ?_
    rintro r w1 ⟨hC1, hF1, b, rfl, hb0, hb1⟩
    have hF2 : af_Fr hs_U w0 w1 := hF.tr (hF1.cov (by decide))
    have hv1 : sv w1 63 0 := hv.fr (fun i _ _ => hq_cell hF1 (by decide))
    have h41 : af_wloc w1 63 4 = some (.int (Int32.ofNat M)) := (hq_cell hF1 (by decide)).trans h4
    have hnext : ∀ (y : Int32) (lv1 : pi_L), pi_get lv1 0 = some (.ref 61) → pi_get lv1 1 = some (.int k) → pi_get lv1 2 = some (.int y) → pi_get lv1 3 = some (.int (Int32.ofNat i)) → hq_F (d + 1 + 1) hm281 (sq_E w0) (58, lv1, [], w1) := by
      intro y lv1 q0 q1 q2 q3
      refine hq_F.st (s' := (61, _, _, _)) hf281_58 rfl rfl rfl (hs_inc q3 (by decide)) ?_
      rw [hn_s]
      refine hq_F.st (s' := (27, _, _, _)) hf281_61 rfl rfl rfl rfl ?_
      exact ih (i + 1) y (by omega) hC1 hF2 hv1 h41 (pi_get_set_ne q0 (by decide) (fun q => (show ¬ ((1 : Nat) = 2) by decide) q.2)) (hg_ne q1 (by decide)) (hg_ne q2 (by decide)) (pi_get_set _ _ _)
    by_cases hb : b = 0
    · refine hq_F.st (s' := (45, _, _, _)) hf281_42 rfl rfl rfl (hs_ifn (t := 48) (hc_nen hb) rfl) ?_
      refine hq_F.st (s' := (58, _, _, _)) hf281_45 rfl rfl rfl rfl ?_
      exact hnext x lv g0 g1 g2 g3
    · refine hq_F.st (s' := (48, _, _, _)) hf281_42 rfl rfl rfl (hs_if (hc_ne hb) rfl) ?_
      refine hq_F.st (s' := (49, _, _, _)) hf281_48 rfl rfl rfl (hs_iln g2) ?_
      refine hq_F.st (s' := (50, _, _, _)) hf281_49 rfl rfl rfl (hs_iln g1) ?_
      by_cases hx : x = k
      · refine hq_F.st (s' := (53, _, _, _)) hf281_50 rfl rfl rfl (hs_icn (t := 55) (hc_nen hx) rfl) ?_
        refine hq_F.st (s' := (54, _, _, _)) hf281_53 rfl rfl rfl (hs_iln g3) ?_
        exact hq_F.en hf281_54 rfl (pi_ri _) ⟨hC1, hF2⟩
      · refine hq_F.st (s' := (55, _, _, _)) hf281_50 rfl rfl rfl (hs_ic (hc_ne hx) rfl) ?_
        refine hq_F.st (s' := (58, _, _, _)) hf281_55 rfl rfl rfl (hs_inc g2 (by decide)) ?_
        exact hnext _ _ (pi_get_set_ne g0 (by decide) (fun q => (show ¬ ((1 : Nat) = 2) by decide) q.2)) (hg_ne g1 (by decide)) (pi_get_set _ _ _) (hg_ne g3 (by decide))
theorem hs_said {d : Nat} {k : Int32} {w : pi_W} (hd : 9 ≤ d) (hC : af_Conf aw_Sh w) (hv : sv w 63 0) : hq_F (d + 1) hm281 (sq_E w) (0, lv_args 0 [.ref 61, .int k], [], w) := by
  have g0 : pi_get (lv_args 0 [.ref 61, .int k]) 0 = some (.ref 61) := rfl
  have g1 : pi_get (lv_args 0 [.ref 61, .int k]) 1 = some (.int k) := rfl
  revert g0 g1
  generalize lv_args 0 [.ref 61, .int k] = lv
  intro g0 g1
  refine hq_F.st (s' := (1, _, _, _)) hf281_0 rfl rfl rfl (hs_al g0) ?_
  refine hq_F.st (s' := (2, _, _, _)) hf281_1 rfl rfl rfl rfl ?_
  refine hq_F.pf hf281_2 hC hq_s61 hk_1 (lo := -2147483648) (hi := 2147483647) rfl (af_i32 _) rfl rfl rfl (fun w1 hC1 hF1 hv1 => ?_)
  have hF : af_Fr hs_U w w1 := hF1.cov (by decide)
  have hv2 : sv w1 63 0 := hv.fr (fun i _ _ => hq_one hF1 (Or.inl (by decide)))
  obtain ⟨n, f, h1, h2, h3, D, h4⟩ := hv2
  refine hq_F.st (s' := (6, _, _, _)) hf281_5 rfl rfl rfl (hs_al g0) ?_
  refine hq_F.st (s' := (9, _, _, _)) hf281_6 rfl rfl rfl (hq_gf hC1 hq_s61 hk_33 (hq_ref hC1 hq_s61 (b := 63) rfl)) ?_
  refine hq_F.st (s' := (12, _, _, _)) hf281_9 rfl rfl rfl rfl ?_
  refine hq_F.st (s' := (13, _, _, _)) hf281_12 rfl rfl rfl (hq_ia hC1 hq_s63 (n := 230) (by decide) h2) ?_
  have hend : hq_F (d + 1) hm281 (sq_E w) (21, lv, [], w1) := by
    refine hq_F.st (s' := (22, _, _, _)) hf281_21 rfl rfl rfl rfl ?_
    exact hq_F.en hf281_22 rfl (pi_ri _) ⟨hC1, hF⟩
  by_cases hn : Int32.ofNat n = 0
  · refine hq_F.st (s' := (21, _, _, _)) hf281_13 rfl rfl rfl (hs_if (hc_eq hn) rfl) ?_
    exact hend
  · refine hq_F.st (s' := (16, _, _, _)) hf281_13 rfl rfl rfl (hs_ifn (t := 21) (hc_eqn hn) rfl) ?_
    refine hq_F.st (s' := (17, _, _, _)) hf281_16 rfl rfl rfl (hs_iln g1) ?_
    refine hq_F.st (s' := (18, _, _, _)) hf281_17 rfl rfl rfl rfl ?_
    by_cases hk : (Int32.ofInt (-1)).toInt ≤ k.toInt
    · refine hq_F.st (s' := (23, _, _, _)) hf281_18 rfl rfl rfl (hs_ic (hc_ge hk) rfl) ?_
      refine hq_F.st (s' := (24, lv, [.int (Int32.ofNat 0)], w1)) hf281_23 rfl rfl rfl rfl ?_
      refine hq_F.st (s' := (25, pi_set lv 2 (.int (Int32.ofNat 0)), [], w1)) hf281_24 rfl rfl rfl rfl ?_
      refine hq_F.st (s' := (26, pi_set lv 2 (.int (Int32.ofNat 0)), [.int (Int32.ofNat 0)], w1)) hf281_25 rfl rfl rfl rfl ?_
      refine hq_F.st (s' := (27, pi_set (pi_set lv 2 (.int (Int32.ofNat 0))) 3 (.int (Int32.ofNat 0)), [], w1)) hf281_26 rfl rfl rfl rfl ?_
      obtain ⟨xm, hxm, hm0, hm1⟩ := hq_int hC1 (c := 63) (i := 4) (lo := 0) (hi := 6) (by decide) rfl
      have em : xm = Int32.ofNat xm.toInt.toNat := hn_i hm0
      exact hs_said2 hd (M := xm.toInt.toNat) (by omega) xm.toInt.toNat 0 _ (by omega) hC1 hF ⟨n, f, h1, h2, h3, D, h4⟩ (by rw [← em]; exact hxm) (pi_get_set_ne (pi_get_set_ne g0 (by decide) (fun q => (show ¬ ((1 : Nat) = 2) by decide) q.2)) (by decide) (fun q => (show ¬ ((1 : Nat) = 2) by decide) q.2)) (hg_ne (hg_ne g1 (by decide)) (by decide)) (hg_ne (pi_get_set _ _ _) (by decide)) (pi_get_set _ _ _)
    · refine hq_F.st (s' := (21, _, _, _)) hf281_18 rfl rfl rfl (hs_icn (t := 23) (hc_gen (by omega)) rfl) ?_
      exact hend
