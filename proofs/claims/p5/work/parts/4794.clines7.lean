/-! ===== a LINE and all LINES in the class; by program ===== -/
theorem sk_3_30 : pi_look pi_fT 3 30 = some (9, 5, 175) := rfl
theorem sk_3_42 : pi_look pi_fT 3 42 = some (9, 9, 183) := rfl
theorem si_3_19 : pi_look pi_iT 3 19 = some (2, 10, 0, 479) := rfl
theorem si_3_24 : pi_look pi_iT 3 24 = some (2, 97, 1, 483) := rfl
theorem si_3_34 : pi_look pi_iT 3 34 = some (2, 22, 0, 512) := rfl
theorem si_3_38 : pi_look pi_iT 3 38 = some (2, 105, 1, 620) := rfl
theorem si_3_45 : pi_look pi_iT 3 45 = some (2, 23, 2, 516) := rfl
theorem si_3_53 : pi_look pi_iT 3 53 = some (2, 25, 0, 548) := rfl
theorem si_3_56 : pi_look pi_iT 3 56 = some (2, 26, 0, 576) := rfl
theorem si_3_59 : pi_look pi_iT 3 59 = some (2, 27, 0, 584) := rfl
theorem si_3_62 : pi_look pi_iT 3 62 = some (2, 29, 0, 596) := rfl
theorem si_3_65 : pi_look pi_iT 3 65 = some (2, 30, 0, 600) := rfl
theorem si_3_71 : pi_look pi_iT 3 71 = some (2, 31, 0, 604) := rfl
theorem si_3_74 : pi_look pi_iT 3 74 = some (2, 33, 0, 612) := rfl
theorem si_3_77 : pi_look pi_iT 3 77 = some (2, 34, 0, 616) := rfl
def sm10 : pi_M := (2, 2, none, false, mc_10)
def sm21 : pi_M := (3, 2, (some .int), false, mc_21)
def sm22 : pi_M := (3, 1, (some .boolean), false, mc_22)
def sm97 : pi_M := (9, 2, none, false, mc_97)
set_option maxRecDepth 100000 in
theorem sz_10 : pi_mt[10]? = some (mn_10, prog_4_method_2_code, (2, 2, none, false, mc_10)) := rfl
set_option maxRecDepth 100000 in
theorem sz_21 : pi_mt[21]? = some (mn_21, prog_5_method_2_code, (3, 2, (some .int), false, mc_21)) := rfl
set_option maxRecDepth 100000 in
theorem sz_22 : pi_mt[22]? = some (mn_22, prog_5_method_3_code, (3, 1, (some .boolean), false, mc_22)) := rfl
set_option maxRecDepth 100000 in
theorem sz_97 : pi_mt[97]? = some (mn_97, prog_11_method_4_code, (9, 2, none, false, mc_97)) := rfl
theorem hf22_0 : pi_fetch mc_22 0 = some (.aload_n 0, 1) := rfl
theorem hf22_1 : pi_fetch mc_22 1 = some (.getfield 9, 3) := rfl
theorem hf22_4 : pi_fetch mc_22 4 = some (.getfield 42, 3) := rfl
theorem hf22_7 : pi_fetch mc_22 7 = some (.tableswitch 240 0 8 #[49, 74, 97, 121, 151, 181, 204, 216, 228], 49) := rfl
theorem hf22_56 : pi_fetch mc_22 56 = some (.aload_n 0, 1) := rfl
theorem hf22_57 : pi_fetch mc_22 57 = some (.iconst 0, 1) := rfl
theorem hf22_58 : pi_fetch mc_22 58 = some (.bipush 10, 2) := rfl
theorem hf22_60 : pi_fetch mc_22 60 = some (.invokevirtual 45, 3) := rfl
theorem hf22_63 : pi_fetch mc_22 63 = some (.ifCond .eq 16, 3) := rfl
theorem hf22_66 : pi_fetch mc_22 66 = some (.aload_n 0, 1) := rfl
theorem hf22_67 : pi_fetch mc_22 67 = some (.iconst 0, 1) := rfl
theorem hf22_68 : pi_fetch mc_22 68 = some (.invokevirtual 49, 3) := rfl
theorem hf22_71 : pi_fetch mc_22 71 = some (.iconst (-1), 1) := rfl
theorem hf22_72 : pi_fetch mc_22 72 = some (.if_icmp .eq 7, 3) := rfl
theorem hf22_75 : pi_fetch mc_22 75 = some (.iconst 1, 1) := rfl
theorem hf22_76 : pi_fetch mc_22 76 = some (.goto 4, 3) := rfl
theorem hf22_79 : pi_fetch mc_22 79 = some (.iconst 0, 1) := rfl
theorem hf22_80 : pi_fetch mc_22 80 = some (.ireturn, 1) := rfl
theorem hf22_81 : pi_fetch mc_22 81 = some (.aload_n 0, 1) := rfl
theorem hf22_82 : pi_fetch mc_22 82 = some (.iconst 1, 1) := rfl
theorem hf22_83 : pi_fetch mc_22 83 = some (.bipush 16, 2) := rfl
theorem hf22_85 : pi_fetch mc_22 85 = some (.invokevirtual 45, 3) := rfl
theorem hf22_88 : pi_fetch mc_22 88 = some (.ifCond .eq 14, 3) := rfl
theorem hf22_91 : pi_fetch mc_22 91 = some (.aload_n 0, 1) := rfl
theorem hf22_92 : pi_fetch mc_22 92 = some (.invokevirtual 53, 3) := rfl
theorem hf22_95 : pi_fetch mc_22 95 = some (.ifCond .eq 7, 3) := rfl
theorem hf22_98 : pi_fetch mc_22 98 = some (.iconst 1, 1) := rfl
theorem hf22_99 : pi_fetch mc_22 99 = some (.goto 4, 3) := rfl
theorem hf22_102 : pi_fetch mc_22 102 = some (.iconst 0, 1) := rfl
theorem hf22_103 : pi_fetch mc_22 103 = some (.ireturn, 1) := rfl
theorem hf22_104 : pi_fetch mc_22 104 = some (.aload_n 0, 1) := rfl
theorem hf22_105 : pi_fetch mc_22 105 = some (.iconst 2, 1) := rfl
theorem hf22_106 : pi_fetch mc_22 106 = some (.iconst 5, 1) := rfl
theorem hf22_107 : pi_fetch mc_22 107 = some (.invokevirtual 45, 3) := rfl
theorem hf22_110 : pi_fetch mc_22 110 = some (.ifCond .eq 16, 3) := rfl
theorem hf22_113 : pi_fetch mc_22 113 = some (.aload_n 0, 1) := rfl
theorem hf22_114 : pi_fetch mc_22 114 = some (.iconst 2, 1) := rfl
theorem hf22_115 : pi_fetch mc_22 115 = some (.invokevirtual 49, 3) := rfl
theorem hf22_118 : pi_fetch mc_22 118 = some (.iconst (-1), 1) := rfl
theorem hf22_119 : pi_fetch mc_22 119 = some (.if_icmp .eq 7, 3) := rfl
theorem hf22_122 : pi_fetch mc_22 122 = some (.iconst 1, 1) := rfl
theorem hf22_123 : pi_fetch mc_22 123 = some (.goto 4, 3) := rfl
theorem hf22_126 : pi_fetch mc_22 126 = some (.iconst 0, 1) := rfl
theorem hf22_127 : pi_fetch mc_22 127 = some (.ireturn, 1) := rfl
theorem hf22_128 : pi_fetch mc_22 128 = some (.aload_n 0, 1) := rfl
theorem hf22_129 : pi_fetch mc_22 129 = some (.iconst 3, 1) := rfl
theorem hf22_130 : pi_fetch mc_22 130 = some (.bipush 6, 2) := rfl
theorem hf22_132 : pi_fetch mc_22 132 = some (.invokevirtual 45, 3) := rfl
theorem hf22_135 : pi_fetch mc_22 135 = some (.ifCond .eq 21, 3) := rfl
theorem hf22_138 : pi_fetch mc_22 138 = some (.aload_n 0, 1) := rfl
theorem hf22_139 : pi_fetch mc_22 139 = some (.invokevirtual 56, 3) := rfl
theorem hf22_142 : pi_fetch mc_22 142 = some (.ifCond .eq 14, 3) := rfl
theorem hf22_145 : pi_fetch mc_22 145 = some (.aload_n 0, 1) := rfl
theorem hf22_146 : pi_fetch mc_22 146 = some (.invokevirtual 59, 3) := rfl
theorem hf22_149 : pi_fetch mc_22 149 = some (.ifCond .eq 7, 3) := rfl
theorem hf22_152 : pi_fetch mc_22 152 = some (.iconst 1, 1) := rfl
theorem hf22_153 : pi_fetch mc_22 153 = some (.goto 4, 3) := rfl
theorem hf22_156 : pi_fetch mc_22 156 = some (.iconst 0, 1) := rfl
theorem hf22_157 : pi_fetch mc_22 157 = some (.ireturn, 1) := rfl
theorem hf22_158 : pi_fetch mc_22 158 = some (.aload_n 0, 1) := rfl
theorem hf22_159 : pi_fetch mc_22 159 = some (.iconst 3, 1) := rfl
theorem hf22_160 : pi_fetch mc_22 160 = some (.bipush 6, 2) := rfl
theorem hf22_162 : pi_fetch mc_22 162 = some (.invokevirtual 45, 3) := rfl
theorem hf22_165 : pi_fetch mc_22 165 = some (.ifCond .eq 21, 3) := rfl
theorem hf22_168 : pi_fetch mc_22 168 = some (.aload_n 0, 1) := rfl
theorem hf22_169 : pi_fetch mc_22 169 = some (.invokevirtual 56, 3) := rfl
theorem hf22_172 : pi_fetch mc_22 172 = some (.ifCond .eq 14, 3) := rfl
theorem hf22_175 : pi_fetch mc_22 175 = some (.aload_n 0, 1) := rfl
theorem hf22_176 : pi_fetch mc_22 176 = some (.invokevirtual 62, 3) := rfl
theorem hf22_179 : pi_fetch mc_22 179 = some (.ifCond .eq 7, 3) := rfl
theorem hf22_182 : pi_fetch mc_22 182 = some (.iconst 1, 1) := rfl
theorem hf22_183 : pi_fetch mc_22 183 = some (.goto 4, 3) := rfl
theorem hf22_186 : pi_fetch mc_22 186 = some (.iconst 0, 1) := rfl
theorem hf22_187 : pi_fetch mc_22 187 = some (.ireturn, 1) := rfl
theorem hf22_188 : pi_fetch mc_22 188 = some (.aload_n 0, 1) := rfl
theorem hf22_189 : pi_fetch mc_22 189 = some (.iconst 4, 1) := rfl
theorem hf22_190 : pi_fetch mc_22 190 = some (.bipush 6, 2) := rfl
theorem hf22_192 : pi_fetch mc_22 192 = some (.invokevirtual 45, 3) := rfl
theorem hf22_195 : pi_fetch mc_22 195 = some (.ifCond .eq 14, 3) := rfl
theorem hf22_198 : pi_fetch mc_22 198 = some (.aload_n 0, 1) := rfl
theorem hf22_199 : pi_fetch mc_22 199 = some (.invokevirtual 65, 3) := rfl
theorem hf22_202 : pi_fetch mc_22 202 = some (.ifCond .eq 7, 3) := rfl
theorem hf22_205 : pi_fetch mc_22 205 = some (.iconst 1, 1) := rfl
theorem hf22_206 : pi_fetch mc_22 206 = some (.goto 4, 3) := rfl
theorem hf22_209 : pi_fetch mc_22 209 = some (.iconst 0, 1) := rfl
theorem hf22_210 : pi_fetch mc_22 210 = some (.ireturn, 1) := rfl
theorem hf22_211 : pi_fetch mc_22 211 = some (.aload_n 0, 1) := rfl
theorem hf22_212 : pi_fetch mc_22 212 = some (.getfield 9, 3) := rfl
theorem hf22_215 : pi_fetch mc_22 215 = some (.invokevirtual 68, 3) := rfl
theorem hf22_218 : pi_fetch mc_22 218 = some (.aload_n 0, 1) := rfl
theorem hf22_219 : pi_fetch mc_22 219 = some (.invokevirtual 71, 3) := rfl
theorem hf22_222 : pi_fetch mc_22 222 = some (.ireturn, 1) := rfl
theorem hf22_223 : pi_fetch mc_22 223 = some (.aload_n 0, 1) := rfl
theorem hf22_224 : pi_fetch mc_22 224 = some (.getfield 9, 3) := rfl
theorem hf22_227 : pi_fetch mc_22 227 = some (.invokevirtual 68, 3) := rfl
theorem hf22_230 : pi_fetch mc_22 230 = some (.aload_n 0, 1) := rfl
theorem hf22_231 : pi_fetch mc_22 231 = some (.invokevirtual 74, 3) := rfl
theorem hf22_234 : pi_fetch mc_22 234 = some (.ireturn, 1) := rfl
theorem hf22_235 : pi_fetch mc_22 235 = some (.aload_n 0, 1) := rfl
theorem hf22_236 : pi_fetch mc_22 236 = some (.getfield 9, 3) := rfl
theorem hf22_239 : pi_fetch mc_22 239 = some (.invokevirtual 68, 3) := rfl
theorem hf22_242 : pi_fetch mc_22 242 = some (.aload_n 0, 1) := rfl
theorem hf22_243 : pi_fetch mc_22 243 = some (.invokevirtual 77, 3) := rfl
theorem hf22_246 : pi_fetch mc_22 246 = some (.ireturn, 1) := rfl
theorem hf22_247 : pi_fetch mc_22 247 = some (.aload_n 0, 1) := rfl
theorem hf22_248 : pi_fetch mc_22 248 = some (.getfield 9, 3) := rfl
theorem hf22_251 : pi_fetch mc_22 251 = some (.iconst 1, 1) := rfl
theorem hf22_252 : pi_fetch mc_22 252 = some (.invokevirtual 80, 3) := rfl
theorem hf22_255 : pi_fetch mc_22 255 = some (.ireturn, 1) := rfl
theorem hf21_0 : pi_fetch mc_21 0 = some (.aload_n 0, 1) := rfl
theorem hf21_1 : pi_fetch mc_21 1 = some (.getfield 15, 3) := rfl
theorem hf21_4 : pi_fetch mc_21 4 = some (.invokevirtual 19, 3) := rfl
theorem hf21_7 : pi_fetch mc_21 7 = some (.aload_n 0, 1) := rfl
theorem hf21_8 : pi_fetch mc_21 8 = some (.getfield 9, 3) := rfl
theorem hf21_11 : pi_fetch mc_21 11 = some (.sipush 900, 3) := rfl
theorem hf21_14 : pi_fetch mc_21 14 = some (.invokevirtual 24, 3) := rfl
theorem hf21_17 : pi_fetch mc_21 17 = some (.iconst 0, 1) := rfl
theorem hf21_18 : pi_fetch mc_21 18 = some (.istore_n 1, 1) := rfl
theorem hf21_19 : pi_fetch mc_21 19 = some (.iload_n 1, 1) := rfl
theorem hf21_20 : pi_fetch mc_21 20 = some (.sipush 940, 3) := rfl
theorem hf21_23 : pi_fetch mc_21 23 = some (.if_icmp .gt 42, 3) := rfl
theorem hf21_26 : pi_fetch mc_21 26 = some (.aload_n 0, 1) := rfl
theorem hf21_27 : pi_fetch mc_21 27 = some (.getfield 9, 3) := rfl
theorem hf21_30 : pi_fetch mc_21 30 = some (.getfield 30, 3) := rfl
theorem hf21_33 : pi_fetch mc_21 33 = some (.ifCond .ne 5, 3) := rfl
theorem hf21_36 : pi_fetch mc_21 36 = some (.iload_n 1, 1) := rfl
theorem hf21_37 : pi_fetch mc_21 37 = some (.ireturn, 1) := rfl
theorem hf21_38 : pi_fetch mc_21 38 = some (.aload_n 0, 1) := rfl
theorem hf21_39 : pi_fetch mc_21 39 = some (.invokevirtual 34, 3) := rfl
theorem hf21_42 : pi_fetch mc_21 42 = some (.ifCond .eq 15, 3) := rfl
theorem hf21_45 : pi_fetch mc_21 45 = some (.aload_n 0, 1) := rfl
theorem hf21_46 : pi_fetch mc_21 46 = some (.getfield 9, 3) := rfl
theorem hf21_49 : pi_fetch mc_21 49 = some (.bipush 59, 2) := rfl
theorem hf21_51 : pi_fetch mc_21 51 = some (.invokevirtual 38, 3) := rfl
theorem hf21_54 : pi_fetch mc_21 54 = some (.ifCond .ne 5, 3) := rfl
theorem hf21_57 : pi_fetch mc_21 57 = some (.iconst (-1), 1) := rfl
theorem hf21_58 : pi_fetch mc_21 58 = some (.ireturn, 1) := rfl
theorem hf21_59 : pi_fetch mc_21 59 = some (.iinc 1 1, 3) := rfl
theorem hf21_62 : pi_fetch mc_21 62 = some (.goto (-43), 3) := rfl
theorem hf21_65 : pi_fetch mc_21 65 = some (.iconst (-1), 1) := rfl
theorem hf21_66 : pi_fetch mc_21 66 = some (.ireturn, 1) := rfl
theorem hf10_0 : pi_fetch mc_10 0 = some (.iconst 0, 1) := rfl
theorem hf10_1 : pi_fetch mc_10 1 = some (.istore_n 1, 1) := rfl
theorem hf10_2 : pi_fetch mc_10 2 = some (.iload_n 1, 1) := rfl
theorem hf10_3 : pi_fetch mc_10 3 = some (.aload_n 0, 1) := rfl
theorem hf10_4 : pi_fetch mc_10 4 = some (.getfield 11, 3) := rfl
theorem hf10_7 : pi_fetch mc_10 7 = some (.arraylength, 1) := rfl
theorem hf10_8 : pi_fetch mc_10 8 = some (.if_icmp .ge 16, 3) := rfl
theorem hf10_11 : pi_fetch mc_10 11 = some (.aload_n 0, 1) := rfl
theorem hf10_12 : pi_fetch mc_10 12 = some (.getfield 11, 3) := rfl
theorem hf10_15 : pi_fetch mc_10 15 = some (.iload_n 1, 1) := rfl
theorem hf10_16 : pi_fetch mc_10 16 = some (.iconst 0, 1) := rfl
theorem hf10_17 : pi_fetch mc_10 17 = some (.iastore, 1) := rfl
theorem hf10_18 : pi_fetch mc_10 18 = some (.iinc 1 1, 3) := rfl
theorem hf10_21 : pi_fetch mc_10 21 = some (.goto (-19), 3) := rfl
theorem hf10_24 : pi_fetch mc_10 24 = some (.return_, 1) := rfl
theorem hf97_0 : pi_fetch mc_97 0 = some (.aload_n 0, 1) := rfl
theorem hf97_1 : pi_fetch mc_97 1 = some (.iload_n 1, 1) := rfl
theorem hf97_2 : pi_fetch mc_97 2 = some (.putfield 37, 3) := rfl
theorem hf97_5 : pi_fetch mc_97 5 = some (.aload_n 0, 1) := rfl
theorem hf97_6 : pi_fetch mc_97 6 = some (.iconst 0, 1) := rfl
theorem hf97_7 : pi_fetch mc_97 7 = some (.putfield 40, 3) := rfl
theorem hf97_10 : pi_fetch mc_97 10 = some (.aload_n 0, 1) := rfl
theorem hf97_11 : pi_fetch mc_97 11 = some (.iconst 0, 1) := rfl
theorem hf97_12 : pi_fetch mc_97 12 = some (.putfield 43, 3) := rfl
theorem hf97_15 : pi_fetch mc_97 15 = some (.aload_n 0, 1) := rfl
theorem hf97_16 : pi_fetch mc_97 16 = some (.iconst 0, 1) := rfl
theorem hf97_17 : pi_fetch mc_97 17 = some (.putfield 46, 3) := rfl
theorem hf97_20 : pi_fetch mc_97 20 = some (.aload_n 0, 1) := rfl
theorem hf97_21 : pi_fetch mc_97 21 = some (.invokevirtual 49, 3) := rfl
theorem hf97_24 : pi_fetch mc_97 24 = some (.return_, 1) := rfl
theorem hi_0 : Int32.ofInt 0 = Int32.ofNat 0 := by decide
theorem hi_1 : Int32.ofInt 1 = Int32.ofNat 1 := by decide
theorem hi_2 : Int32.ofInt 2 = Int32.ofNat 2 := by decide
theorem hi_3 : Int32.ofInt 3 = Int32.ofNat 3 := by decide
theorem hi_4 : Int32.ofInt 4 = Int32.ofNat 4 := by decide
theorem hq_fr1 {w w' : pi_W} {a k lo hi : Nat} {v : Value} (hw : wr1 w a k v w') (h : lo ≤ k ∧ k < hi) : af_Fr [(a, lo, hi)] w w' := hq_fr (wpF hw) (fun c j hc => by
  have hq := hq_cov1.mp hc
  unfold af_cov
  simp only [List.any_cons, List.any_nil, Bool.or_false, Bool.and_eq_true, beq_iff_eq, Nat.ble_eq, Nat.blt_eq]
  omega)
theorem ts_in {own nL pc len n t : Nat} {ini : Bool} {lv : pi_L} {r : List Value} {w : pi_W} {x : Int32} {dflt lo hi off : Int} {offs : Array Int} (hx : x.toInt = lo + (n : Int)) (h : lo + (n : Int) ≤ hi) (ho : offs[n]? = some off) (ht : pi_tgt pc off = some t) : pi_step own ini nL (.tableswitch dflt lo hi offs) len (pc, lv, .int x :: r, w) = some (t, lv, r, w) := by
  have e : (x.toInt - lo).toNat = n := by omega
  have h0 : ¬ (x.toInt < lo ∨ hi < x.toInt) := by omega
  simp only [pi_step, if_neg h0, e, ho, ht, pi_jump]
theorem ts_out {own nL pc len t : Nat} {ini : Bool} {lv : pi_L} {r : List Value} {w : pi_W} {x : Int32} {dflt lo hi : Int} {offs : Array Int} (h : x.toInt < lo ∨ hi < x.toInt) (ht : pi_tgt pc dflt = some t) : pi_step own ini nL (.tableswitch dflt lo hi offs) len (pc, lv, .int x :: r, w) = some (t, lv, r, w) := by
  simp only [pi_step, if_pos h, ht, pi_jump]
def ls_k (t : tq_T) : Int := if t.1 = 2 then tq_kx t.2.2.2.1 else -1
theorem ls_k2 {t : tq_T} (h : ls_k t ≠ -1) : t.1 = 2 := by
  unfold ls_k at h
  by_cases e : t.1 = 2
  · exact e
  · rw [if_neg e] at h
    exact absurd rfl h
theorem ls_line_0 {tp : Nat → Nat} {B M : Nat} {σ : ls_S} (hk : ls_k σ.1 = 0) : ls_line tp B M σ = ls_b (ls_more tp B M (nt_c 0 σ.2.2.2) 10 σ) (ls_new tp B M 0) := by
  unfold ls_k at hk
  unfold ls_line
  dsimp only
  rw [hk]
  rfl
theorem ls_line_1 {tp : Nat → Nat} {B M : Nat} {σ : ls_S} (hk : ls_k σ.1 = 1) : ls_line tp B M σ = ls_b (ls_more tp B M σ.2.2.1 16 σ) (ls_road tp B M) := by
  unfold ls_k at hk
  unfold ls_line
  dsimp only
  rw [hk]
  rfl
theorem ls_line_2 {tp : Nat → Nat} {B M : Nat} {σ : ls_S} (hk : ls_k σ.1 = 2) : ls_line tp B M σ = ls_b (ls_more tp B M (nt_c 2 σ.2.2.2) 5 σ) (ls_new tp B M 2) := by
  unfold ls_k at hk
  unfold ls_line
  dsimp only
  rw [hk]
  rfl
theorem ls_line_3 {tp : Nat → Nat} {B M : Nat} {σ : ls_S} (hk : ls_k σ.1 = 3) : ls_line tp B M σ = ls_law tp B M σ := by
  unfold ls_k at hk
  unfold ls_line
  dsimp only
  rw [hk]
  rfl
theorem ls_line_4 {tp : Nat → Nat} {B M : Nat} {σ : ls_S} (hk : ls_k σ.1 = 4) : ls_line tp B M σ = ls_repeal tp B M σ := by
  unfold ls_k at hk
  unfold ls_line
  dsimp only
  rw [hk]
  rfl
theorem ls_line_5 {tp : Nat → Nat} {B M : Nat} {σ : ls_S} (hk : ls_k σ.1 = 5) : ls_line tp B M σ = ls_man tp B M σ := by
  unfold ls_k at hk
  unfold ls_line
  dsimp only
  rw [hk]
  rfl
theorem ls_line_6 {tp : Nat → Nat} {B M : Nat} {σ : ls_S} (hk : ls_k σ.1 = 6) : ls_line tp B M σ = ls_round tp B M σ := by
  unfold ls_k at hk
  unfold ls_line
  dsimp only
  rw [hk]
  rfl
theorem ls_line_7 {tp : Nat → Nat} {B M : Nat} {σ : ls_S} (hk : ls_k σ.1 = 7) : ls_line tp B M σ = ls_clerk tp B M σ := by
  unfold ls_k at hk
  unfold ls_line
  dsimp only
  rw [hk]
  rfl
theorem ls_line_8 {tp : Nat → Nat} {B M : Nat} {σ : ls_S} (hk : ls_k σ.1 = 8) : ls_line tp B M σ = ls_post tp B M σ := by
  unfold ls_k at hk
  unfold ls_line
  dsimp only
  rw [hk]
  rfl
theorem ls_line_9 {tp : Nat → Nat} {B M : Nat} {σ : ls_S} (hk : ls_k σ.1 < 0 ∨ 8 < ls_k σ.1) : ls_line tp B M σ = .inl (1, σ.1.2.1) := by
  unfold ls_k at hk
  unfold ls_line
  dsimp only
  rw [if_neg (by omega), if_neg (by omega), if_neg (by omega), if_neg (by omega), if_neg (by omega), if_neg (by omega), if_neg (by omega), if_neg (by omega), if_neg (by omega)]
theorem cl_line {d B M : Nat} {tp : Nat → Nat} {w : pi_W} {σ : ls_S} (hO : CO tp B M w σ) (hJ : ls_J σ) : hq_F (d + 5) sm22 (cl_P tp B M (ls_line tp B M σ) w) (0, lv_args 0 [.ref 10], [], w) := by
  have hI := hJ.1
  obtain ⟨t, A, nr, NT⟩ := σ
  obtain ⟨h, hL⟩ := hO
  obtain ⟨ho, ⟨m0, m2, m3, m4⟩, mr, i3, i7⟩ := hI
  dsimp only at *
  have hlen := nt_len (fun e he => (ho.1 e he).2.1)
  have h9 : (gv w 1 9).toInt = ls_k t := h.2.2.2.2.1.2.2.2.2.1
  have g0 : pi_get (lv_args 0 [.ref 10]) 0 = some (.ref 10) := rfl
  have kc0 : (((Int8.ofInt 10).toInt32)).toInt = 10 := by decide
  have kc1 : (((Int8.ofInt 16).toInt32)).toInt = 16 := by decide
  have kc2 : (((Int8.ofInt 6).toInt32)).toInt = 6 := by decide
  have kc3 : ((-1 : Int32)).toInt = (-1) := by decide
  have kc4 : ((0 : Int32)).toInt = 0 := by decide
  have kc5 : ((1 : Int32)).toInt = 1 := by decide
  have kc6 : ((Int32.ofInt (-1))).toInt = (-1) := by decide
  have kc7 : ((Int32.ofInt 0)).toInt = 0 := by decide
  have kc8 : ((Int32.ofInt 1)).toInt = 1 := by decide
  have kc9 : ((Int32.ofInt 2)).toInt = 2 := by decide
  have kc10 : ((Int32.ofInt 3)).toInt = 3 := by decide
  have kc11 : ((Int32.ofInt 4)).toInt = 4 := by decide
  have kc12 : ((Int32.ofInt 5)).toInt = 5 := by decide
  have kz := sy_z0
  refine hq_F.st (s' := (1, _, _, _)) hf22_0 rfl rfl rfl (hs_al g0) ?_
  refine hq_F.st (s' := (4, _, _, _)) hf22_1 rfl rfl rfl (hq_gf h.1 sh_10 sk_3_9 (hq_ref h.1 sh_10 (b := 1) rfl)) ?_
  refine hq_F.st (s' := (7, _, _, _)) hf22_4 rfl rfl rfl (hq_gf h.1 sh_1 sk_3_42 (sy_v h.1 (by decide) rfl)) ?_
  by_cases hk0 : ls_k t = 0
  · have h2t : 2 ≤ t.1 := by rw [ls_k2 (t := t) (by omega)]; omega
    refine hq_F.st (s' := (56, _, _, _)) hf22_7 rfl rfl rfl (ts_in (n := 0) (by omega) (by omega) rfl rfl) ?_
    refine hq_F.st (s' := (57, _, _, _)) hf22_56 rfl rfl rfl (hs_al g0) ?_
    refine hq_F.st (s' := (58, _, _, _)) hf22_57 rfl rfl rfl rfl ?_
    refine hq_F.st (s' := (60, _, _, _)) hf22_58 rfl rfl rfl rfl ?_
    rw [hi_0]
    refine hq_F.call hf22_60 rfl rfl si_3_45 (by decide) (by decide) sz_23 (sy_argsV h.1 sh_10 rfl rfl rfl (Nat.le_of_ble_eq_true rfl) rfl (Nat.le_of_ble_eq_true rfl) rfl (by decide)) (cl_tf (d := d + 1) (c := (nt_c 0 NT)) (m := 10) h h2t (by decide) (hL.2.1 0 (by omega)) (by decide)) (fun r w' q => by rcases q with ⟨_, _, q, _⟩ | ⟨_, _, q, _⟩; rw [q.1.1, h.1.1]; rw [q.1.1, h.1.1]) ?_
    rintro r60 w1 q
    try dsimp only
    rcases q with ⟨rfl, l1, h1, F1⟩ | ⟨rfl, l1, h1, F1, q⟩
    · have hL1 := hL.fr F1 (by decide) (by decide)
      have eM : ls_more tp B M (nt_c 0 NT) 10 (t, A, nr, NT) = .inr (tq_nx tp B M t, A, nr, NT) := if_pos l1
      refine hq_F.st (s' := (66, _, _, _)) hf22_63 rfl rfl rfl (hs_ifn (t := 79) (ci_eqn (by omega)) rfl) ?_
      refine hq_F.st (s' := (67, _, _, _)) hf22_66 rfl rfl rfl (hs_al g0) ?_
      refine hq_F.st (s' := (68, _, _, _)) hf22_67 rfl rfl rfl rfl ?_
      refine hq_F.call hf22_68 rfl rfl si_3_49 (by decide) (by decide) sz_24 (sy_argsV h1.1 sh_10 rfl rfl rfl (Nat.le_of_ble_eq_true rfl) rfl (Nat.le_of_ble_eq_true rfl) rfl (by decide)) (cl_nn0 (d := d + 1) h1 hL1.1 ho (hL1.2.1 0 (by omega)) l1 (by omega)) (fun r w' q => by rcases q with ⟨_, _, _, q, _⟩ | ⟨_, q, _⟩; rw [q.1.1, h1.1.1]; rw [q.1.1, h1.1.1]) ?_
      rintro r68 w2 q
      try dsimp only
      rcases q with ⟨rfl, n2, f2, h2, N2, F2, e2⟩ | ⟨rfl, h2, F2, q⟩
      · have tl : (Int32.ofNat (nt_c 0 NT)).toInt = (nt_c 0 NT : Int) := hn_t (by omega)
        refine hq_F.st (s' := (72, _, _, _)) hf22_71 rfl rfl rfl rfl ?_
        refine hq_F.st (s' := (75, _, _, _)) hf22_72 rfl rfl rfl (hs_icn (t := 79) (ci_eqn (by omega)) rfl) ?_
        refine hq_F.st (s' := (76, _, _, _)) hf22_75 rfl rfl rfl rfl ?_
        refine hq_F.st (s' := (80, _, _, _)) hf22_76 rfl rfl rfl rfl ?_
        refine hq_F.en hf22_80 rfl rfl ?_
        exact ⟨h2.1, (F1.cov (by decide)).tr (F2.cov (by decide)), Or.inl ⟨rfl, (tq_nx tp B M (tq_nx tp B M t), A, nr, NT ++ [(0, nt_c 0 NT, (tq_nx tp B M t).2.2.2.1)]), by rw [ls_line_0 hk0]; show ls_b (ls_more tp B M (nt_c 0 NT) 10 (t, A, nr, NT)) _ = _; rw [eM]; rw [ls_br]; exact ls_new_in n2 f2, h2, hL1.new02 (by omega) N2 F2 e2⟩⟩
      · skip
        refine hq_F.st (s' := (72, _, _, _)) hf22_71 rfl rfl rfl rfl ?_
        refine hq_F.st (s' := (79, _, _, _)) hf22_72 rfl rfl rfl (hs_ic (ci_eq (by omega)) rfl) ?_
        refine hq_F.st (s' := (80, _, _, _)) hf22_79 rfl rfl rfl rfl ?_
        refine hq_F.en hf22_80 rfl rfl ?_
        rcases q with ⟨q1, q2⟩ | ⟨q1, q2, q3⟩
        · exact ⟨h2.1, (F1.cov (by decide)).tr (F2.cov (by decide)), Or.inr ⟨rfl, 1, (tq_nx tp B M t).2.1, by rw [ls_line_0 hk0]; show ls_b (ls_more tp B M (nt_c 0 NT) 10 (t, A, nr, NT)) _ = _; rw [eM]; rw [ls_br]; exact ls_new_1 q1, q2⟩⟩
        · exact ⟨h2.1, (F1.cov (by decide)).tr (F2.cov (by decide)), Or.inr ⟨rfl, 3, (tq_nx tp B M t).2.1, by rw [ls_line_0 hk0]; show ls_b (ls_more tp B M (nt_c 0 NT) 10 (t, A, nr, NT)) _ = _; rw [eM]; rw [ls_br]; exact ls_new_3 q1 q2, q3⟩⟩
    · have eM : ls_more tp B M (nt_c 0 NT) 10 (t, A, nr, NT) = .inl (4, t.2.1) := if_neg l1
      refine hq_F.st (s' := (79, _, _, _)) hf22_63 rfl rfl rfl (hs_if (ci_eq (by omega)) rfl) ?_
      refine hq_F.st (s' := (80, _, _, _)) hf22_79 rfl rfl rfl rfl ?_
      refine hq_F.en hf22_80 rfl rfl ?_
      exact ⟨h1.1, F1.cov (by decide), Or.inr ⟨rfl, 4, t.2.1, by rw [ls_line_0 hk0]; show ls_b (ls_more tp B M (nt_c 0 NT) 10 (t, A, nr, NT)) _ = _; rw [eM]; rfl, q⟩⟩
  by_cases hk1 : ls_k t = 1
  · have h2t : 2 ≤ t.1 := by rw [ls_k2 (t := t) (by omega)]; omega
    refine hq_F.st (s' := (81, _, _, _)) hf22_7 rfl rfl rfl (ts_in (n := 1) (by omega) (by omega) rfl rfl) ?_
    refine hq_F.st (s' := (82, _, _, _)) hf22_81 rfl rfl rfl (hs_al g0) ?_
    refine hq_F.st (s' := (83, _, _, _)) hf22_82 rfl rfl rfl rfl ?_
    refine hq_F.st (s' := (85, _, _, _)) hf22_83 rfl rfl rfl rfl ?_
    rw [hi_1]
    refine hq_F.call hf22_85 rfl rfl si_3_45 (by decide) (by decide) sz_23 (sy_argsV h.1 sh_10 rfl rfl rfl (Nat.le_of_ble_eq_true rfl) rfl (Nat.le_of_ble_eq_true rfl) rfl (by decide)) (cl_tf (d := d + 1) (c := nr) (m := 16) h h2t (by decide) hL.2.2.1 (by decide)) (fun r w' q => by rcases q with ⟨_, _, q, _⟩ | ⟨_, _, q, _⟩; rw [q.1.1, h.1.1]; rw [q.1.1, h.1.1]) ?_
    rintro r85 w1 q
    try dsimp only
    rcases q with ⟨rfl, l1, h1, F1⟩ | ⟨rfl, l1, h1, F1, q⟩
    · have hL1 := hL.fr F1 (by decide) (by decide)
      have eM : ls_more tp B M nr 16 (t, A, nr, NT) = .inr (tq_nx tp B M t, A, nr, NT) := if_pos l1
      refine hq_F.st (s' := (91, _, _, _)) hf22_88 rfl rfl rfl (hs_ifn (t := 102) (ci_eqn (by omega)) rfl) ?_
      refine hq_F.st (s' := (92, _, _, _)) hf22_91 rfl rfl rfl (hs_al g0) ?_
      refine hq_F.call hf22_92 rfl rfl si_3_53 (by decide) (by decide) sz_25 (sy_argsV h1.1 sh_10 rfl rfl rfl (Nat.le_of_ble_eq_true rfl) rfl (Nat.le_of_ble_eq_true rfl) rfl (by decide)) (cl_road (d := d) (σ := (tq_nx tp B M t, A, nr, NT)) ⟨h1, hL1⟩ hJ.1 l1) (fun _ _ q => by rw [q.1.1, h1.1.1]) ?_
      rintro r92 w2 ⟨hC2, F2, q⟩
      try dsimp only
      rcases q with ⟨rfl, σ2, e2, O2⟩ | ⟨rfl, k, p, e2, q2⟩
      · skip
        refine hq_F.st (s' := (98, _, _, _)) hf22_95 rfl rfl rfl (hs_ifn (t := 102) (ci_eqn (by omega)) rfl) ?_
        refine hq_F.st (s' := (99, _, _, _)) hf22_98 rfl rfl rfl rfl ?_
        refine hq_F.st (s' := (103, _, _, _)) hf22_99 rfl rfl rfl rfl ?_
        refine hq_F.en hf22_103 rfl rfl ?_
        exact ⟨hC2, (F1.cov (by decide)).tr F2, Or.inl ⟨rfl, σ2, by rw [ls_line_1 hk1]; show ls_b (ls_more tp B M nr 16 (t, A, nr, NT)) _ = _; rw [eM]; rw [ls_br]; exact e2, O2⟩⟩
      · skip
        refine hq_F.st (s' := (102, _, _, _)) hf22_95 rfl rfl rfl (hs_if (ci_eq (by omega)) rfl) ?_
        refine hq_F.st (s' := (103, _, _, _)) hf22_102 rfl rfl rfl rfl ?_
        refine hq_F.en hf22_103 rfl rfl ?_
        exact ⟨hC2, (F1.cov (by decide)).tr F2, Or.inr ⟨rfl, k, p, by rw [ls_line_1 hk1]; show ls_b (ls_more tp B M nr 16 (t, A, nr, NT)) _ = _; rw [eM]; rw [ls_br]; exact e2, q2⟩⟩
    · have eM : ls_more tp B M nr 16 (t, A, nr, NT) = .inl (4, t.2.1) := if_neg l1
      refine hq_F.st (s' := (102, _, _, _)) hf22_88 rfl rfl rfl (hs_if (ci_eq (by omega)) rfl) ?_
      refine hq_F.st (s' := (103, _, _, _)) hf22_102 rfl rfl rfl rfl ?_
      refine hq_F.en hf22_103 rfl rfl ?_
      exact ⟨h1.1, F1.cov (by decide), Or.inr ⟨rfl, 4, t.2.1, by rw [ls_line_1 hk1]; show ls_b (ls_more tp B M nr 16 (t, A, nr, NT)) _ = _; rw [eM]; rfl, q⟩⟩
  by_cases hk2 : ls_k t = 2
  · have h2t : 2 ≤ t.1 := by rw [ls_k2 (t := t) (by omega)]; omega
    refine hq_F.st (s' := (104, _, _, _)) hf22_7 rfl rfl rfl (ts_in (n := 2) (by omega) (by omega) rfl rfl) ?_
    refine hq_F.st (s' := (105, _, _, _)) hf22_104 rfl rfl rfl (hs_al g0) ?_
    refine hq_F.st (s' := (106, _, _, _)) hf22_105 rfl rfl rfl rfl ?_
    refine hq_F.st (s' := (107, _, _, _)) hf22_106 rfl rfl rfl rfl ?_
    rw [hi_2]
    refine hq_F.call hf22_107 rfl rfl si_3_45 (by decide) (by decide) sz_23 (sy_argsV h.1 sh_10 rfl rfl rfl (Nat.le_of_ble_eq_true rfl) rfl (Nat.le_of_ble_eq_true rfl) rfl (by decide)) (cl_tf (d := d + 1) (c := (nt_c 2 NT)) (m := 5) h h2t (by decide) (hL.2.1 2 (by omega)) (by decide)) (fun r w' q => by rcases q with ⟨_, _, q, _⟩ | ⟨_, _, q, _⟩; rw [q.1.1, h.1.1]; rw [q.1.1, h.1.1]) ?_
    rintro r107 w1 q
    try dsimp only
    rcases q with ⟨rfl, l1, h1, F1⟩ | ⟨rfl, l1, h1, F1, q⟩
    · have hL1 := hL.fr F1 (by decide) (by decide)
      have eM : ls_more tp B M (nt_c 2 NT) 5 (t, A, nr, NT) = .inr (tq_nx tp B M t, A, nr, NT) := if_pos l1
      refine hq_F.st (s' := (113, _, _, _)) hf22_110 rfl rfl rfl (hs_ifn (t := 126) (ci_eqn (by omega)) rfl) ?_
      refine hq_F.st (s' := (114, _, _, _)) hf22_113 rfl rfl rfl (hs_al g0) ?_
      refine hq_F.st (s' := (115, _, _, _)) hf22_114 rfl rfl rfl rfl ?_
      refine hq_F.call hf22_115 rfl rfl si_3_49 (by decide) (by decide) sz_24 (sy_argsV h1.1 sh_10 rfl rfl rfl (Nat.le_of_ble_eq_true rfl) rfl (Nat.le_of_ble_eq_true rfl) rfl (by decide)) (cl_nn2 (d := d + 1) h1 hL1.1 ho (hL1.2.1 2 (by omega)) l1 (by omega)) (fun r w' q => by rcases q with ⟨_, _, _, q, _⟩ | ⟨_, q, _⟩; rw [q.1.1, h1.1.1]; rw [q.1.1, h1.1.1]) ?_
      rintro r115 w2 q
      try dsimp only
      rcases q with ⟨rfl, n2, f2, h2, N2, F2, e2⟩ | ⟨rfl, h2, F2, q⟩
      · have tl : (Int32.ofNat (nt_c 2 NT)).toInt = (nt_c 2 NT : Int) := hn_t (by omega)
        refine hq_F.st (s' := (119, _, _, _)) hf22_118 rfl rfl rfl rfl ?_
        refine hq_F.st (s' := (122, _, _, _)) hf22_119 rfl rfl rfl (hs_icn (t := 126) (ci_eqn (by omega)) rfl) ?_
        refine hq_F.st (s' := (123, _, _, _)) hf22_122 rfl rfl rfl rfl ?_
        refine hq_F.st (s' := (127, _, _, _)) hf22_123 rfl rfl rfl rfl ?_
        refine hq_F.en hf22_127 rfl rfl ?_
        exact ⟨h2.1, (F1.cov (by decide)).tr (F2.cov (by decide)), Or.inl ⟨rfl, (tq_nx tp B M (tq_nx tp B M t), A, nr, NT ++ [(2, nt_c 2 NT, (tq_nx tp B M t).2.2.2.1)]), by rw [ls_line_2 hk2]; show ls_b (ls_more tp B M (nt_c 2 NT) 5 (t, A, nr, NT)) _ = _; rw [eM]; rw [ls_br]; exact ls_new_in n2 f2, h2, hL1.new02 (by omega) N2 F2 e2⟩⟩
      · skip
        refine hq_F.st (s' := (119, _, _, _)) hf22_118 rfl rfl rfl rfl ?_
        refine hq_F.st (s' := (126, _, _, _)) hf22_119 rfl rfl rfl (hs_ic (ci_eq (by omega)) rfl) ?_
        refine hq_F.st (s' := (127, _, _, _)) hf22_126 rfl rfl rfl rfl ?_
        refine hq_F.en hf22_127 rfl rfl ?_
        rcases q with ⟨q1, q2⟩ | ⟨q1, q2, q3⟩
        · exact ⟨h2.1, (F1.cov (by decide)).tr (F2.cov (by decide)), Or.inr ⟨rfl, 1, (tq_nx tp B M t).2.1, by rw [ls_line_2 hk2]; show ls_b (ls_more tp B M (nt_c 2 NT) 5 (t, A, nr, NT)) _ = _; rw [eM]; rw [ls_br]; exact ls_new_1 q1, q2⟩⟩
        · exact ⟨h2.1, (F1.cov (by decide)).tr (F2.cov (by decide)), Or.inr ⟨rfl, 3, (tq_nx tp B M t).2.1, by rw [ls_line_2 hk2]; show ls_b (ls_more tp B M (nt_c 2 NT) 5 (t, A, nr, NT)) _ = _; rw [eM]; rw [ls_br]; exact ls_new_3 q1 q2, q3⟩⟩
    · have eM : ls_more tp B M (nt_c 2 NT) 5 (t, A, nr, NT) = .inl (4, t.2.1) := if_neg l1
      refine hq_F.st (s' := (126, _, _, _)) hf22_110 rfl rfl rfl (hs_if (ci_eq (by omega)) rfl) ?_
      refine hq_F.st (s' := (127, _, _, _)) hf22_126 rfl rfl rfl rfl ?_
      refine hq_F.en hf22_127 rfl rfl ?_
      exact ⟨h1.1, F1.cov (by decide), Or.inr ⟨rfl, 4, t.2.1, by rw [ls_line_2 hk2]; show ls_b (ls_more tp B M (nt_c 2 NT) 5 (t, A, nr, NT)) _ = _; rw [eM]; rfl, q⟩⟩
  by_cases hk3 : ls_k t = 3
  · have h2t : 2 ≤ t.1 := by rw [ls_k2 (t := t) (by omega)]; omega
    refine hq_F.st (s' := (128, _, _, _)) hf22_7 rfl rfl rfl (ts_in (n := 3) (by omega) (by omega) rfl rfl) ?_
    refine hq_F.st (s' := (129, _, _, _)) hf22_128 rfl rfl rfl (hs_al g0) ?_
    refine hq_F.st (s' := (130, _, _, _)) hf22_129 rfl rfl rfl rfl ?_
    refine hq_F.st (s' := (132, _, _, _)) hf22_130 rfl rfl rfl rfl ?_
    rw [hi_3]
    refine hq_F.call hf22_132 rfl rfl si_3_45 (by decide) (by decide) sz_23 (sy_argsV h.1 sh_10 rfl rfl rfl (Nat.le_of_ble_eq_true rfl) rfl (Nat.le_of_ble_eq_true rfl) rfl (by decide)) (cl_tf (d := d + 1) (c := (nt_c 3 NT)) (m := 6) h h2t (by decide) (hL.2.1 3 (by omega)) (by decide)) (fun r w' q => by rcases q with ⟨_, _, q, _⟩ | ⟨_, _, q, _⟩; rw [q.1.1, h.1.1]; rw [q.1.1, h.1.1]) ?_
    rintro r132 w1 q
    try dsimp only
    rcases q with ⟨rfl, l1, h1, F1⟩ | ⟨rfl, l1, h1, F1, q⟩
    · have hL1 := hL.fr F1 (by decide) (by decide)
      have eM : ls_more tp B M (nt_c 3 NT) 6 (t, A, nr, NT) = .inr (tq_nx tp B M t, A, nr, NT) := if_pos l1
      refine hq_F.st (s' := (138, _, _, _)) hf22_135 rfl rfl rfl (hs_ifn (t := 156) (ci_eqn (by omega)) rfl) ?_
      refine hq_F.st (s' := (139, _, _, _)) hf22_138 rfl rfl rfl (hs_al g0) ?_
      refine hq_F.call hf22_139 rfl rfl si_3_56 (by decide) (by decide) sz_26 (sy_argsV h1.1 sh_10 rfl rfl rfl (Nat.le_of_ble_eq_true rfl) rfl (Nat.le_of_ble_eq_true rfl) rfl (by decide)) (cl_head (d := d) (σ := (tq_nx tp B M t, A, nr, NT)) ⟨h1, hL1⟩ hJ.1 l1) (fun _ _ q => by rw [q.1.1, h1.1.1]) ?_
      rintro r139 w2 ⟨hC2, F2, q⟩
      try dsimp only
      rcases q with ⟨rfl, σ2, e2, O2⟩ | ⟨rfl, k, p, e2, q2⟩
      · obtain ⟨j2, c2, _⟩ := ls_J_head (σ := (tq_nx tp B M t, A, nr, NT)) hJ h1.2.2.2.2.2 l1 e2
        refine hq_F.st (s' := (145, _, _, _)) hf22_142 rfl rfl rfl (hs_ifn (t := 156) (ci_eqn (by omega)) rfl) ?_
        refine hq_F.st (s' := (146, _, _, _)) hf22_145 rfl rfl rfl (hs_al g0) ?_
        refine hq_F.call hf22_146 rfl rfl si_3_59 (by decide) (by decide) sz_27 (sy_argsV hC2 sh_10 rfl rfl rfl (Nat.le_of_ble_eq_true rfl) rfl (Nat.le_of_ble_eq_true rfl) rfl (by decide)) (cl_deeds (d := d) (l := nt_c 3 NT) O2 j2.1.1 j2.1.2.1.2.1 c2 l1) (fun _ _ q => by rw [q.1.1, hC2.1]) ?_
        rintro r146 w3 ⟨hC3, F3, q⟩
        try dsimp only
        rcases q with ⟨rfl, σ3, e3, O3⟩ | ⟨rfl, k, p, e3, q3⟩
        · skip
          refine hq_F.st (s' := (152, _, _, _)) hf22_149 rfl rfl rfl (hs_ifn (t := 156) (ci_eqn (by omega)) rfl) ?_
          refine hq_F.st (s' := (153, _, _, _)) hf22_152 rfl rfl rfl rfl ?_
          refine hq_F.st (s' := (157, _, _, _)) hf22_153 rfl rfl rfl rfl ?_
          refine hq_F.en hf22_157 rfl rfl ?_
          exact ⟨hC3, (F1.cov (by decide)).tr (F2.tr F3), Or.inl ⟨rfl, σ3, by rw [ls_line_3 hk3]; show ls_b (ls_more tp B M (nt_c 3 NT) 6 (t, A, nr, NT)) _ = _; rw [eM]; rw [ls_br]; show ls_b (ls_head tp B M (tq_nx tp B M t, A, nr, NT)) _ = _; rw [e2]; rw [ls_br]; exact e3, O3⟩⟩
        · skip
          refine hq_F.st (s' := (156, _, _, _)) hf22_149 rfl rfl rfl (hs_if (ci_eq (by omega)) rfl) ?_
          refine hq_F.st (s' := (157, _, _, _)) hf22_156 rfl rfl rfl rfl ?_
          refine hq_F.en hf22_157 rfl rfl ?_
          exact ⟨hC3, (F1.cov (by decide)).tr (F2.tr F3), Or.inr ⟨rfl, k, p, by rw [ls_line_3 hk3]; show ls_b (ls_more tp B M (nt_c 3 NT) 6 (t, A, nr, NT)) _ = _; rw [eM]; rw [ls_br]; show ls_b (ls_head tp B M (tq_nx tp B M t, A, nr, NT)) _ = _; rw [e2]; rw [ls_br]; exact e3, q3⟩⟩
      · skip
        refine hq_F.st (s' := (156, _, _, _)) hf22_142 rfl rfl rfl (hs_if (ci_eq (by omega)) rfl) ?_
        refine hq_F.st (s' := (157, _, _, _)) hf22_156 rfl rfl rfl rfl ?_
        refine hq_F.en hf22_157 rfl rfl ?_
        exact ⟨hC2, (F1.cov (by decide)).tr F2, Or.inr ⟨rfl, k, p, by rw [ls_line_3 hk3]; show ls_b (ls_more tp B M (nt_c 3 NT) 6 (t, A, nr, NT)) _ = _; rw [eM]; rw [ls_br]; show ls_b (ls_head tp B M (tq_nx tp B M t, A, nr, NT)) _ = _; rw [e2]; rfl, q2⟩⟩
    · have eM : ls_more tp B M (nt_c 3 NT) 6 (t, A, nr, NT) = .inl (4, t.2.1) := if_neg l1
      refine hq_F.st (s' := (156, _, _, _)) hf22_135 rfl rfl rfl (hs_if (ci_eq (by omega)) rfl) ?_
      refine hq_F.st (s' := (157, _, _, _)) hf22_156 rfl rfl rfl rfl ?_
      refine hq_F.en hf22_157 rfl rfl ?_
      exact ⟨h1.1, F1.cov (by decide), Or.inr ⟨rfl, 4, t.2.1, by rw [ls_line_3 hk3]; show ls_b (ls_more tp B M (nt_c 3 NT) 6 (t, A, nr, NT)) _ = _; rw [eM]; rfl, q⟩⟩
  by_cases hk4 : ls_k t = 4
  · have h2t : 2 ≤ t.1 := by rw [ls_k2 (t := t) (by omega)]; omega
    refine hq_F.st (s' := (158, _, _, _)) hf22_7 rfl rfl rfl (ts_in (n := 4) (by omega) (by omega) rfl rfl) ?_
    refine hq_F.st (s' := (159, _, _, _)) hf22_158 rfl rfl rfl (hs_al g0) ?_
    refine hq_F.st (s' := (160, _, _, _)) hf22_159 rfl rfl rfl rfl ?_
    refine hq_F.st (s' := (162, _, _, _)) hf22_160 rfl rfl rfl rfl ?_
    rw [hi_3]
    refine hq_F.call hf22_162 rfl rfl si_3_45 (by decide) (by decide) sz_23 (sy_argsV h.1 sh_10 rfl rfl rfl (Nat.le_of_ble_eq_true rfl) rfl (Nat.le_of_ble_eq_true rfl) rfl (by decide)) (cl_tf (d := d + 1) (c := (nt_c 3 NT)) (m := 6) h h2t (by decide) (hL.2.1 3 (by omega)) (by decide)) (fun r w' q => by rcases q with ⟨_, _, q, _⟩ | ⟨_, _, q, _⟩; rw [q.1.1, h.1.1]; rw [q.1.1, h.1.1]) ?_
    rintro r162 w1 q
    try dsimp only
    rcases q with ⟨rfl, l1, h1, F1⟩ | ⟨rfl, l1, h1, F1, q⟩
    · have hL1 := hL.fr F1 (by decide) (by decide)
      have eM : ls_more tp B M (nt_c 3 NT) 6 (t, A, nr, NT) = .inr (tq_nx tp B M t, A, nr, NT) := if_pos l1
      refine hq_F.st (s' := (168, _, _, _)) hf22_165 rfl rfl rfl (hs_ifn (t := 186) (ci_eqn (by omega)) rfl) ?_
      refine hq_F.st (s' := (169, _, _, _)) hf22_168 rfl rfl rfl (hs_al g0) ?_
      refine hq_F.call hf22_169 rfl rfl si_3_56 (by decide) (by decide) sz_26 (sy_argsV h1.1 sh_10 rfl rfl rfl (Nat.le_of_ble_eq_true rfl) rfl (Nat.le_of_ble_eq_true rfl) rfl (by decide)) (cl_head (d := d) (σ := (tq_nx tp B M t, A, nr, NT)) ⟨h1, hL1⟩ hJ.1 l1) (fun _ _ q => by rw [q.1.1, h1.1.1]) ?_
      rintro r169 w2 ⟨hC2, F2, q⟩
      try dsimp only
      rcases q with ⟨rfl, σ2, e2, O2⟩ | ⟨rfl, k, p, e2, q2⟩
      · obtain ⟨j2, c2, _⟩ := ls_J_head (σ := (tq_nx tp B M t, A, nr, NT)) hJ h1.2.2.2.2.2 l1 e2
        refine hq_F.st (s' := (175, _, _, _)) hf22_172 rfl rfl rfl (hs_ifn (t := 186) (ci_eqn (by omega)) rfl) ?_
        refine hq_F.st (s' := (176, _, _, _)) hf22_175 rfl rfl rfl (hs_al g0) ?_
        refine hq_F.call hf22_176 rfl rfl si_3_62 (by decide) (by decide) sz_29 (sy_argsV hC2 sh_10 rfl rfl rfl (Nat.le_of_ble_eq_true rfl) rfl (Nat.le_of_ble_eq_true rfl) rfl (by decide)) (cl_rep (d := d + 1) (l := nt_c 3 NT) O2 j2.1.1 j2.1.2.1.2.2.1 c2) (fun _ _ q => by rw [q.1.1, hC2.1]) ?_
        rintro r176 w3 ⟨hC3, F3, q⟩
        try dsimp only
        rcases q with ⟨rfl, σ3, e3, O3⟩ | ⟨rfl, k, p, e3, q3⟩
        · skip
          refine hq_F.st (s' := (182, _, _, _)) hf22_179 rfl rfl rfl (hs_ifn (t := 186) (ci_eqn (by omega)) rfl) ?_
          refine hq_F.st (s' := (183, _, _, _)) hf22_182 rfl rfl rfl rfl ?_
          refine hq_F.st (s' := (187, _, _, _)) hf22_183 rfl rfl rfl rfl ?_
          refine hq_F.en hf22_187 rfl rfl ?_
          exact ⟨hC3, (F1.cov (by decide)).tr (F2.tr F3), Or.inl ⟨rfl, σ3, by rw [ls_line_4 hk4]; show ls_b (ls_more tp B M (nt_c 3 NT) 6 (t, A, nr, NT)) _ = _; rw [eM]; rw [ls_br]; show ls_b (ls_head tp B M (tq_nx tp B M t, A, nr, NT)) _ = _; rw [e2]; rw [ls_br]; exact e3, O3⟩⟩
        · skip
          refine hq_F.st (s' := (186, _, _, _)) hf22_179 rfl rfl rfl (hs_if (ci_eq (by omega)) rfl) ?_
          refine hq_F.st (s' := (187, _, _, _)) hf22_186 rfl rfl rfl rfl ?_
          refine hq_F.en hf22_187 rfl rfl ?_
          exact ⟨hC3, (F1.cov (by decide)).tr (F2.tr F3), Or.inr ⟨rfl, k, p, by rw [ls_line_4 hk4]; show ls_b (ls_more tp B M (nt_c 3 NT) 6 (t, A, nr, NT)) _ = _; rw [eM]; rw [ls_br]; show ls_b (ls_head tp B M (tq_nx tp B M t, A, nr, NT)) _ = _; rw [e2]; rw [ls_br]; exact e3, q3⟩⟩
      · skip
        refine hq_F.st (s' := (186, _, _, _)) hf22_172 rfl rfl rfl (hs_if (ci_eq (by omega)) rfl) ?_
        refine hq_F.st (s' := (187, _, _, _)) hf22_186 rfl rfl rfl rfl ?_
        refine hq_F.en hf22_187 rfl rfl ?_
        exact ⟨hC2, (F1.cov (by decide)).tr F2, Or.inr ⟨rfl, k, p, by rw [ls_line_4 hk4]; show ls_b (ls_more tp B M (nt_c 3 NT) 6 (t, A, nr, NT)) _ = _; rw [eM]; rw [ls_br]; show ls_b (ls_head tp B M (tq_nx tp B M t, A, nr, NT)) _ = _; rw [e2]; rfl, q2⟩⟩
    · have eM : ls_more tp B M (nt_c 3 NT) 6 (t, A, nr, NT) = .inl (4, t.2.1) := if_neg l1
      refine hq_F.st (s' := (186, _, _, _)) hf22_165 rfl rfl rfl (hs_if (ci_eq (by omega)) rfl) ?_
      refine hq_F.st (s' := (187, _, _, _)) hf22_186 rfl rfl rfl rfl ?_
      refine hq_F.en hf22_187 rfl rfl ?_
      exact ⟨h1.1, F1.cov (by decide), Or.inr ⟨rfl, 4, t.2.1, by rw [ls_line_4 hk4]; show ls_b (ls_more tp B M (nt_c 3 NT) 6 (t, A, nr, NT)) _ = _; rw [eM]; rfl, q⟩⟩
  by_cases hk5 : ls_k t = 5
  · have h2t : 2 ≤ t.1 := by rw [ls_k2 (t := t) (by omega)]; omega
    refine hq_F.st (s' := (188, _, _, _)) hf22_7 rfl rfl rfl (ts_in (n := 5) (by omega) (by omega) rfl rfl) ?_
    refine hq_F.st (s' := (189, _, _, _)) hf22_188 rfl rfl rfl (hs_al g0) ?_
    refine hq_F.st (s' := (190, _, _, _)) hf22_189 rfl rfl rfl rfl ?_
    refine hq_F.st (s' := (192, _, _, _)) hf22_190 rfl rfl rfl rfl ?_
    rw [hi_4]
    refine hq_F.call hf22_192 rfl rfl si_3_45 (by decide) (by decide) sz_23 (sy_argsV h.1 sh_10 rfl rfl rfl (Nat.le_of_ble_eq_true rfl) rfl (Nat.le_of_ble_eq_true rfl) rfl (by decide)) (cl_tf (d := d + 1) (c := (nt_c 4 NT)) (m := 6) h h2t (by decide) (hL.2.1 4 (by omega)) (by decide)) (fun r w' q => by rcases q with ⟨_, _, q, _⟩ | ⟨_, _, q, _⟩; rw [q.1.1, h.1.1]; rw [q.1.1, h.1.1]) ?_
    rintro r192 w1 q
    try dsimp only
    rcases q with ⟨rfl, l1, h1, F1⟩ | ⟨rfl, l1, h1, F1, q⟩
    · have hL1 := hL.fr F1 (by decide) (by decide)
      have eM : ls_more tp B M (nt_c 4 NT) 6 (t, A, nr, NT) = .inr (tq_nx tp B M t, A, nr, NT) := if_pos l1
      refine hq_F.st (s' := (198, _, _, _)) hf22_195 rfl rfl rfl (hs_ifn (t := 209) (ci_eqn (by omega)) rfl) ?_
      refine hq_F.st (s' := (199, _, _, _)) hf22_198 rfl rfl rfl (hs_al g0) ?_
      refine hq_F.call hf22_199 rfl rfl si_3_65 (by decide) (by decide) sz_30 (sy_argsV h1.1 sh_10 rfl rfl rfl (Nat.le_of_ble_eq_true rfl) rfl (Nat.le_of_ble_eq_true rfl) rfl (by decide)) (cl_man (d := d) (σ := (tq_nx tp B M t, A, nr, NT)) ⟨h1, hL1⟩ hJ.1 l1) (fun _ _ q => by rw [q.1.1, h1.1.1]) ?_
      rintro r199 w2 ⟨hC2, F2, q⟩
      try dsimp only
      rcases q with ⟨rfl, σ2, e2, O2⟩ | ⟨rfl, k, p, e2, q2⟩
      · skip
        refine hq_F.st (s' := (205, _, _, _)) hf22_202 rfl rfl rfl (hs_ifn (t := 209) (ci_eqn (by omega)) rfl) ?_
        refine hq_F.st (s' := (206, _, _, _)) hf22_205 rfl rfl rfl rfl ?_
        refine hq_F.st (s' := (210, _, _, _)) hf22_206 rfl rfl rfl rfl ?_
        refine hq_F.en hf22_210 rfl rfl ?_
        exact ⟨hC2, (F1.cov (by decide)).tr F2, Or.inl ⟨rfl, σ2, by rw [ls_line_5 hk5]; show ls_b (ls_more tp B M (nt_c 4 NT) 6 (t, A, nr, NT)) _ = _; rw [eM]; rw [ls_br]; exact e2, O2⟩⟩
      · skip
        refine hq_F.st (s' := (209, _, _, _)) hf22_202 rfl rfl rfl (hs_if (ci_eq (by omega)) rfl) ?_
        refine hq_F.st (s' := (210, _, _, _)) hf22_209 rfl rfl rfl rfl ?_
        refine hq_F.en hf22_210 rfl rfl ?_
        exact ⟨hC2, (F1.cov (by decide)).tr F2, Or.inr ⟨rfl, k, p, by rw [ls_line_5 hk5]; show ls_b (ls_more tp B M (nt_c 4 NT) 6 (t, A, nr, NT)) _ = _; rw [eM]; rw [ls_br]; exact e2, q2⟩⟩
    · have eM : ls_more tp B M (nt_c 4 NT) 6 (t, A, nr, NT) = .inl (4, t.2.1) := if_neg l1
      refine hq_F.st (s' := (209, _, _, _)) hf22_195 rfl rfl rfl (hs_if (ci_eq (by omega)) rfl) ?_
      refine hq_F.st (s' := (210, _, _, _)) hf22_209 rfl rfl rfl rfl ?_
      refine hq_F.en hf22_210 rfl rfl ?_
      exact ⟨h1.1, F1.cov (by decide), Or.inr ⟨rfl, 4, t.2.1, by rw [ls_line_5 hk5]; show ls_b (ls_more tp B M (nt_c 4 NT) 6 (t, A, nr, NT)) _ = _; rw [eM]; rfl, q⟩⟩
  by_cases hk6 : ls_k t = 6
  · have h2t : 2 ≤ t.1 := by rw [ls_k2 (t := t) (by omega)]; omega
    refine hq_F.st (s' := (211, _, _, _)) hf22_7 rfl rfl rfl (ts_in (n := 6) (by omega) (by omega) rfl rfl) ?_
    refine hq_F.st (s' := (212, _, _, _)) hf22_211 rfl rfl rfl (hs_al g0) ?_
    refine hq_F.st (s' := (215, _, _, _)) hf22_212 rfl rfl rfl (hq_gf h.1 sh_10 sk_3_9 (hq_ref h.1 sh_10 (b := 1) rfl)) ?_
    refine hq_F.call hf22_215 rfl rfl si_3_68 (by decide) (by decide) sz_98 (sy_argsV h.1 sh_1 rfl rfl rfl (Nat.le_of_ble_eq_true rfl) rfl (Nat.le_of_ble_eq_true rfl) rfl (by decide)) (ct_adv (d := d + 2) h (by omega)) (fun _ _ q => by rw [q.2.1.1.1, h.1.1]) ?_
    rintro r215 w1 ⟨rfl, h1, F1⟩
    try dsimp only
    have hL1 := hL.fr F1 (by decide) (by decide)
    refine hq_F.st (s' := (219, _, _, _)) hf22_218 rfl rfl rfl (hs_al g0) ?_
    refine hq_F.call hf22_219 rfl rfl si_3_71 (by decide) (by decide) sz_31 (sy_argsV h1.1 sh_10 rfl rfl rfl (Nat.le_of_ble_eq_true rfl) rfl (Nat.le_of_ble_eq_true rfl) rfl (by decide)) (cl_round (d := d) (σ := (t, A, nr, NT)) ⟨h1, hL1⟩ hJ.1 hJ.2) (fun _ _ q => by rw [q.1.1, h1.1.1]) ?_
    rintro r219 w2 ⟨hC2, F2, q⟩
    try dsimp only
    rcases q with ⟨rfl, σ2, e2, O2⟩ | ⟨rfl, k, p, e2, q2⟩
    · skip
      refine hq_F.en hf22_222 rfl rfl ?_
      exact ⟨hC2, (F1.cov (by decide)).tr F2, Or.inl ⟨rfl, σ2, by rw [ls_line_6 hk6]; exact e2, O2⟩⟩
    · skip
      refine hq_F.en hf22_222 rfl rfl ?_
      exact ⟨hC2, (F1.cov (by decide)).tr F2, Or.inr ⟨rfl, k, p, by rw [ls_line_6 hk6]; exact e2, q2⟩⟩
  by_cases hk7 : ls_k t = 7
  · have h2t : 2 ≤ t.1 := by rw [ls_k2 (t := t) (by omega)]; omega
    refine hq_F.st (s' := (223, _, _, _)) hf22_7 rfl rfl rfl (ts_in (n := 7) (by omega) (by omega) rfl rfl) ?_
    refine hq_F.st (s' := (224, _, _, _)) hf22_223 rfl rfl rfl (hs_al g0) ?_
    refine hq_F.st (s' := (227, _, _, _)) hf22_224 rfl rfl rfl (hq_gf h.1 sh_10 sk_3_9 (hq_ref h.1 sh_10 (b := 1) rfl)) ?_
    refine hq_F.call hf22_227 rfl rfl si_3_68 (by decide) (by decide) sz_98 (sy_argsV h.1 sh_1 rfl rfl rfl (Nat.le_of_ble_eq_true rfl) rfl (Nat.le_of_ble_eq_true rfl) rfl (by decide)) (ct_adv (d := d + 2) h (by omega)) (fun _ _ q => by rw [q.2.1.1.1, h.1.1]) ?_
    rintro r227 w1 ⟨rfl, h1, F1⟩
    try dsimp only
    have hL1 := hL.fr F1 (by decide) (by decide)
    refine hq_F.st (s' := (231, _, _, _)) hf22_230 rfl rfl rfl (hs_al g0) ?_
    refine hq_F.call hf22_231 rfl rfl si_3_74 (by decide) (by decide) sz_33 (sy_argsV h1.1 sh_10 rfl rfl rfl (Nat.le_of_ble_eq_true rfl) rfl (Nat.le_of_ble_eq_true rfl) rfl (by decide)) (cl_clerk (d := d + 1) (σ := (t, A, nr, NT)) ⟨h1, hL1⟩ hJ.1) (fun _ _ q => by rw [q.1.1, h1.1.1]) ?_
    rintro r231 w2 ⟨hC2, F2, q⟩
    try dsimp only
    rcases q with ⟨rfl, σ2, e2, O2⟩ | ⟨rfl, k, p, e2, q2⟩
    · skip
      refine hq_F.en hf22_234 rfl rfl ?_
      exact ⟨hC2, (F1.cov (by decide)).tr F2, Or.inl ⟨rfl, σ2, by rw [ls_line_7 hk7]; exact e2, O2⟩⟩
    · skip
      refine hq_F.en hf22_234 rfl rfl ?_
      exact ⟨hC2, (F1.cov (by decide)).tr F2, Or.inr ⟨rfl, k, p, by rw [ls_line_7 hk7]; exact e2, q2⟩⟩
  by_cases hk8 : ls_k t = 8
  · have h2t : 2 ≤ t.1 := by rw [ls_k2 (t := t) (by omega)]; omega
    refine hq_F.st (s' := (235, _, _, _)) hf22_7 rfl rfl rfl (ts_in (n := 8) (by omega) (by omega) rfl rfl) ?_
    refine hq_F.st (s' := (236, _, _, _)) hf22_235 rfl rfl rfl (hs_al g0) ?_
    refine hq_F.st (s' := (239, _, _, _)) hf22_236 rfl rfl rfl (hq_gf h.1 sh_10 sk_3_9 (hq_ref h.1 sh_10 (b := 1) rfl)) ?_
    refine hq_F.call hf22_239 rfl rfl si_3_68 (by decide) (by decide) sz_98 (sy_argsV h.1 sh_1 rfl rfl rfl (Nat.le_of_ble_eq_true rfl) rfl (Nat.le_of_ble_eq_true rfl) rfl (by decide)) (ct_adv (d := d + 2) h (by omega)) (fun _ _ q => by rw [q.2.1.1.1, h.1.1]) ?_
    rintro r239 w1 ⟨rfl, h1, F1⟩
    try dsimp only
    have hL1 := hL.fr F1 (by decide) (by decide)
    refine hq_F.st (s' := (243, _, _, _)) hf22_242 rfl rfl rfl (hs_al g0) ?_
    refine hq_F.call hf22_243 rfl rfl si_3_77 (by decide) (by decide) sz_34 (sy_argsV h1.1 sh_10 rfl rfl rfl (Nat.le_of_ble_eq_true rfl) rfl (Nat.le_of_ble_eq_true rfl) rfl (by decide)) (cl_post (d := d) (σ := (t, A, nr, NT)) ⟨h1, hL1⟩ hJ.1) (fun _ _ q => by rw [q.1.1, h1.1.1]) ?_
    rintro r243 w2 ⟨hC2, F2, q⟩
    try dsimp only
    rcases q with ⟨rfl, σ2, e2, O2⟩ | ⟨rfl, k, p, e2, q2⟩
    · skip
      refine hq_F.en hf22_246 rfl rfl ?_
      exact ⟨hC2, (F1.cov (by decide)).tr F2, Or.inl ⟨rfl, σ2, by rw [ls_line_8 hk8]; exact e2, O2⟩⟩
    · skip
      refine hq_F.en hf22_246 rfl rfl ?_
      exact ⟨hC2, (F1.cov (by decide)).tr F2, Or.inr ⟨rfl, k, p, by rw [ls_line_8 hk8]; exact e2, q2⟩⟩
  refine hq_F.st (s' := (247, _, _, _)) hf22_7 rfl rfl rfl (ts_out (by omega) rfl) ?_
  refine hq_F.st (s' := (248, _, _, _)) hf22_247 rfl rfl rfl (hs_al g0) ?_
  refine hq_F.st (s' := (251, _, _, _)) hf22_248 rfl rfl rfl (hq_gf h.1 sh_10 sk_3_9 (hq_ref h.1 sh_10 (b := 1) rfl)) ?_
  refine hq_F.st (s' := (252, _, _, _)) hf22_251 rfl rfl rfl rfl ?_
  refine hq_F.call hf22_252 rfl rfl si_3_80 (by decide) (by decide) sz_103 (sy_argsV h.1 sh_1 rfl rfl rfl (Nat.le_of_ble_eq_true rfl) rfl (Nat.le_of_ble_eq_true rfl) rfl (by decide)) (ct_ref h ((Int32.ofInt 1))) (fun _ _ q => by rw [q.2.1.1.1, h.1.1]) ?_
  rintro r252 w9 ⟨rfl, k1, k2, k3, k4⟩
  try dsimp only
  refine hq_F.en hf22_255 rfl rfl ?_
  exact ⟨k1.1, k2.cov (by decide), Or.inr ⟨rfl, 1, t.2.1, ls_line_9 (σ := (t, A, nr, NT)) (show ls_k t < 0 ∨ 8 < ls_k t by omega), by rw [k3]; decide, k4⟩⟩
theorem sg_z8 : ∀ k, k < 170 → (match af_seg sf_8 k with | some q => decide (q.1 ≤ 0 ∧ 0 ≤ q.2) | none => true) = true := by decide +kernel
theorem sg_z {k : Nat} (hk : k < 170) : ∀ q, af_seg sf_8 k = some q → q.1 ≤ (Int32.ofInt 0).toInt ∧ (Int32.ofInt 0).toInt ≤ q.2 := fun q hq => by
  have := sg_z8 k hk
  rw [hq] at this
  exact of_decide_eq_true this
theorem cl_clr {d : Nat} : ∀ (m i : Nat) {w : pi_W} {lv : pi_L}, i + m = 170 → af_Conf aw_Sh w → (∀ j, j < i → gv w 8 j = 0) → pi_get lv 0 = some (.ref 7) → pi_get lv 1 = some (.int (Int32.ofNat i)) → hq_F d sm10 (fun r w' => r = none ∧ af_Conf aw_Sh w' ∧ af_Fr [(8, 0, 170)] w w' ∧ ∀ j, j < 170 → gv w' 8 j = 0) (2, lv, [], w) := by
  intro m
  induction m with
  | zero =>
    intro i w lv hi hC hz g0 g1
    have ti : (Int32.ofNat i).toInt = (i : Int) := hn_t (by omega)
    have kc0 : ((Int32.ofNat 170)).toInt = 170 := by decide
    have kz := sy_z0
    refine hq_F.st (s' := (3, _, _, _)) hf10_2 rfl rfl rfl (hs_iln g1) ?_
    refine hq_F.st (s' := (4, _, _, _)) hf10_3 rfl rfl rfl (hs_al g0) ?_
    refine hq_F.st (s' := (7, _, _, _)) hf10_4 rfl rfl rfl (hq_gf hC sh_7 sk_2_11 (hq_ref hC sh_7 (b := 8) rfl)) ?_
    refine hq_F.st (s' := (8, _, _, _)) hf10_7 rfl rfl rfl (sy_len hC sh_8) ?_
    refine hq_F.st (s' := (24, _, _, _)) hf10_8 rfl rfl rfl (hs_ic (ci_ge (by omega)) rfl) ?_
    refine hq_F.en hf10_24 rfl rfl ?_
    exact ⟨rfl, hC, af_Fr.rf _ _, fun j hj => hz j (by omega)⟩
  | succ m ih =>
    intro i w lv hi hC hz g0 g1
    have ti : (Int32.ofNat i).toInt = (i : Int) := hn_t (by omega)
    have kc0 : ((0 : Int32)).toInt = 0 := by decide
    have kc1 : ((1 : Int32)).toInt = 1 := by decide
    have kc2 : ((Int32.ofInt 0)).toInt = 0 := by decide
    have kc3 : ((Int32.ofNat 170)).toInt = 170 := by decide
    have kz := sy_z0
    refine hq_F.st (s' := (3, _, _, _)) hf10_2 rfl rfl rfl (hs_iln g1) ?_
    refine hq_F.st (s' := (4, _, _, _)) hf10_3 rfl rfl rfl (hs_al g0) ?_
    refine hq_F.st (s' := (7, _, _, _)) hf10_4 rfl rfl rfl (hq_gf hC sh_7 sk_2_11 (hq_ref hC sh_7 (b := 8) rfl)) ?_
    refine hq_F.st (s' := (8, _, _, _)) hf10_7 rfl rfl rfl (sy_len hC sh_8) ?_
    refine hq_F.st (s' := (11, _, _, _)) hf10_8 rfl rfl rfl (hs_icn (t := 24) (ci_gen (by omega)) rfl) ?_
    refine hq_F.st (s' := (12, _, _, _)) hf10_11 rfl rfl rfl (hs_al g0) ?_
    refine hq_F.st (s' := (15, _, _, _)) hf10_12 rfl rfl rfl (hq_gf hC sh_7 sk_2_11 (hq_ref hC sh_7 (b := 8) rfl)) ?_
    refine hq_F.st (s' := (16, _, _, _)) hf10_15 rfl rfl rfl (hs_iln g1) ?_
    refine hq_F.st (s' := (17, _, _, _)) hf10_16 rfl rfl rfl rfl ?_
    refine sy_isv hf10_17 hC sh_8 (n := i) ti (by omega) (sg_z (by omega)) (fun w1 hC1 hw1 => ?_)
    refine hq_F.st (s' := (21, _, _, _)) hf10_18 rfl rfl rfl (hs_inc g1 (by decide)) ?_
    refine hq_F.st (s' := (2, _, _, _)) hf10_21 rfl rfl rfl rfl ?_
    refine (ih (i + 1) (by omega) hC1 (fun j hj => ?_) (hg_nr g0 (by decide)) (by rw [← hn_s]; exact (pi_get_set _ _ _))).imp (fun r w9 q => ⟨q.1, q.2.1, (hq_fr1 hw1 (by omega)).tr q.2.2.1, q.2.2.2⟩)
    · rw [wpv hw1]
      by_cases e : j = i
      · rw [if_pos ⟨rfl, e⟩]
        rfl
      · rw [if_neg (fun q => e q.2)]
        exact hz j (by omega)
theorem cl_clear {d : Nat} {w : pi_W} (hC : af_Conf aw_Sh w) : hq_F d sm10 (fun r w' => r = none ∧ af_Conf aw_Sh w' ∧ af_Fr [(8, 0, 170)] w w' ∧ ∀ j, j < 170 → gv w' 8 j = 0) (0, lv_args 0 [.ref 7], [], w) := by
  have g0 : pi_get (lv_args 0 [.ref 7]) 0 = some (.ref 7) := rfl
  refine hq_F.st (s' := (1, _, _, _)) hf10_0 rfl rfl rfl rfl ?_
  refine hq_F.st (s' := (2, _, _, _)) hf10_1 rfl rfl rfl rfl ?_
  exact cl_clr 170 0 (by omega) hC (fun j hj => by omega) (hg_nr g0 (by decide)) (pi_get_set _ _ _)
theorem cl_beg {d B M : Nat} {tp : Nat → Nat} {w : pi_W} {x : Int32} (hC : af_Conf aw_Sh w) (hP : tc_P tp B w) (hV : tq_V w) (hM : x.toInt = (M : Int)) : hq_F (d + 3) sm97 (fun r w' => r = none ∧ CT tp B M w' (tq_tok tp B M 0) ∧ af_Fr [(1, 3, 12)] w w') (0, lv_args 0 [.ref 1, .int x], [], w) := by
  have g0 : pi_get (lv_args 0 [.ref 1, .int x]) 0 = some (.ref 1) := rfl
  have g1 : pi_get (lv_args 0 [.ref 1, .int x]) 1 = some (.int x) := rfl
  have kc0 : ((Int32.ofInt 0)).toInt = 0 := by decide
  have kz := sy_z0
  refine hq_F.st (s' := (1, _, _, _)) hf97_0 rfl rfl rfl (hs_al g0) ?_
  refine hq_F.st (s' := (2, _, _, _)) hf97_1 rfl rfl rfl (hs_iln g1) ?_
  refine sy_pf hf97_2 hC sh_1 sk_9_37 (lo := -2147483648) (hi := 2147483647) rfl (af_i32 _) rfl rfl rfl (fun w1 hC1 hw1 => ?_)
  refine hq_F.st (s' := (6, _, _, _)) hf97_5 rfl rfl rfl (hs_al g0) ?_
  refine hq_F.st (s' := (7, _, _, _)) hf97_6 rfl rfl rfl rfl ?_
  refine sy_pf hf97_7 hC1 sh_1 sk_9_40 (lo := -2147483648) (hi := 2147483647) rfl (af_i32 _) rfl rfl rfl (fun w2 hC2 hw2 => ?_)
  refine hq_F.st (s' := (11, _, _, _)) hf97_10 rfl rfl rfl (hs_al g0) ?_
  refine hq_F.st (s' := (12, _, _, _)) hf97_11 rfl rfl rfl rfl ?_
  refine sy_pf hf97_12 hC2 sh_1 sk_9_43 (lo := -2147483648) (hi := 2147483647) rfl (af_i32 _) rfl rfl rfl (fun w3 hC3 hw3 => ?_)
  refine hq_F.st (s' := (16, _, _, _)) hf97_15 rfl rfl rfl (hs_al g0) ?_
  refine hq_F.st (s' := (17, _, _, _)) hf97_16 rfl rfl rfl rfl ?_
  refine sy_pf hf97_17 hC3 sh_1 sk_9_46 (lo := -2147483648) (hi := 2147483647) rfl (af_i32 _) rfl rfl rfl (fun w4 hC4 hw4 => ?_)
  refine hq_F.st (s' := (21, _, _, _)) hf97_20 rfl rfl rfl (hs_al g0) ?_
  have F4 : af_Fr [(1, 3, 5), (1, 10, 12)] w w4 := (((wpF hw1).cov (by decide)).tr (((wpF hw2).cov (by decide)).tr (((wpF hw3).cov (by decide)).tr ((wpF hw4).cov (by decide)))))
  have hP4 := hP.fr F4 (by decide) (by decide)
  have hM4 : (gv w4 1 3).toInt = (M : Int) := by rw [wpv hw4, if_neg (by decide), wpv hw3, if_neg (by decide), wpv hw2, if_neg (by decide), wpv hw1, if_pos ⟨rfl, rfl⟩]; exact hM
  have hp4 : (gv w4 1 4).toInt = ((0 : Nat) : Int) := by rw [wpv hw4, if_neg (by decide), wpv hw3, if_neg (by decide), wpv hw2, if_pos ⟨rfl, rfl⟩]; decide
  refine hq_F.call hf97_21 rfl rfl si_9_49 (by decide) (by decide) sz_98 (sy_argsV hC4 sh_1 rfl rfl rfl (Nat.le_of_ble_eq_true rfl) rfl (Nat.le_of_ble_eq_true rfl) rfl (by decide)) (tc_98 (d := d) hC4 hP4 hM4 (i := 0) hp4 (by omega)) (fun _ _ q => by rw [q.2.1.1, hC4.1]) ?_
  rintro r21 w5 ⟨rfl, c5, F5, a5⟩
  try dsimp only
  refine hq_F.en hf97_24 rfl rfl ?_
  exact ⟨rfl, ⟨c5, hP4.fr F5 (by decide) (by decide), by rw [gv_eq (F5 1 3 (by decide))]; exact hM4, fun k hk => by rw [gl_eq (hq_cell F5 (by decide)), gl_eq (hq_cell F4 (by decide))]; exact hV k hk, tc_ok (fun k hk => by rw [gl_eq (hq_cell F4 (by decide))]; exact hV k hk) a5, tq_tok_W (Nat.zero_le _)⟩, (F4.cov (by decide)).tr (F5.cov (by decide))⟩
/-- all LINES: at most f of them -/
def ls_lines (tp : Nat → Nat) (B M : Nat) : Nat → Nat → ls_S → (Int × Nat) ⊕ (Nat × ls_S)
  | 0, i, σ => .inr (i, σ)
  | f + 1, i, σ => if σ.1.1 = 0 then .inr (i, σ) else ls_b (ls_line tp B M σ) (fun σ1 => if ls_sc σ1.1 = true then ls_lines tp B M f (i + 1) (tq_nx tp B M σ1.1, σ1.2) else .inl (1, σ1.1.2.1))
/-- what readLines of the class does -/
def cl_PL (tp : Nat → Nat) (B M : Nat) (F : (Int × Nat) ⊕ (Nat × ls_S)) (w : pi_W) (r : Option Value) (w' : pi_W) : Prop := af_Conf aw_Sh w' ∧ af_Fr cl_N w w' ∧ ((∃ i σ, F = .inr (i, σ) ∧ r = some (.int (Int32.ofNat i)) ∧ i ≤ 940 ∧ CO tp B M w' σ) ∨ (r = some (.int (-1)) ∧ ∃ k p, F = .inl (k, p) ∧ FC w' k p) ∨ ∃ σ, F = .inr (941, σ) ∧ r = some (.int (-1)))
theorem cl_lnl {d B M : Nat} {tp : Nat → Nat} : ∀ (f i : Nat) {w : pi_W} {σ : ls_S} {lv : pi_L}, i + f = 941 → CO tp B M w σ → ls_J σ → pi_get lv 0 = some (.ref 10) → pi_get lv 1 = some (.int (Int32.ofNat i)) → hq_F (d + 6) sm21 (cl_PL tp B M (ls_lines tp B M f i σ) w) (19, lv, [], w) := by
  intro f
  induction f with
  | zero =>
    intro i w σ lv hi hO hJ g0 g1
    have ti : (Int32.ofNat i).toInt = (i : Int) := hn_t (by omega)
    have kc0 : (((Int16.ofInt 940).toInt32)).toInt = 940 := by decide
    have kc1 : ((Int32.ofInt (-1))).toInt = (-1) := by decide
    have kz := sy_z0
    refine hq_F.st (s' := (20, _, _, _)) hf21_19 rfl rfl rfl (hs_iln g1) ?_
    refine hq_F.st (s' := (23, _, _, _)) hf21_20 rfl rfl rfl rfl ?_
    refine hq_F.st (s' := (65, _, _, _)) hf21_23 rfl rfl rfl (hs_ic (ci_gt (by omega)) rfl) ?_
    refine hq_F.st (s' := (66, _, _, _)) hf21_65 rfl rfl rfl rfl ?_
    refine hq_F.en hf21_66 rfl rfl ?_
    exact ⟨hO.1.1, af_Fr.rf _ _, Or.inr (Or.inr ⟨σ, by rw [show i = 941 by omega]; rfl, rfl⟩)⟩
  | succ f ih =>
    intro i w σ lv hi hO hJ g0 g1
    have ti : (Int32.ofNat i).toInt = (i : Int) := hn_t (by omega)
    have kc0 : (((Int16.ofInt 940).toInt32)).toInt = 940 := by decide
    have kc1 : (((Int8.ofInt 59).toInt32)).toInt = 59 := by decide
    have kc2 : ((0 : Int32)).toInt = 0 := by decide
    have kc3 : ((1 : Int32)).toInt = 1 := by decide
    have kc4 : ((Int32.ofInt (-1))).toInt = (-1) := by decide
    have kz := sy_z0
    refine hq_F.st (s' := (20, _, _, _)) hf21_19 rfl rfl rfl (hs_iln g1) ?_
    refine hq_F.st (s' := (23, _, _, _)) hf21_20 rfl rfl rfl rfl ?_
    refine hq_F.st (s' := (26, _, _, _)) hf21_23 rfl rfl rfl (hs_icn (t := 65) (ci_gtn (by omega)) rfl) ?_
    refine hq_F.st (s' := (27, _, _, _)) hf21_26 rfl rfl rfl (hs_al g0) ?_
    refine hq_F.st (s' := (30, _, _, _)) hf21_27 rfl rfl rfl (hq_gf hO.1.1 sh_10 sk_3_9 (hq_ref hO.1.1 sh_10 (b := 1) rfl)) ?_
    refine hq_F.st (s' := (33, _, _, _)) hf21_30 rfl rfl rfl (hq_gf hO.1.1 sh_1 sk_3_30 (sy_v hO.1.1 (by decide) rfl)) ?_
    have h5 := hO.1.2.2.2.2.1.1
    by_cases b33 : ¬ ((gv w 1 5)).toInt = 0
    · skip
      refine hq_F.st (s' := (38, _, _, _)) hf21_33 rfl rfl rfl (hs_if (ci_ne (by omega)) rfl) ?_
      have hz : ¬ σ.1.1 = 0 := by omega
      refine hq_F.st (s' := (39, _, _, _)) hf21_38 rfl rfl rfl (hs_al g0) ?_
      refine hq_F.call hf21_39 rfl rfl si_3_34 (by decide) (by decide) sz_22 (sy_argsV hO.1.1 sh_10 rfl rfl rfl (Nat.le_of_ble_eq_true rfl) rfl (Nat.le_of_ble_eq_true rfl) rfl (by decide)) (cl_line (d := d) hO hJ) (fun _ _ q => by rw [q.1.1, hO.1.1.1]) ?_
      rintro r39 w1 ⟨hC1, F1, q⟩
      try dsimp only
      rcases q with ⟨rfl, σ1, e1, O1⟩ | ⟨rfl, k, p, e1, q1⟩
      · have j1 := ls_J_line hJ hO.1.2.2.2.2.2 e1
        refine hq_F.st (s' := (45, _, _, _)) hf21_42 rfl rfl rfl (hs_ifn (t := 57) (ci_eqn (by omega)) rfl) ?_
        refine hq_F.st (s' := (46, _, _, _)) hf21_45 rfl rfl rfl (hs_al g0) ?_
        refine hq_F.st (s' := (49, _, _, _)) hf21_46 rfl rfl rfl (hq_gf hC1 sh_10 sk_3_9 (hq_ref hC1 sh_10 (b := 1) rfl)) ?_
        refine hq_F.st (s' := (51, _, _, _)) hf21_49 rfl rfl rfl rfl ?_
        refine hq_F.call hf21_51 rfl rfl si_3_38 (by decide) (by decide) sz_105 (sy_argsV hC1 sh_1 rfl rfl rfl (Nat.le_of_ble_eq_true rfl) rfl (Nat.le_of_ble_eq_true rfl) rfl (by decide)) (ct_tkS (d := d + 2) (c := 59) O1.1 (by decide)) (fun r w' q => by rcases q with ⟨_, _, q, _⟩ | ⟨_, _, q, _⟩; rw [q.1.1, hC1.1]; rw [q.1.1, hC1.1]) ?_
        rintro r51 w2 q
        try dsimp only
        rcases q with ⟨rfl, s2, h2, F2⟩ | ⟨rfl, s2, h2, F2, q2⟩
        · skip
          refine hq_F.st (s' := (59, _, _, _)) hf21_54 rfl rfl rfl (hs_if (ci_ne (by omega)) rfl) ?_
          refine hq_F.st (s' := (62, _, _, _)) hf21_59 rfl rfl rfl (hs_inc g1 (by decide)) ?_
          refine hq_F.st (s' := (19, _, _, _)) hf21_62 rfl rfl rfl rfl ?_
          rw [show ls_lines tp B M (f + 1) i σ = ls_lines tp B M f (i + 1) (tq_nx tp B M σ1.1, σ1.2) from by rw [ls_lines, if_neg hz, e1, ls_br]; exact if_pos (decide_eq_true s2)]
          exact (ih (i + 1) (σ := (tq_nx tp B M σ1.1, σ1.2)) (by omega) ⟨h2, O1.2.fr F2 (by decide) (by decide)⟩ j1 (hg_nr g0 (by decide)) (by rw [← hn_s]; exact (pi_get_set _ _ _))).imp (fun r w9 q => ⟨q.1, (F1.tr (F2.cov (by decide))).tr q.2.1, q.2.2⟩)
        · skip
          refine hq_F.st (s' := (57, _, _, _)) hf21_54 rfl rfl rfl (hs_ifn (t := 59) (ci_nen (by omega)) rfl) ?_
          refine hq_F.st (s' := (58, _, _, _)) hf21_57 rfl rfl rfl rfl ?_
          refine hq_F.en hf21_58 rfl rfl ?_
          exact ⟨h2.1, F1.tr (F2.cov (by decide)), Or.inr (Or.inl ⟨rfl, 1, σ1.1.2.1, by rw [ls_lines, if_neg hz, e1, ls_br]; exact if_neg (fun q => s2 (of_decide_eq_true q)), q2⟩)⟩
      · skip
        refine hq_F.st (s' := (57, _, _, _)) hf21_42 rfl rfl rfl (hs_if (ci_eq (by omega)) rfl) ?_
        refine hq_F.st (s' := (58, _, _, _)) hf21_57 rfl rfl rfl rfl ?_
        refine hq_F.en hf21_58 rfl rfl ?_
        exact ⟨hC1, F1, Or.inr (Or.inl ⟨rfl, k, p, by rw [ls_lines, if_neg hz, e1, ls_bl], q1⟩)⟩
    · skip
      refine hq_F.st (s' := (36, _, _, _)) hf21_33 rfl rfl rfl (hs_ifn (t := 38) (ci_nen (by omega)) rfl) ?_
      have hz : σ.1.1 = 0 := by omega
      refine hq_F.st (s' := (37, _, _, _)) hf21_36 rfl rfl rfl (hs_iln g1) ?_
      refine hq_F.en hf21_37 rfl (pi_ri _) ?_
      exact ⟨hO.1.1, af_Fr.rf _ _, Or.inl ⟨i, σ, by rw [ls_lines, if_pos hz], rfl, by omega, hO⟩⟩
def ld_0 : ld_A := fun _ _ => 0
theorem ls_J0 {t : tq_T} : ls_J (t, ld_0, 0, []) := ⟨⟨nt_ok0, ⟨Nat.zero_le _, Nat.zero_le _, Nat.zero_le _, Nat.zero_le _⟩, Nat.zero_le _, fun _ _ => rfl, fun _ _ => rfl⟩, fun _ => by show (0 : Int) ≤ (0 : Int32).toInt; decide⟩
theorem CL.zero {w : pi_W} (h : ∀ j, j < 170 → gv w 8 j = 0) : CL w 8 9 ld_0 0 [] := by
  have z : (0 : Int32).toInt = 0 := by decide
  refine ⟨⟨by rw [h 5 (by decide), z]; rfl, Nat.zero_le _, fun i e he => by simp at he⟩, fun s hs => by rw [h s (by omega), z]; rfl, by rw [h 1 (by decide), z]; rfl, ?_⟩
  intro c k h1 h2 h3 h4
  have hr := ld_cr c h1 k (Nat.lt_of_lt_of_le h2 (ld_n48 c)) h2
  rw [h _ (by omega)]
  by_cases e : c = 4 ∨ c = 7
  · rcases e with e | e
    · exact absurd (h3 e) (Nat.not_lt_zero _)
    · exact absurd (h4 e) (Nat.not_lt_zero _)
  · unfold ld_v
    rw [if_neg e]
    rfl
def cl_PL2 (tp : Nat → Nat) (B M : Nat) (F : (Int × Nat) ⊕ (Nat × ls_S)) (w : pi_W) (r : Option Value) (w' : pi_W) : Prop := af_Conf aw_Sh w' ∧ af_Fr [(1, 3, 12), (8, 0, 170), (9, 0, 27)] w w' ∧ ((∃ i σ, F = .inr (i, σ) ∧ r = some (.int (Int32.ofNat i)) ∧ i ≤ 940 ∧ CO tp B M w' σ) ∨ (r = some (.int (-1)) ∧ ∃ k p, F = .inl (k, p) ∧ FC w' k p) ∨ ∃ σ, F = .inr (941, σ) ∧ r = some (.int (-1)))
theorem cl_lines {d B : Nat} {tp : Nat → Nat} {w : pi_W} (hC : af_Conf aw_Sh w) (hP : tc_P tp B w) (hV : tq_V w) : hq_F (d + 6) sm21 (cl_PL2 tp B 900 (ls_lines tp B 900 941 0 (tq_tok tp B 900 0, ld_0, 0, [])) w) (0, lv_args 0 [.ref 10], [], w) := by
  have g0 : pi_get (lv_args 0 [.ref 10]) 0 = some (.ref 10) := rfl
  have kc0 : (((Int16.ofInt 900).toInt32)).toInt = 900 := by decide
  have kc1 : ((Int32.ofInt 0)).toInt = 0 := by decide
  have kz := sy_z0
  refine hq_F.st (s' := (1, _, _, _)) hf21_0 rfl rfl rfl (hs_al g0) ?_
  refine hq_F.st (s' := (4, _, _, _)) hf21_1 rfl rfl rfl (hq_gf hC sh_10 sk_3_15 (hq_ref hC sh_10 (b := 7) rfl)) ?_
  refine hq_F.call hf21_4 rfl rfl si_3_19 (by decide) (by decide) sz_10 (sy_argsV hC sh_7 rfl rfl rfl (Nat.le_of_ble_eq_true rfl) rfl (Nat.le_of_ble_eq_true rfl) rfl (by decide)) (cl_clear hC) (fun _ _ q => by rw [q.2.1.1, hC.1]) ?_
  rintro r4 w1 ⟨rfl, hC1, F1, z1⟩
  try dsimp only
  refine hq_F.st (s' := (8, _, _, _)) hf21_7 rfl rfl rfl (hs_al g0) ?_
  refine hq_F.st (s' := (11, _, _, _)) hf21_8 rfl rfl rfl (hq_gf hC1 sh_10 sk_3_9 (hq_ref hC1 sh_10 (b := 1) rfl)) ?_
  refine hq_F.st (s' := (14, _, _, _)) hf21_11 rfl rfl rfl rfl ?_
  refine hq_F.call hf21_14 rfl rfl si_3_24 (by decide) (by decide) sz_97 (sy_argsV hC1 sh_1 rfl rfl rfl (Nat.le_of_ble_eq_true rfl) rfl (Nat.le_of_ble_eq_true rfl) rfl (by decide)) (cl_beg (d := d + 2) (M := 900) hC1 (hP.fr F1 (by decide) (by decide)) (fun k hk => by rw [gl_eq (hq_cell F1 (by decide))]; exact hV k hk) (by decide)) (fun _ _ q => by rw [q.2.1.1.1, hC1.1]) ?_
  rintro r14 w2 ⟨rfl, h2, F2⟩
  try dsimp only
  refine hq_F.st (s' := (18, _, _, _)) hf21_17 rfl rfl rfl rfl ?_
  refine hq_F.st (s' := (19, _, _, _)) hf21_18 rfl rfl rfl rfl ?_
  exact (cl_lnl (d := d) 941 0 (by omega) ⟨h2, (CL.zero z1).fr F2 (by decide) (by decide)⟩ ls_J0 (hg_nr g0 (by decide)) (pi_get_set _ _ _)).imp (fun r w9 q => ⟨q.1, (F1.cov (by decide)).tr ((F2.cov (by decide)).tr (q.2.1.cov (by decide))), q.2.2⟩)
