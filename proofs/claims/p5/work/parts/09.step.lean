section PIT
variable {p : Program} {l : Launch} {e : Env} {R : Room} {s : State} {m : MethodId} {args : Array Value} {below : List Frame} {meth : Method} {c : Code} {Q : State → Prop} {D : va_G} {cA : Nat → ClassId} {sa sv : Nat} {A : Nat → Prop} {y : MethodName} {cc : ByteArray} {mi : pi_M} {ad : Nat → Nat} {cu su : Nat}
set_option maxHeartbeats 4000000 in
theorem ps_step (C : pi_Cx p s m args meth c y cc mi D cA sa sv A) (hsa : ad pi_str = sa) {i : Instr} {len : Nat} {σ σ' : pi_S} (h : pi_step mi.1 mi.2.2.2.1 mi.2.1 i len σ = some σ') (hd : decode cc σ.1 = .ok (i, len)) :
    σ'.2.2.2.length = σ.2.2.2.length ∧ (pi_Wat p l e R s m args below meth c Q D cA A mi.2.1 ad σ' cu su → pi_Wat p l e R s m args below meth c Q D cA A mi.2.1 ad σ cu su) := by
  obtain ⟨pc, lv, st, w⟩ := σ
  dsimp only at hd
  cases i
  case iconst n =>
    simp only [pi_step] at h
    split at h
    · rename_i hlen; subst hlen
      cases h; exact ⟨rfl, ps_iconst C hd⟩
    · cases h
  case bipush n =>
    simp only [pi_step] at h
    split at h
    · rename_i hlen; subst hlen
      cases h; exact ⟨rfl, ps_bipush C hd⟩
    · cases h
  case sipush n =>
    simp only [pi_step] at h
    split at h
    · rename_i hlen; subst hlen
      cases h; exact ⟨rfl, ps_sipush C hd⟩
    · cases h
  case lconst n =>
    simp only [pi_step] at h
    split at h
    · rename_i hlen; subst hlen
      cases h; exact ⟨rfl, ps_lconst C hd⟩
    · cases h
  case iadd =>
    simp only [pi_step] at h
    split at h
    · rename_i hlen; subst hlen
      split at h
      · cases h; exact ⟨rfl, ps_iadd C hd⟩
      · cases h
    · cases h
  case isub =>
    simp only [pi_step] at h
    split at h
    · rename_i hlen; subst hlen
      split at h
      · cases h; exact ⟨rfl, ps_isub C hd⟩
      · cases h
    · cases h
  case imul =>
    simp only [pi_step] at h
    split at h
    · rename_i hlen; subst hlen
      split at h
      · cases h; exact ⟨rfl, ps_imul C hd⟩
      · cases h
    · cases h
  case iand =>
    simp only [pi_step] at h
    split at h
    · rename_i hlen; subst hlen
      split at h
      · cases h; exact ⟨rfl, ps_iand C hd⟩
      · cases h
    · cases h
  case ior =>
    simp only [pi_step] at h
    split at h
    · rename_i hlen; subst hlen
      split at h
      · cases h; exact ⟨rfl, ps_ior C hd⟩
      · cases h
    · cases h
  case ixor =>
    simp only [pi_step] at h
    split at h
    · rename_i hlen; subst hlen
      split at h
      · cases h; exact ⟨rfl, ps_ixor C hd⟩
      · cases h
    · cases h
  case ishl =>
    simp only [pi_step] at h
    split at h
    · rename_i hlen; subst hlen
      split at h
      · cases h; exact ⟨rfl, ps_ishl C hd⟩
      · cases h
    · cases h
  case ishr =>
    simp only [pi_step] at h
    split at h
    · rename_i hlen; subst hlen
      split at h
      · cases h; exact ⟨rfl, ps_ishr C hd⟩
      · cases h
    · cases h
  case iushr =>
    simp only [pi_step] at h
    split at h
    · rename_i hlen; subst hlen
      split at h
      · cases h; exact ⟨rfl, ps_iushr C hd⟩
      · cases h
    · cases h
  case ladd =>
    simp only [pi_step] at h
    split at h
    · rename_i hlen; subst hlen
      split at h
      · cases h; exact ⟨rfl, ps_ladd C hd⟩
      · cases h
    · cases h
  case lmul =>
    simp only [pi_step] at h
    split at h
    · rename_i hlen; subst hlen
      split at h
      · cases h; exact ⟨rfl, ps_lmul C hd⟩
      · cases h
    · cases h
  case lor =>
    simp only [pi_step] at h
    split at h
    · rename_i hlen; subst hlen
      split at h
      · cases h; exact ⟨rfl, ps_lor C hd⟩
      · cases h
    · cases h
  case lshl =>
    simp only [pi_step] at h
    split at h
    · rename_i hlen; subst hlen
      split at h
      · cases h; exact ⟨rfl, ps_lshl C hd⟩
      · cases h
    · cases h
  case lcmp =>
    simp only [pi_step] at h
    split at h
    · rename_i hlen; subst hlen
      split at h
      · cases h; exact ⟨rfl, ps_lcmp C hd⟩
      · cases h
    · cases h
  case i2b =>
    simp only [pi_step] at h
    split at h
    · rename_i hlen; subst hlen
      split at h
      · cases h; exact ⟨rfl, ps_i2b C hd⟩
      · cases h
    · cases h
  case i2l =>
    simp only [pi_step] at h
    split at h
    · rename_i hlen; subst hlen
      split at h
      · cases h; exact ⟨rfl, ps_i2l C hd⟩
      · cases h
    · cases h
  case irem =>
    simp only [pi_step] at h
    split at h
    · rename_i hlen; subst hlen
      split at h
      · split at h
        · cases h
        · rename_i hy
          cases h; exact ⟨rfl, ps_irem C hd hy⟩
      · cases h
    · cases h
  case ldc n =>
    simp only [pi_step] at h
    split at h
    · rename_i hlen; subst hlen
      split at h
      · rename_i hq
        cases h; exact ⟨rfl, ps_ldc C hq hd⟩
      · split at h
        · rename_i ho
          obtain ⟨h1, rfl⟩ := ho
          cases h; exact ⟨rfl, ps_ldcS C hsa h1 hd⟩
        · cases h
    · cases h
  case ldc_w n =>
    simp only [pi_step] at h
    split at h
    · rename_i hlen; subst hlen
      split at h
      · rename_i hq
        cases h; exact ⟨rfl, ps_ldc_w C hq hd⟩
      · cases h
    · cases h
  case ldc2_w n =>
    simp only [pi_step] at h
    split at h
    · rename_i hlen; subst hlen
      split at h
      · rename_i hq
        cases h; exact ⟨rfl, ps_ldc2 C hq hd⟩
      · cases h
    · cases h
  case iload n =>
    simp only [pi_step] at h
    split at h
    · rename_i hlen; subst hlen
      split at h
      · rename_i hq
        cases h; exact ⟨rfl, ps_iload C hq hd⟩
      · cases h
    · cases h
  case iload_n n =>
    simp only [pi_step] at h
    split at h
    · rename_i hlen; subst hlen
      split at h
      · rename_i hq
        cases h; exact ⟨rfl, ps_iload_n C hq hd⟩
      · cases h
    · cases h
  case lload_n n =>
    simp only [pi_step] at h
    split at h
    · rename_i hlen; subst hlen
      split at h
      · rename_i hq
        cases h; exact ⟨rfl, ps_lload_n C hq hd⟩
      · cases h
    · cases h
  case aload_n n =>
    simp only [pi_step] at h
    split at h
    · rename_i hlen; subst hlen
      split at h
      · rename_i hq
        cases h; exact ⟨rfl, ps_aload_n C hq hd⟩
      · cases h
    · cases h
  case istore n =>
    simp only [pi_step] at h
    split at h
    · rename_i hlen; obtain ⟨rfl, hn⟩ := hlen
      split at h
      · cases h; exact ⟨rfl, ps_istore C hn hd⟩
      · cases h
    · cases h
  case istore_n n =>
    simp only [pi_step] at h
    split at h
    · rename_i hlen; obtain ⟨rfl, hn⟩ := hlen
      split at h
      · cases h; exact ⟨rfl, ps_istore_n C hn hd⟩
      · cases h
    · cases h
  case iinc n j =>
    simp only [pi_step] at h
    split at h
    · rename_i hlen; obtain ⟨rfl, hn⟩ := hlen
      split at h
      · rename_i hq
        cases h; exact ⟨rfl, ps_iinc C hq hn hd⟩
      · cases h
    · cases h
  case dup =>
    simp only [pi_step] at h
    split at h
    · rename_i hlen; subst hlen
      split at h
      · split at h
        · rename_i hv
          cases h; exact ⟨rfl, ps_dup C hv hd⟩
        · cases h
      · cases h
    · cases h
  case pop =>
    simp only [pi_step] at h
    split at h
    · rename_i hlen; subst hlen
      split at h
      · split at h
        · rename_i hv
          cases h; exact ⟨rfl, ps_pop C hv hd⟩
        · cases h
      · cases h
    · cases h
  case dup2 =>
    simp only [pi_step] at h
    split at h
    · rename_i hlen; subst hlen
      split at h
      · split at h
        · rename_i hv
          cases h; exact ⟨rfl, ps_dup2 C hv.1 hv.2 hd⟩
        · cases h
      · cases h
    · cases h
  case ifCond cd off =>
    simp only [pi_step] at h
    split at h
    · rename_i hlen; subst hlen
      split at h
      · split at h
        · cases h
        · rename_i t ht
          split at h
          · rename_i hc
            cases h; exact ⟨rfl, ps_if1 C ht hc hd⟩
          · rename_i hc
            cases h; exact ⟨rfl, ps_if0 C hc hd ⟨t, pi_tgt_of ht⟩⟩
      · cases h
    · cases h
  case if_icmp cd off =>
    simp only [pi_step] at h
    split at h
    · rename_i hlen; subst hlen
      split at h
      · split at h
        · cases h
        · rename_i t ht
          split at h
          · rename_i hc
            cases h; exact ⟨rfl, ps_ic1 C ht hc hd⟩
          · rename_i hc
            cases h; exact ⟨rfl, ps_ic0 C hc hd ⟨t, pi_tgt_of ht⟩⟩
      · cases h
    · cases h
  case goto off =>
    simp only [pi_step] at h
    split at h
    · rename_i hlen; subst hlen
      obtain ⟨t, ht, rfl⟩ := pi_jump_of h
      exact ⟨rfl, ps_goto C ht hd⟩
    · cases h
  case tableswitch dflt lo hi offs =>
    simp only [pi_step] at h
    split at h
    · split at h
      · rename_i hx
        obtain ⟨t, ht, rfl⟩ := pi_jump_of h
        exact ⟨rfl, ps_tabOut C hx ht hd⟩
      · rename_i hx
        split at h
        · rename_i ho
          obtain ⟨t, ht, rfl⟩ := pi_jump_of h
          exact ⟨rfl, ps_tabIn C hx ho ht hd⟩
        · cases h
    · cases h
  case lookupswitch dflt ps =>
    simp only [pi_step] at h
    split at h
    · split at h
      · rename_i hp
        obtain ⟨t, ht, rfl⟩ := pi_jump_of h
        exact ⟨rfl, ps_lookup C hp ht hd⟩
      · cases h
    · cases h
  case iaload =>
    simp only [pi_step] at h
    split at h
    · rename_i hlen; subst hlen
      split at h
      · split at h
        · rename_i hw
          split at h
          · cases h
          · rename_i hin
            cases h; exact ⟨rfl, ps_iald C hw hin hd⟩
        · cases h
      · cases h
    · cases h
  case baload =>
    simp only [pi_step] at h
    split at h
    · rename_i hlen; subst hlen
      split at h
      · split at h
        · rename_i hw
          split at h
          · cases h
          · rename_i hin
            cases h; exact ⟨rfl, ps_bald C hw hin hd⟩
        · rename_i hw
          split at h
          · cases h
          · rename_i hin
            cases h; exact ⟨rfl, ps_zald C hw hin hd⟩
        · cases h
      · cases h
    · cases h
  case laload =>
    simp only [pi_step] at h
    split at h
    · rename_i hlen; subst hlen
      split at h
      · split at h
        · rename_i hw
          split at h
          · cases h
          · rename_i hin
            cases h; exact ⟨rfl, ps_lald C hw hin hd⟩
        · cases h
      · cases h
    · cases h
  case iastore =>
    simp only [pi_step] at h
    split at h
    · rename_i hlen; subst hlen
      split at h
      · split at h
        · rename_i hw
          split at h
          · cases h
          · rename_i hin
            cases h; exact ⟨List.length_set, ps_iast C hw hin hd⟩
        · cases h
      · cases h
    · cases h
  case bastore =>
    simp only [pi_step] at h
    split at h
    · rename_i hlen; subst hlen
      split at h
      · split at h
        · rename_i hw
          split at h
          · cases h
          · rename_i hin
            cases h; exact ⟨List.length_set, ps_bast C hw hin hd⟩
        · rename_i hw
          split at h
          · cases h
          · rename_i hin
            cases h; exact ⟨List.length_set, ps_zast C hw hin hd⟩
        · cases h
      · cases h
    · cases h
  case lastore =>
    simp only [pi_step] at h
    split at h
    · rename_i hlen; subst hlen
      split at h
      · split at h
        · rename_i hw
          split at h
          · cases h
          · rename_i hin
            cases h; exact ⟨List.length_set, ps_last C hw hin hd⟩
        · cases h
      · cases h
    · cases h
  case arraylength =>
    simp only [pi_step] at h
    split at h
    · rename_i hlen; subst hlen
      split at h
      · split at h
        · rename_i hw
          split at h
          · rename_i ht
            cases h; exact ⟨rfl, ps_alen C hw ht hd⟩
          · cases h
        · cases h
      · cases h
    · cases h
  case getfield cp =>
    simp only [pi_step] at h
    split at h
    · rename_i hlen; subst hlen
      split at h
      · split at h
        · rename_i hq
          split at h
          · rename_i hw
            split at h
            · rename_i hc; subst hc
              split at h
              · rename_i hv
                cases h; exact ⟨rfl, ps_getf C hq hw hv hd⟩
              · cases h
            · cases h
          · cases h
        · cases h
      · cases h
    · cases h
  case putfield cp =>
    simp only [pi_step] at h
    split at h
    · rename_i hlen; subst hlen
      split at h
      · split at h
        · rename_i hq
          split at h
          · rename_i hw
            split at h
            · rename_i hc; obtain ⟨rfl, hj, hn, hf, hi⟩ := hc
              cases h; exact ⟨List.length_set, ps_putf C hq hw hj hn hf hi hd⟩
            · cases h
          · cases h
        · cases h
      · cases h
    · cases h
  all_goals (exact absurd h (by simp [pi_step]))
end PIT
