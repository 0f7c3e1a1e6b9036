/-! ===== the law's loop; by program ===== -/
def lw_G (p : Program) (s : State) (m : MethodId) (c : Code) (meth : Method) (D : va_G) (cA : Nat → ClassId) (sa sv : Nat) (ad : Nat → Nat) (b N oq : Nat) (xs : Nat → Int32) : Prop := lw_Cx p s m #[Value.ref b] c D cA sa sv (fun q => s.heap.size ≤ q) ∧ ad pi_str = sa ∧ va_X b N xs s s.heap ∧ b < s.heap.size ∧ N ≤ 3072 ∧ (∀ k, k < 79 → ad k ≠ oq) ∧ meth.sig.returnType = ret ∧ meth.locks = false
def lw_H (s : State) (D : va_G) (cA : Nat → ClassId) (ad : Nat → Nat) (oq : Nat) (w : pi_W) (H : Heap) (locs : List Loc) : Prop := lw_I w ∧ va_P D vwCl (pi_rW cA ad w) H ∧ va_D (fun q => s.heap.size ≤ q) (pi_rW cA ad w) ∧ va_S (fun q => s.heap.size ≤ q) s.heap H locs ∧ oq < H.size ∧ s.heap.size ≤ oq ∧ ∃ f : Nat → Int64, H[oq]? = some (vp_cell (cA 2) (1, .inr (.inl f)))
def lw_L (ad : Nat → Nat) (b oq i : Nat) : List (Nat × Value) := [(0, .ref b), (1, .ref (ad 0)), (2, .ref (ad 61)), (3, .ref oq), (4, .int (Int32.ofNat i))]
section LP
variable {p : Program} {l : Launch} {e : Env} {s : State} {m : MethodId} {below : List Frame} {meth : Method} {c : Code} {Q : State → Prop} {D : va_G} {cA : Nat → ClassId} {sa sv : Nat} {ad : Nat → Nat} {b N oq : Nat} {xs : Nat → Int32} {cu su : Nat} {H : Heap} {locs : List Loc} {ls : Array Slot} {w : pi_W} {i : Nat}
theorem lw_oq {w w' : pi_W} {H H1 : Heap} {locs1 : List Loc} (hG : lw_G p s m c meth D cA sa sv ad b N oq xs) (hH : lw_H s D cA ad oq w H locs) (hI : lw_I w') (hP : va_P D vwCl (pi_rW cA ad w') H1) (hD : va_D (fun q => s.heap.size ≤ q) (pi_rW cA ad w')) (hS : va_S (fun q => s.heap.size ≤ q) s.heap H1 locs1) (hz : H.size ≤ H1.size) (hk : ∀ q : Nat, q < H.size → ¬ va_A (pi_rW cA ad w) H.size q → H1[q]? = H[q]?) : lw_H s D cA ad oq w' H1 locs1 := by
  obtain ⟨h1, -, -, -, h5, h6, f, h7⟩ := hH
  refine ⟨hI, hP, hD, hS, Nat.lt_of_lt_of_le h5 hz, h6, f, ?_⟩
  rw [hk oq h5, h7]
  rintro (⟨k, e, h⟩ | h)
  · rw [pi_rW_get] at h
    cases hw : w[k]? with
    | none =>
      rw [hw] at h
      cases h
    | some e' =>
      rw [hw] at h
      have h2 : ad k = oq := congrArg Prod.fst (Option.some.inj h)
      have hlt : k < 79 := by
        have h3 := (List.getElem?_eq_some_iff.mp hw).1
        have h4 := h1.1.1
        have h5 : aw_Sh.length = 79 := by decide
        omega
      exact hG.2.2.2.2.2.1 k hlt h2
  · omega
theorem lw_push {j : Nat} {jj : Int} {pc : Nat} {st : List Value} (hG : lw_G p s m c meth D cA sa sv ad b N oq xs) (hS : va_S (fun q => s.heap.size ≤ q) s.heap H locs) (hl : lv_has ls 7 (lw_L ad b oq i)) (hj : i + j < N) (ej : Int32.ofInt jj = Int32.ofNat j) (d0 : decode code pc = .ok (.aload_n 0, 1)) (d1 : decode code (pc + 1) = .ok (.iload 4, 2)) (d2 : decode code (pc + 1 + 2) = .ok (.iconst jj, 1)) (d3 : decode code (pc + 1 + 2 + 1) = .ok (.iadd, 1)) (d4 : decode code (pc + 1 + 2 + 1 + 1) = .ok (.iaload, 1)) (k : W p l e room_1 s m #[Value.ref b] below meth c H locs cu su Q (F0 m (pc + 1 + 2 + 1 + 1 + 1) ls (.int (xs (i + j)) :: st))) : W p l e room_1 s m #[Value.ref b] below meth c H locs cu su Q (F0 m pc ls st) := by
  obtain ⟨⟨hx, hb, hml, hown, hts, hK, hA⟩, hsa, hX, hbl, hN, -⟩ := hG
  have hbA : ¬ (fun q : Nat => s.heap.size ≤ q) b := Nat.not_le.mpr hbl
  refine lv_aload_n hx hb d0 rfl (lv_at hl 0 rfl) ?_
  refine lv_iload hx hb d1 (lv_at hl 4 rfl) ?_
  refine lv_iconst hx hb d2 ej ?_
  refine lv_iadd hx hb d3 ?_
  have ei : Int32.ofNat i + Int32.ofNat j = Int32.ofNat (i + j) := (Int32.ofNat_add i j).symm
  have et : (Int32.ofNat (i + j)).toInt = ((i + j : Nat) : Int) := Int32.toInt_ofNat_of_lt (by omega)
  have ec := af_cl (x := Int32.ofNat (i + j)) (by rw [et]; omega)
  have en : (Int32.ofNat (i + j)).toNatClampNeg = i + j := by
    have := ec.2
    rw [et] at this
    omega
  rw [ei]
  refine va_sld hx hb hX hbl hbA hS (i := Int32.ofNat (i + j)) (by
    rintro (q | q)
    · exact ec.1 q
    · rw [en] at q
      omega) d4 ?_
  rw [en]
  exact k
end LP
