/-! ===== the pure interpreter's steps are the machine's ===== -/
def pi_rv (ad : Nat → Nat) (v : Value) : Value := match v with
  | .ref a => .ref (ad a)
  | v => v
theorem pi_rv_cat (ad : Nat → Nat) (v : Value) : (pi_rv ad v).category = v.category := by cases v <;> rfl
def pi_rL (ad : Nat → Nat) (lv : pi_L) : List (Nat × Value) := lv.map (fun q => (q.1, pi_rv ad q.2))
def pi_rE (cA : Nat → ClassId) (ad : Nat → Nat) (e : pi_E) : va_E := match e with
  | .inl (t, a) => .inl (cA t, a)
  | .inr (c, fs) => .inr (c, fs.map (pi_rv ad))
def pi_rW (cA : Nat → ClassId) (ad : Nat → Nat) (w : pi_W) : va_W := w.mapIdx (fun k e => (ad k, pi_rE cA ad e))
theorem pi_rW_get (cA : Nat → ClassId) (ad : Nat → Nat) (w : pi_W) (k : Nat) : (pi_rW cA ad w)[k]? = (w[k]?).map (fun e => (ad k, pi_rE cA ad e)) := by simp [pi_rW, List.getElem?_mapIdx]
theorem pi_rW_len (cA : Nat → ClassId) (ad : Nat → Nat) (w : pi_W) : (pi_rW cA ad w).length = w.length := by simp [pi_rW]
theorem pi_rW_set (cA : Nat → ClassId) (ad : Nat → Nat) (w : pi_W) (k : Nat) (e : pi_E) : pi_rW cA ad (w.set k e) = (pi_rW cA ad w).set k (ad k, pi_rE cA ad e) := by
  apply List.ext_getElem?
  intro j
  rw [pi_rW_get, List.getElem?_set, List.getElem?_set, pi_rW_get, pi_rW_len]
  by_cases h : k = j
  · subst h
    by_cases h2 : k < w.length <;> simp [h2]
  · simp [h]
theorem pi_rL_set (ad : Nat → Nat) (lv : pi_L) (i : Nat) (v : Value) : (i, pi_rv ad v) :: (pi_rL ad lv).filter (fun q => !(q.1 == i) && !(q.1 + 1 == i && q.2.category == 2)) = pi_rL ad (pi_set lv i v) := by
  simp only [pi_set, pi_rL, List.map_cons, List.filter_map]
  congr 2
  refine List.filter_congr fun q _ => ?_
  simp [pi_rv_cat]
theorem pi_get_mem {lv : pi_L} {i : Nat} {v : Value} (h : pi_get lv i = some v) : (i, v) ∈ lv := by
  unfold pi_get at h
  cases hf : lv.find? (fun q => q.1 == i) with
  | none => rw [hf] at h; cases h
  | some q =>
    rw [hf] at h
    cases h
    have h1 := List.find?_some hf
    have h2 := List.mem_of_find?_eq_some hf
    have h3 : q.1 = i := by simpa using h1
    rw [← h3]
    exact h2
theorem pi_rL_mem {ad : Nat → Nat} {lv : pi_L} {i : Nat} {v : Value} (h : pi_get lv i = some v) : (i, pi_rv ad v) ∈ pi_rL ad lv := List.mem_map.mpr ⟨(i, v), pi_get_mem h, rfl⟩
theorem pi_rL_at {ad : Nat → Nat} {lv : pi_L} {i nL : Nat} {v : Value} {ls : Array Slot} (hl : lv_has ls nL (pi_rL ad lv)) (h : pi_get lv i = some v) : ls[i]? = some (.val (pi_rv ad v)) := hl.2.2 _ (pi_rL_mem h)
theorem pi_look_mem {α : Type} {T : List (List (Nat × α))} {own cp : Nat} {a : α} (h : pi_look T own cp = some a) : ∃ t, T[own]? = some t ∧ (cp, a) ∈ t := by
  unfold pi_look at h
  cases ht : T[own]? with
  | none => rw [ht] at h; cases h
  | some t =>
    rw [ht] at h
    refine ⟨t, rfl, ?_⟩
    dsimp only at h
    cases hf : t.find? (fun q => q.1 == cp) with
    | none => rw [hf] at h; cases h
    | some q =>
      rw [hf] at h
      cases h
      have h1 := List.find?_some hf
      have h2 := List.mem_of_find?_eq_some hf
      have h3 : q.1 = cp := by simpa using h1
      rw [← h3]
      exact h2
def pi_tys (cA : Nat → ClassId) : List (ClassId × FieldType) := [(cA 0, .int), (cA 1, .byte), (cA 2, .long), (cA 3, .boolean)]
def pi_text : String := "place road deed law repeal man round clerk post goes does wears bares fevers posts rains day or and not blind free bound may in sight words did number"
/-- what is known of the tables and the String constant at a state -/
def pi_K (D : va_G) (cA : Nat → ClassId) (sa sv : Nat) (A : Nat → Prop) (U : State) : Prop := va_K D vwCl (pi_tys cA) U ∧ (∀ w ∈ pi_nest, va_Nw w U) ∧ vk_R "ReadBound$Tokens" 19 pi_text sa U ∧ vk_S 1 [pi_bytes.length] [pi_bytes] (fun _ => sa) (fun _ => sv) A U U.heap ∧ va_Z "java/lang/String" "COMPACT_STRINGS" "Z" (.int 1) A U U.heap ∧ va_Zq "jdk/internal/util/Preconditions" "SIOOBE_FORMATTER" "Ljava/util/function/BiFunction;" A U U.heap
def pi_Cx (p : Program) (s : State) (m : MethodId) (args : Array Value) (meth : Method) (c : Code) (y : MethodName) (cc : ByteArray) (mi : pi_M) (D : va_G) (cA : Nat → ClassId) (sa sv : Nat) (A : Nat → Prop) : Prop :=
  p.tables.exec = Jvm.exec ∧ c.code = cc ∧ s.vm.findClass y.cls = some m.cls ∧ (∀ w ∈ pi_good, w.before args s = true) ∧ pi_K D cA sa sv A s ∧ c.maxLocals = mi.2.1 ∧ meth.sig.returnType = mi.2.2.1 ∧ meth.locks = false ∧ meth.name = y.name ∧ (mi.2.2.2.1 = true → y.name = "<init>") ∧ pi_cn[mi.1]? = some y.cls ∧ ∀ q, s.heap.size ≤ q → A q
def pi_Wat (p : Program) (l : Launch) (e : Env) (R : Room) (s : State) (m : MethodId) (args : Array Value) (below : List Frame) (meth : Method) (c : Code) (Q : State → Prop) (D : va_G) (cA : Nat → ClassId) (A : Nat → Prop) (nL : Nat) (ad : Nat → Nat) (σ : pi_S) (cu su : Nat) : Prop :=
  ∀ (H : Heap) (locs : List Loc) (ls : Array Slot), va_P D vwCl (pi_rW cA ad σ.2.2.2) H → va_D A (pi_rW cA ad σ.2.2.2) → va_S A s.heap H locs → lv_has ls nL (pi_rL ad σ.2.1) → W p l e R s m args below meth c H locs cu su Q (F0 m σ.1 ls (σ.2.2.1.map (pi_rv ad)))
theorem pi_lays_good {C : String} {T : u_T} {N : Nat} {w : Cond} (h : w ∈ u_ws C T N) : goodWord w = true := by
  obtain ⟨k, -, rfl⟩ := List.mem_map.mp h
  unfold u_lay
  split <;> rfl
theorem pi_nar {ad : Nat → Nat} {ty : FieldType} {v : Value} (h : narrow ty v = v) : narrow ty (pi_rv ad v) = pi_rv ad v := by
  cases v <;> first | exact h | (cases ty <;> rfl)
theorem pi_fit {ad : Nat → Nat} {ty : FieldType} {v : Value} (h : fits ty v = true) : fits ty (pi_rv ad v) = true := by
  cases v <;> first | exact h | (cases ty <;> first | rfl | exact h)
theorem pi_tgt_of {pc t : Nat} {off : Int} (h : pi_tgt pc off = some t) : (pc : Int) + off = (t : Int) := by
  unfold pi_tgt at h
  split at h
  · rename_i h0
    have h1 := Option.some.inj h
    rw [← h1]
    omega
  · cases h
theorem pi_jump_of {t : Option Nat} {lv : pi_L} {st : List Value} {w : pi_W} {σ : pi_S} (h : pi_jump t lv st w = some σ) : ∃ t', t = some t' ∧ σ = (t', lv, st, w) := by
  cases t with
  | none => cases h
  | some t => cases h; exact ⟨t, rfl, rfl⟩
section PIW
variable {p : Program} {l : Launch} {e : Env} {R : Room} {s : State} {m : MethodId} {args : Array Value} {below : List Frame} {meth : Method} {c : Code} {Q : State → Prop} {D : va_G} {cA : Nat → ClassId} {sa sv : Nat} {A : Nat → Prop} {y : MethodName} {cc : ByteArray} {mi : pi_M} {ad : Nat → Nat} {cu su : Nat}
theorem ps_iadd (C : pi_Cx p s m args meth c y cc mi D cA sa sv A) {pc : Nat} {lv : pi_L} {r : List Value} {w : pi_W} {x y : Int32} (hd : decode cc pc = .ok (.iadd, 1)) (k : pi_Wat p l e R s m args below meth c Q D cA A mi.2.1 ad (pc + 1, lv, .int (x + y) :: r, w) cu su) : pi_Wat p l e R s m args below meth c Q D cA A mi.2.1 ad (pc, lv, .int y :: .int x :: r, w) cu su := by
  intro H locs ls hP hD hS hl
  exact lv_iadd C.1 C.2.1 hd (k H locs ls hP hD hS hl)
theorem ps_isub (C : pi_Cx p s m args meth c y cc mi D cA sa sv A) {pc : Nat} {lv : pi_L} {r : List Value} {w : pi_W} {x y : Int32} (hd : decode cc pc = .ok (.isub, 1)) (k : pi_Wat p l e R s m args below meth c Q D cA A mi.2.1 ad (pc + 1, lv, .int (x - y) :: r, w) cu su) : pi_Wat p l e R s m args below meth c Q D cA A mi.2.1 ad (pc, lv, .int y :: .int x :: r, w) cu su := by
  intro H locs ls hP hD hS hl
  exact lv_isub C.1 C.2.1 hd (k H locs ls hP hD hS hl)
theorem ps_imul (C : pi_Cx p s m args meth c y cc mi D cA sa sv A) {pc : Nat} {lv : pi_L} {r : List Value} {w : pi_W} {x y : Int32} (hd : decode cc pc = .ok (.imul, 1)) (k : pi_Wat p l e R s m args below meth c Q D cA A mi.2.1 ad (pc + 1, lv, .int (x * y) :: r, w) cu su) : pi_Wat p l e R s m args below meth c Q D cA A mi.2.1 ad (pc, lv, .int y :: .int x :: r, w) cu su := by
  intro H locs ls hP hD hS hl
  exact lv_imul C.1 C.2.1 hd (k H locs ls hP hD hS hl)
theorem ps_iand (C : pi_Cx p s m args meth c y cc mi D cA sa sv A) {pc : Nat} {lv : pi_L} {r : List Value} {w : pi_W} {x y : Int32} (hd : decode cc pc = .ok (.iand, 1)) (k : pi_Wat p l e R s m args below meth c Q D cA A mi.2.1 ad (pc + 1, lv, .int (x &&& y) :: r, w) cu su) : pi_Wat p l e R s m args below meth c Q D cA A mi.2.1 ad (pc, lv, .int y :: .int x :: r, w) cu su := by
  intro H locs ls hP hD hS hl
  exact lv_iand C.1 C.2.1 hd (k H locs ls hP hD hS hl)
theorem ps_ior (C : pi_Cx p s m args meth c y cc mi D cA sa sv A) {pc : Nat} {lv : pi_L} {r : List Value} {w : pi_W} {x y : Int32} (hd : decode cc pc = .ok (.ior, 1)) (k : pi_Wat p l e R s m args below meth c Q D cA A mi.2.1 ad (pc + 1, lv, .int (x ||| y) :: r, w) cu su) : pi_Wat p l e R s m args below meth c Q D cA A mi.2.1 ad (pc, lv, .int y :: .int x :: r, w) cu su := by
  intro H locs ls hP hD hS hl
  exact lv_ior C.1 C.2.1 hd (k H locs ls hP hD hS hl)
theorem ps_ixor (C : pi_Cx p s m args meth c y cc mi D cA sa sv A) {pc : Nat} {lv : pi_L} {r : List Value} {w : pi_W} {x y : Int32} (hd : decode cc pc = .ok (.ixor, 1)) (k : pi_Wat p l e R s m args below meth c Q D cA A mi.2.1 ad (pc + 1, lv, .int (x ^^^ y) :: r, w) cu su) : pi_Wat p l e R s m args below meth c Q D cA A mi.2.1 ad (pc, lv, .int y :: .int x :: r, w) cu su := by
  intro H locs ls hP hD hS hl
  exact lv_ixor C.1 C.2.1 hd (k H locs ls hP hD hS hl)
theorem ps_ishl (C : pi_Cx p s m args meth c y cc mi D cA sa sv A) {pc : Nat} {lv : pi_L} {r : List Value} {w : pi_W} {x y : Int32} (hd : decode cc pc = .ok (.ishl, 1)) (k : pi_Wat p l e R s m args below meth c Q D cA A mi.2.1 ad (pc + 1, lv, .int (x <<< (y &&& 31)) :: r, w) cu su) : pi_Wat p l e R s m args below meth c Q D cA A mi.2.1 ad (pc, lv, .int y :: .int x :: r, w) cu su := by
  intro H locs ls hP hD hS hl
  exact lv_ishl C.1 C.2.1 hd (k H locs ls hP hD hS hl)
theorem ps_ishr (C : pi_Cx p s m args meth c y cc mi D cA sa sv A) {pc : Nat} {lv : pi_L} {r : List Value} {w : pi_W} {x y : Int32} (hd : decode cc pc = .ok (.ishr, 1)) (k : pi_Wat p l e R s m args below meth c Q D cA A mi.2.1 ad (pc + 1, lv, .int (x >>> (y &&& 31)) :: r, w) cu su) : pi_Wat p l e R s m args below meth c Q D cA A mi.2.1 ad (pc, lv, .int y :: .int x :: r, w) cu su := by
  intro H locs ls hP hD hS hl
  exact lv_ishr C.1 C.2.1 hd (k H locs ls hP hD hS hl)
theorem ps_iushr (C : pi_Cx p s m args meth c y cc mi D cA sa sv A) {pc : Nat} {lv : pi_L} {r : List Value} {w : pi_W} {x y : Int32} (hd : decode cc pc = .ok (.iushr, 1)) (k : pi_Wat p l e R s m args below meth c Q D cA A mi.2.1 ad (pc + 1, lv, .int (x.toUInt32 >>> (y.toUInt32 &&& Int32.toUInt32 31)).toInt32 :: r, w) cu su) : pi_Wat p l e R s m args below meth c Q D cA A mi.2.1 ad (pc, lv, .int y :: .int x :: r, w) cu su := by
  intro H locs ls hP hD hS hl
  exact lv_iushr C.1 C.2.1 hd rfl (k H locs ls hP hD hS hl)
theorem ps_irem (C : pi_Cx p s m args meth c y cc mi D cA sa sv A) {pc : Nat} {lv : pi_L} {r : List Value} {w : pi_W} {x y : Int32} (hd : decode cc pc = .ok (.irem, 1)) (hy : ¬ y = 0) (k : pi_Wat p l e R s m args below meth c Q D cA A mi.2.1 ad (pc + 1, lv, .int (x - x / y * y) :: r, w) cu su) : pi_Wat p l e R s m args below meth c Q D cA A mi.2.1 ad (pc, lv, .int y :: .int x :: r, w) cu su := by
  intro H locs ls hP hD hS hl
  exact lv_irem C.1 C.2.1 hd hy (k H locs ls hP hD hS hl)
theorem ps_ladd (C : pi_Cx p s m args meth c y cc mi D cA sa sv A) {pc : Nat} {lv : pi_L} {r : List Value} {w : pi_W} {x y : Int64} (hd : decode cc pc = .ok (.ladd, 1)) (k : pi_Wat p l e R s m args below meth c Q D cA A mi.2.1 ad (pc + 1, lv, .long (x + y) :: r, w) cu su) : pi_Wat p l e R s m args below meth c Q D cA A mi.2.1 ad (pc, lv, .long y :: .long x :: r, w) cu su := by
  intro H locs ls hP hD hS hl
  exact lv_ladd C.1 C.2.1 hd (k H locs ls hP hD hS hl)
theorem ps_lmul (C : pi_Cx p s m args meth c y cc mi D cA sa sv A) {pc : Nat} {lv : pi_L} {r : List Value} {w : pi_W} {x y : Int64} (hd : decode cc pc = .ok (.lmul, 1)) (k : pi_Wat p l e R s m args below meth c Q D cA A mi.2.1 ad (pc + 1, lv, .long (x * y) :: r, w) cu su) : pi_Wat p l e R s m args below meth c Q D cA A mi.2.1 ad (pc, lv, .long y :: .long x :: r, w) cu su := by
  intro H locs ls hP hD hS hl
  exact lv_lmul C.1 C.2.1 hd (k H locs ls hP hD hS hl)
theorem ps_lor (C : pi_Cx p s m args meth c y cc mi D cA sa sv A) {pc : Nat} {lv : pi_L} {r : List Value} {w : pi_W} {x y : Int64} (hd : decode cc pc = .ok (.lor, 1)) (k : pi_Wat p l e R s m args below meth c Q D cA A mi.2.1 ad (pc + 1, lv, .long (x ||| y) :: r, w) cu su) : pi_Wat p l e R s m args below meth c Q D cA A mi.2.1 ad (pc, lv, .long y :: .long x :: r, w) cu su := by
  intro H locs ls hP hD hS hl
  exact lv_lor C.1 C.2.1 hd (k H locs ls hP hD hS hl)
theorem ps_lshl (C : pi_Cx p s m args meth c y cc mi D cA sa sv A) {pc : Nat} {lv : pi_L} {r : List Value} {w : pi_W} {x : Int64} {y : Int32} (hd : decode cc pc = .ok (.lshl, 1)) (k : pi_Wat p l e R s m args below meth c Q D cA A mi.2.1 ad (pc + 1, lv, .long (x <<< (y.toInt64 &&& 63)) :: r, w) cu su) : pi_Wat p l e R s m args below meth c Q D cA A mi.2.1 ad (pc, lv, .int y :: .long x :: r, w) cu su := by
  intro H locs ls hP hD hS hl
  exact lv_lshl C.1 C.2.1 hd rfl (k H locs ls hP hD hS hl)
theorem ps_lcmp (C : pi_Cx p s m args meth c y cc mi D cA sa sv A) {pc : Nat} {lv : pi_L} {r : List Value} {w : pi_W} {x y : Int64} (hd : decode cc pc = .ok (.lcmp, 1)) (k : pi_Wat p l e R s m args below meth c Q D cA A mi.2.1 ad (pc + 1, lv, .int (lg_cmp x y) :: r, w) cu su) : pi_Wat p l e R s m args below meth c Q D cA A mi.2.1 ad (pc, lv, .long y :: .long x :: r, w) cu su := by
  intro H locs ls hP hD hS hl
  exact W.lcmp C.1 C.2.1 hd (k H locs ls hP hD hS hl)
theorem ps_i2b (C : pi_Cx p s m args meth c y cc mi D cA sa sv A) {pc : Nat} {lv : pi_L} {r : List Value} {w : pi_W} {x : Int32} (hd : decode cc pc = .ok (.i2b, 1)) (k : pi_Wat p l e R s m args below meth c Q D cA A mi.2.1 ad (pc + 1, lv, .int x.toInt8.toInt32 :: r, w) cu su) : pi_Wat p l e R s m args below meth c Q D cA A mi.2.1 ad (pc, lv, .int x :: r, w) cu su := by
  intro H locs ls hP hD hS hl
  exact lv_i2b C.1 C.2.1 hd rfl (k H locs ls hP hD hS hl)
theorem ps_i2l (C : pi_Cx p s m args meth c y cc mi D cA sa sv A) {pc : Nat} {lv : pi_L} {r : List Value} {w : pi_W} {x : Int32} (hd : decode cc pc = .ok (.i2l, 1)) (k : pi_Wat p l e R s m args below meth c Q D cA A mi.2.1 ad (pc + 1, lv, .long x.toInt64 :: r, w) cu su) : pi_Wat p l e R s m args below meth c Q D cA A mi.2.1 ad (pc, lv, .int x :: r, w) cu su := by
  intro H locs ls hP hD hS hl
  exact lv_i2l C.1 C.2.1 hd rfl (k H locs ls hP hD hS hl)
theorem ps_iconst (C : pi_Cx p s m args meth c y cc mi D cA sa sv A) {pc : Nat} {lv : pi_L} {r : List Value} {w : pi_W} {n : Int} (hd : decode cc pc = .ok (.iconst n, 1)) (k : pi_Wat p l e R s m args below meth c Q D cA A mi.2.1 ad (pc + 1, lv, .int (Int32.ofInt n) :: r, w) cu su) : pi_Wat p l e R s m args below meth c Q D cA A mi.2.1 ad (pc, lv, r, w) cu su := by
  intro H locs ls hP hD hS hl
  exact lv_iconst C.1 C.2.1 hd rfl (k H locs ls hP hD hS hl)
theorem ps_bipush (C : pi_Cx p s m args meth c y cc mi D cA sa sv A) {pc : Nat} {lv : pi_L} {r : List Value} {w : pi_W} {n : Int} (hd : decode cc pc = .ok (.bipush n, 2)) (k : pi_Wat p l e R s m args below meth c Q D cA A mi.2.1 ad (pc + 2, lv, .int (Int8.ofInt n).toInt32 :: r, w) cu su) : pi_Wat p l e R s m args below meth c Q D cA A mi.2.1 ad (pc, lv, r, w) cu su := by
  intro H locs ls hP hD hS hl
  exact lv_bipush C.1 C.2.1 hd rfl (k H locs ls hP hD hS hl)
theorem ps_sipush (C : pi_Cx p s m args meth c y cc mi D cA sa sv A) {pc : Nat} {lv : pi_L} {r : List Value} {w : pi_W} {n : Int} (hd : decode cc pc = .ok (.sipush n, 3)) (k : pi_Wat p l e R s m args below meth c Q D cA A mi.2.1 ad (pc + 3, lv, .int (Int16.ofInt n).toInt32 :: r, w) cu su) : pi_Wat p l e R s m args below meth c Q D cA A mi.2.1 ad (pc, lv, r, w) cu su := by
  intro H locs ls hP hD hS hl
  exact lv_sipush C.1 C.2.1 hd rfl (k H locs ls hP hD hS hl)
theorem ps_lconst (C : pi_Cx p s m args meth c y cc mi D cA sa sv A) {pc : Nat} {lv : pi_L} {r : List Value} {w : pi_W} {n : Fin 2} (hd : decode cc pc = .ok (.lconst n, 1)) (k : pi_Wat p l e R s m args below meth c Q D cA A mi.2.1 ad (pc + 1, lv, .long (Int64.ofNat (n : Nat)) :: r, w) cu su) : pi_Wat p l e R s m args below meth c Q D cA A mi.2.1 ad (pc, lv, r, w) cu su := by
  intro H locs ls hP hD hS hl
  exact lv_lconst C.1 C.2.1 hd rfl (k H locs ls hP hD hS hl)
theorem ps_ldc (C : pi_Cx p s m args meth c y cc mi D cA sa sv A) {pc : Nat} {lv : pi_L} {r : List Value} {w : pi_W} {n q : Nat} {v : Int32} (hq : pi_look pi_lT mi.1 n = some (v, q)) (hd : decode cc pc = .ok (.ldc n, 2)) (k : pi_Wat p l e R s m args below meth c Q D cA A mi.2.1 ad (pc + 2, lv, .int v :: r, w) cu su) : pi_Wat p l e R s m args below meth c Q D cA A mi.2.1 ad (pc, lv, r, w) cu su := by
  intro H locs ls hP hD hS hl
  obtain ⟨t, ht, hm⟩ := pi_look_mem hq
  have hk : Cond.constant y.cls n v ∈ lw_tbl := ll_all C.2.2.2.2.2.2.2.2.2.2.1 ht _ hm
  exact lv_ldc C.1 C.2.1 C.2.2.1 (C.2.2.2.1 _ (pi_good_of hk rfl)) hd (k H locs ls hP hD hS hl)
theorem ps_ldc_w (C : pi_Cx p s m args meth c y cc mi D cA sa sv A) {pc : Nat} {lv : pi_L} {r : List Value} {w : pi_W} {n q : Nat} {v : Int32} (hq : pi_look pi_lT mi.1 n = some (v, q)) (hd : decode cc pc = .ok (.ldc_w n, 3)) (k : pi_Wat p l e R s m args below meth c Q D cA A mi.2.1 ad (pc + 3, lv, .int v :: r, w) cu su) : pi_Wat p l e R s m args below meth c Q D cA A mi.2.1 ad (pc, lv, r, w) cu su := by
  intro H locs ls hP hD hS hl
  obtain ⟨t, ht, hm⟩ := pi_look_mem hq
  have hk : Cond.constant y.cls n v ∈ lw_tbl := ll_all C.2.2.2.2.2.2.2.2.2.2.1 ht _ hm
  exact lv_ldcw C.1 C.2.1 C.2.2.1 (C.2.2.2.1 _ (pi_good_of hk rfl)) hd (k H locs ls hP hD hS hl)
theorem ps_ldc2 (C : pi_Cx p s m args meth c y cc mi D cA sa sv A) {pc : Nat} {lv : pi_L} {r : List Value} {w : pi_W} {n q : Nat} {v : Int64} (hq : pi_look pi_qT mi.1 n = some (v, q)) (hd : decode cc pc = .ok (.ldc2_w n, 3)) (k : pi_Wat p l e R s m args below meth c Q D cA A mi.2.1 ad (pc + 3, lv, .long v :: r, w) cu su) : pi_Wat p l e R s m args below meth c Q D cA A mi.2.1 ad (pc, lv, r, w) cu su := by
  intro H locs ls hP hD hS hl
  obtain ⟨t, ht, hm⟩ := pi_look_mem hq
  have hk : Cond.constantLong y.cls n v ∈ lw_tbl := lq_all C.2.2.2.2.2.2.2.2.2.2.1 ht _ hm
  exact lv_ldc2 C.1 C.2.1 C.2.2.1 (C.2.2.2.1 _ (pi_good_of hk rfl)) hd (k H locs ls hP hD hS hl)
theorem ps_ldcS (C : pi_Cx p s m args meth c y cc mi D cA sa sv A) {pc : Nat} {lv : pi_L} {r : List Value} {w : pi_W} (hsa : ad pi_str = sa) (hown : mi.1 = 9) (hd : decode cc pc = .ok (.ldc 19, 2)) (k : pi_Wat p l e R s m args below meth c Q D cA A mi.2.1 ad (pc + 2, lv, .ref pi_str :: r, w) cu su) : pi_Wat p l e R s m args below meth c Q D cA A mi.2.1 ad (pc, lv, r, w) cu su := by
  intro H locs ls hP hD hS hl
  have hy : y.cls = "ReadBound$Tokens" := by
    have h1 := C.2.2.2.2.2.2.2.2.2.2.1
    rw [hown] at h1
    exact (Option.some.inj h1).symm
  have h2 := k H locs ls hP hD hS hl
  refine va_ldcS C.1 C.2.1 (own := "ReadBound$Tokens") (by rw [← hy]; exact C.2.2.1) C.2.2.2.2.1.2.2.1 hd ?_
  rw [← hsa]
  exact h2
theorem ps_iload (C : pi_Cx p s m args meth c y cc mi D cA sa sv A) {pc : Nat} {lv : pi_L} {r : List Value} {w : pi_W} {n : Nat} {x : Int32} (hq : pi_get lv n = some (.int x)) (hd : decode cc pc = .ok (.iload n, 2)) (k : pi_Wat p l e R s m args below meth c Q D cA A mi.2.1 ad (pc + 2, lv, .int x :: r, w) cu su) : pi_Wat p l e R s m args below meth c Q D cA A mi.2.1 ad (pc, lv, r, w) cu su := by
  intro H locs ls hP hD hS hl
  exact lv_iload C.1 C.2.1 hd (pi_rL_at hl hq) (k H locs ls hP hD hS hl)
theorem ps_iload_n (C : pi_Cx p s m args meth c y cc mi D cA sa sv A) {pc : Nat} {lv : pi_L} {r : List Value} {w : pi_W} {n : Fin 4} {x : Int32} (hq : pi_get lv (n : Nat) = some (.int x)) (hd : decode cc pc = .ok (.iload_n n, 1)) (k : pi_Wat p l e R s m args below meth c Q D cA A mi.2.1 ad (pc + 1, lv, .int x :: r, w) cu su) : pi_Wat p l e R s m args below meth c Q D cA A mi.2.1 ad (pc, lv, r, w) cu su := by
  intro H locs ls hP hD hS hl
  exact lv_iload_n C.1 C.2.1 hd rfl (pi_rL_at hl hq) (k H locs ls hP hD hS hl)
theorem ps_lload_n (C : pi_Cx p s m args meth c y cc mi D cA sa sv A) {pc : Nat} {lv : pi_L} {r : List Value} {w : pi_W} {n : Fin 4} {x : Int64} (hq : pi_get lv (n : Nat) = some (.long x)) (hd : decode cc pc = .ok (.lload_n n, 1)) (k : pi_Wat p l e R s m args below meth c Q D cA A mi.2.1 ad (pc + 1, lv, .long x :: r, w) cu su) : pi_Wat p l e R s m args below meth c Q D cA A mi.2.1 ad (pc, lv, r, w) cu su := by
  intro H locs ls hP hD hS hl
  exact lv_lload_n C.1 C.2.1 hd rfl (pi_rL_at hl hq) (k H locs ls hP hD hS hl)
theorem ps_aload_n (C : pi_Cx p s m args meth c y cc mi D cA sa sv A) {pc : Nat} {lv : pi_L} {r : List Value} {w : pi_W} {n : Fin 4} {x : Nat} (hq : pi_get lv (n : Nat) = some (.ref x)) (hd : decode cc pc = .ok (.aload_n n, 1)) (k : pi_Wat p l e R s m args below meth c Q D cA A mi.2.1 ad (pc + 1, lv, .ref x :: r, w) cu su) : pi_Wat p l e R s m args below meth c Q D cA A mi.2.1 ad (pc, lv, r, w) cu su := by
  intro H locs ls hP hD hS hl
  exact lv_aload_n C.1 C.2.1 hd rfl (pi_rL_at hl hq) (k H locs ls hP hD hS hl)
theorem ps_istore (C : pi_Cx p s m args meth c y cc mi D cA sa sv A) {pc : Nat} {lv : pi_L} {r : List Value} {w : pi_W} {n : Nat} {x : Int32} (hn : n < mi.2.1) (hd : decode cc pc = .ok (.istore n, 2)) (k : pi_Wat p l e R s m args below meth c Q D cA A mi.2.1 ad (pc + 2, pi_set lv n (.int x), r, w) cu su) : pi_Wat p l e R s m args below meth c Q D cA A mi.2.1 ad (pc, lv, .int x :: r, w) cu su := by
  intro H locs ls hP hD hS hl
  exact lv_istore C.1 C.2.1 hd hl hn (pi_rL_set ad lv n (.int x)) (fun ls hl => k H locs ls hP hD hS hl)
theorem ps_istore_n (C : pi_Cx p s m args meth c y cc mi D cA sa sv A) {pc : Nat} {lv : pi_L} {r : List Value} {w : pi_W} {n : Fin 4} {x : Int32} (hn : (n : Nat) < mi.2.1) (hd : decode cc pc = .ok (.istore_n n, 1)) (k : pi_Wat p l e R s m args below meth c Q D cA A mi.2.1 ad (pc + 1, pi_set lv (n : Nat) (.int x), r, w) cu su) : pi_Wat p l e R s m args below meth c Q D cA A mi.2.1 ad (pc, lv, .int x :: r, w) cu su := by
  intro H locs ls hP hD hS hl
  exact lv_istore_n C.1 C.2.1 hd rfl hl hn (pi_rL_set ad lv (n : Nat) (.int x)) (fun ls hl => k H locs ls hP hD hS hl)
theorem ps_iinc (C : pi_Cx p s m args meth c y cc mi D cA sa sv A) {pc : Nat} {lv : pi_L} {r : List Value} {w : pi_W} {n : Nat} {j : Int} {x : Int32} (hq : pi_get lv n = some (.int x)) (hn : n < mi.2.1) (hd : decode cc pc = .ok (.iinc n j, 3)) (k : pi_Wat p l e R s m args below meth c Q D cA A mi.2.1 ad (pc + 3, pi_set lv n (.int (x + Int32.ofInt j)), r, w) cu su) : pi_Wat p l e R s m args below meth c Q D cA A mi.2.1 ad (pc, lv, r, w) cu su := by
  intro H locs ls hP hD hS hl
  obtain ⟨i, hi⟩ := List.getElem?_of_mem (pi_rL_mem (ad := ad) hq)
  exact lv_iinc C.1 C.2.1 hd hl hi rfl hn (pi_rL_set ad lv n (.int (x + Int32.ofInt j))) (fun ls hl => k H locs ls hP hD hS hl)
theorem ps_dup (C : pi_Cx p s m args meth c y cc mi D cA sa sv A) {pc : Nat} {lv : pi_L} {r : List Value} {w : pi_W} {v : Value} (hv : v.category = 1) (hd : decode cc pc = .ok (.dup, 1)) (k : pi_Wat p l e R s m args below meth c Q D cA A mi.2.1 ad (pc + 1, lv, v :: v :: r, w) cu su) : pi_Wat p l e R s m args below meth c Q D cA A mi.2.1 ad (pc, lv, v :: r, w) cu su := by
  intro H locs ls hP hD hS hl
  exact lv_dup C.1 C.2.1 hd ((pi_rv_cat ad v).trans hv) (k H locs ls hP hD hS hl)
theorem ps_pop (C : pi_Cx p s m args meth c y cc mi D cA sa sv A) {pc : Nat} {lv : pi_L} {r : List Value} {w : pi_W} {v : Value} (hv : v.category = 1) (hd : decode cc pc = .ok (.pop, 1)) (k : pi_Wat p l e R s m args below meth c Q D cA A mi.2.1 ad (pc + 1, lv, r, w) cu su) : pi_Wat p l e R s m args below meth c Q D cA A mi.2.1 ad (pc, lv, v :: r, w) cu su := by
  intro H locs ls hP hD hS hl
  exact lv_pop C.1 C.2.1 hd ((pi_rv_cat ad v).trans hv) (k H locs ls hP hD hS hl)
theorem ps_dup2 (C : pi_Cx p s m args meth c y cc mi D cA sa sv A) {pc : Nat} {lv : pi_L} {r : List Value} {w : pi_W} {v u : Value} (hv : v.category = 1) (hu : u.category = 1) (hd : decode cc pc = .ok (.dup2, 1)) (k : pi_Wat p l e R s m args below meth c Q D cA A mi.2.1 ad (pc + 1, lv, v :: u :: v :: u :: r, w) cu su) : pi_Wat p l e R s m args below meth c Q D cA A mi.2.1 ad (pc, lv, v :: u :: r, w) cu su := by
  intro H locs ls hP hD hS hl
  exact lv_dup2_11 C.1 C.2.1 hd ((pi_rv_cat ad v).trans hv) ((pi_rv_cat ad u).trans hu) (k H locs ls hP hD hS hl)
theorem ps_if1 (C : pi_Cx p s m args meth c y cc mi D cA sa sv A) {pc : Nat} {lv : pi_L} {r : List Value} {w : pi_W} {x : Int32} {cd : ClassFile.Cond} {off : Int} {t : Nat} (ht : pi_tgt pc off = some t) (hc : pi_cmp cd x 0 = true) (hd : decode cc pc = .ok (.ifCond cd off, 3)) (k : pi_Wat p l e R s m args below meth c Q D cA A mi.2.1 ad (t, lv, r, w) cu su) : pi_Wat p l e R s m args below meth c Q D cA A mi.2.1 ad (pc, lv, .int x :: r, w) cu su := by
  intro H locs ls hP hD hS hl
  have k := k H locs ls hP hD hS hl
  have ht := pi_tgt_of ht
  cases cd
  · exact lv_if_eq C.1 C.2.1 hd ht (fun _ => k) (fun hn => absurd (of_decide_eq_true hc) hn)
  · exact lv_if_ne C.1 C.2.1 hd ht (fun _ => k) (fun hn => absurd hn (of_decide_eq_true hc))
  · exact lv_if_lt C.1 C.2.1 hd ht (fun _ => k) (fun hn => absurd (of_decide_eq_true hc) hn)
  · exact lv_if_ge C.1 C.2.1 hd ht (fun _ => k) (fun hn => absurd (of_decide_eq_true hc) hn)
  · exact lv_if_gt C.1 C.2.1 hd ht (fun _ => k) (fun hn => absurd (of_decide_eq_true hc) hn)
  · exact lv_if_le C.1 C.2.1 hd ht (fun _ => k) (fun hn => absurd (of_decide_eq_true hc) hn)
theorem ps_if0 (C : pi_Cx p s m args meth c y cc mi D cA sa sv A) {pc : Nat} {lv : pi_L} {r : List Value} {w : pi_W} {x : Int32} {cd : ClassFile.Cond} {off : Int} (hc : ¬ pi_cmp cd x 0 = true) (hd : decode cc pc = .ok (.ifCond cd off, 3)) (ht : ∃ t : Nat, (pc : Int) + off = (t : Int)) (k : pi_Wat p l e R s m args below meth c Q D cA A mi.2.1 ad (pc + 3, lv, r, w) cu su) : pi_Wat p l e R s m args below meth c Q D cA A mi.2.1 ad (pc, lv, .int x :: r, w) cu su := by
  intro H locs ls hP hD hS hl
  have k := k H locs ls hP hD hS hl
  obtain ⟨t, ht⟩ := ht
  cases cd
  · exact lv_if_eq C.1 C.2.1 hd ht (fun h => absurd (decide_eq_true h) hc) (fun _ => k)
  · exact lv_if_ne C.1 C.2.1 hd ht (fun h => absurd (decide_eq_true h) hc) (fun _ => k)
  · exact lv_if_lt C.1 C.2.1 hd ht (fun h => absurd (decide_eq_true h) hc) (fun _ => k)
  · exact lv_if_ge C.1 C.2.1 hd ht (fun h => absurd (decide_eq_true h) hc) (fun _ => k)
  · exact lv_if_gt C.1 C.2.1 hd ht (fun h => absurd (decide_eq_true h) hc) (fun _ => k)
  · exact lv_if_le C.1 C.2.1 hd ht (fun h => absurd (decide_eq_true h) hc) (fun _ => k)
theorem ps_ic1 (C : pi_Cx p s m args meth c y cc mi D cA sa sv A) {pc : Nat} {lv : pi_L} {r : List Value} {w : pi_W} {x y : Int32} {cd : ClassFile.Cond} {off : Int} {t : Nat} (ht : pi_tgt pc off = some t) (hc : pi_cmp cd x y = true) (hd : decode cc pc = .ok (.if_icmp cd off, 3)) (k : pi_Wat p l e R s m args below meth c Q D cA A mi.2.1 ad (t, lv, r, w) cu su) : pi_Wat p l e R s m args below meth c Q D cA A mi.2.1 ad (pc, lv, .int y :: .int x :: r, w) cu su := by
  intro H locs ls hP hD hS hl
  have k := k H locs ls hP hD hS hl
  have ht := pi_tgt_of ht
  cases cd
  · exact lv_icmp_eq C.1 C.2.1 hd ht (fun _ => k) (fun hn => absurd (of_decide_eq_true hc) hn)
  · exact lv_icmp_ne C.1 C.2.1 hd ht (fun _ => k) (fun hn => absurd hn (of_decide_eq_true hc))
  · exact lv_icmp_lt C.1 C.2.1 hd ht (fun _ => k) (fun hn => absurd (of_decide_eq_true hc) hn)
  · exact lv_icmp_ge C.1 C.2.1 hd ht (fun _ => k) (fun hn => absurd (of_decide_eq_true hc) hn)
  · exact lv_icmp_gt C.1 C.2.1 hd ht (fun _ => k) (fun hn => absurd (of_decide_eq_true hc) hn)
  · exact lv_icmp_le C.1 C.2.1 hd ht (fun _ => k) (fun hn => absurd (of_decide_eq_true hc) hn)
theorem ps_ic0 (C : pi_Cx p s m args meth c y cc mi D cA sa sv A) {pc : Nat} {lv : pi_L} {r : List Value} {w : pi_W} {x y : Int32} {cd : ClassFile.Cond} {off : Int} (hc : ¬ pi_cmp cd x y = true) (hd : decode cc pc = .ok (.if_icmp cd off, 3)) (ht : ∃ t : Nat, (pc : Int) + off = (t : Int)) (k : pi_Wat p l e R s m args below meth c Q D cA A mi.2.1 ad (pc + 3, lv, r, w) cu su) : pi_Wat p l e R s m args below meth c Q D cA A mi.2.1 ad (pc, lv, .int y :: .int x :: r, w) cu su := by
  intro H locs ls hP hD hS hl
  have k := k H locs ls hP hD hS hl
  obtain ⟨t, ht⟩ := ht
  cases cd
  · exact lv_icmp_eq C.1 C.2.1 hd ht (fun h => absurd (decide_eq_true h) hc) (fun _ => k)
  · exact lv_icmp_ne C.1 C.2.1 hd ht (fun h => absurd (decide_eq_true h) hc) (fun _ => k)
  · exact lv_icmp_lt C.1 C.2.1 hd ht (fun h => absurd (decide_eq_true h) hc) (fun _ => k)
  · exact lv_icmp_ge C.1 C.2.1 hd ht (fun h => absurd (decide_eq_true h) hc) (fun _ => k)
  · exact lv_icmp_gt C.1 C.2.1 hd ht (fun h => absurd (decide_eq_true h) hc) (fun _ => k)
  · exact lv_icmp_le C.1 C.2.1 hd ht (fun h => absurd (decide_eq_true h) hc) (fun _ => k)
theorem ps_goto (C : pi_Cx p s m args meth c y cc mi D cA sa sv A) {pc : Nat} {lv : pi_L} {r : List Value} {w : pi_W} {off : Int} {t : Nat} (ht : pi_tgt pc off = some t) (hd : decode cc pc = .ok (.goto off, 3)) (k : pi_Wat p l e R s m args below meth c Q D cA A mi.2.1 ad (t, lv, r, w) cu su) : pi_Wat p l e R s m args below meth c Q D cA A mi.2.1 ad (pc, lv, r, w) cu su := by
  intro H locs ls hP hD hS hl
  exact lv_goto C.1 C.2.1 hd (pi_tgt_of ht) (k H locs ls hP hD hS hl)
theorem ps_tabOut (C : pi_Cx p s m args meth c y cc mi D cA sa sv A) {pc : Nat} {lv : pi_L} {r : List Value} {w : pi_W} {x : Int32} {dflt lo hi : Int} {offs : Array Int} {len t : Nat} (h : x.toInt < lo ∨ hi < x.toInt) (ht : pi_tgt pc dflt = some t) (hd : decode cc pc = .ok (.tableswitch dflt lo hi offs, len)) (k : pi_Wat p l e R s m args below meth c Q D cA A mi.2.1 ad (t, lv, r, w) cu su) : pi_Wat p l e R s m args below meth c Q D cA A mi.2.1 ad (pc, lv, .int x :: r, w) cu su := by
  intro H locs ls hP hD hS hl
  exact lv_tableOut C.1 C.2.1 hd h (pi_tgt_of ht) (k H locs ls hP hD hS hl)
theorem ps_tabIn (C : pi_Cx p s m args meth c y cc mi D cA sa sv A) {pc : Nat} {lv : pi_L} {r : List Value} {w : pi_W} {x : Int32} {dflt lo hi off : Int} {offs : Array Int} {len t : Nat} (h : ¬ (x.toInt < lo ∨ hi < x.toInt)) (ho : offs[(x.toInt - lo).toNat]? = some off) (ht : pi_tgt pc off = some t) (hd : decode cc pc = .ok (.tableswitch dflt lo hi offs, len)) (k : pi_Wat p l e R s m args below meth c Q D cA A mi.2.1 ad (t, lv, r, w) cu su) : pi_Wat p l e R s m args below meth c Q D cA A mi.2.1 ad (pc, lv, .int x :: r, w) cu su := by
  intro H locs ls hP hD hS hl
  exact lv_tableIn C.1 C.2.1 hd (fun q => h (Or.inl q)) (fun q => h (Or.inr q)) ho (pi_tgt_of ht) (k H locs ls hP hD hS hl)
theorem ps_lookup (C : pi_Cx p s m args meth c y cc mi D cA sa sv A) {pc : Nat} {lv : pi_L} {r : List Value} {w : pi_W} {x : Int32} {dflt : Int} {ps : Array (Int × Int)} {len t : Nat} (hp : (ps.toList.zip (ps.toList.drop 1)).all (fun (a, next) => a.1 < next.1) = true) (ht : pi_tgt pc (Op.lookupswitch.offset ps.toList dflt x.toInt) = some t) (hd : decode cc pc = .ok (.lookupswitch dflt ps, len)) (k : pi_Wat p l e R s m args below meth c Q D cA A mi.2.1 ad (t, lv, r, w) cu su) : pi_Wat p l e R s m args below meth c Q D cA A mi.2.1 ad (pc, lv, .int x :: r, w) cu su := by
  intro H locs ls hP hD hS hl
  exact lv_lookup C.1 C.2.1 hd hp rfl (pi_tgt_of ht) (k H locs ls hP hD hS hl)
theorem ps_iald (C : pi_Cx p s m args meth c y cc mi D cA sa sv A) {pc : Nat} {lv : pi_L} {r : List Value} {w : pi_W} {i : Int32} {a n : Nat} {f : Nat → Int32} (hw : w[a]? = some (.inl (0, n, .inl f))) (hin : ¬ (i < 0 ∨ n ≤ i.toNatClampNeg)) (hd : decode cc pc = .ok (.iaload, 1)) (k : pi_Wat p l e R s m args below meth c Q D cA A mi.2.1 ad (pc + 1, lv, .int (f i.toNatClampNeg) :: r, w) cu su) : pi_Wat p l e R s m args below meth c Q D cA A mi.2.1 ad (pc, lv, .int i :: .ref a :: r, w) cu su := by
  intro H locs ls hP hD hS hl
  exact va_iald C.1 C.2.1 C.2.2.2.2.1.1 hP a 0 (by rw [pi_rW_get, hw]; rfl) rfl hin hd (k H locs ls hP hD hS hl)
theorem ps_bald (C : pi_Cx p s m args meth c y cc mi D cA sa sv A) {pc : Nat} {lv : pi_L} {r : List Value} {w : pi_W} {i : Int32} {a n : Nat} {f : Nat → Int32} (hw : w[a]? = some (.inl (1, n, .inl f))) (hin : ¬ (i < 0 ∨ n ≤ i.toNatClampNeg)) (hd : decode cc pc = .ok (.baload, 1)) (k : pi_Wat p l e R s m args below meth c Q D cA A mi.2.1 ad (pc + 1, lv, .int (f i.toNatClampNeg) :: r, w) cu su) : pi_Wat p l e R s m args below meth c Q D cA A mi.2.1 ad (pc, lv, .int i :: .ref a :: r, w) cu su := by
  intro H locs ls hP hD hS hl
  exact va_bald C.1 C.2.1 C.2.2.2.2.1.1 hP a 1 (by rw [pi_rW_get, hw]; rfl) rfl hin hd (k H locs ls hP hD hS hl)
theorem ps_zald (C : pi_Cx p s m args meth c y cc mi D cA sa sv A) {pc : Nat} {lv : pi_L} {r : List Value} {w : pi_W} {i : Int32} {a n : Nat} {f : Nat → Int32} (hw : w[a]? = some (.inl (3, n, .inl f))) (hin : ¬ (i < 0 ∨ n ≤ i.toNatClampNeg)) (hd : decode cc pc = .ok (.baload, 1)) (k : pi_Wat p l e R s m args below meth c Q D cA A mi.2.1 ad (pc + 1, lv, .int (f i.toNatClampNeg) :: r, w) cu su) : pi_Wat p l e R s m args below meth c Q D cA A mi.2.1 ad (pc, lv, .int i :: .ref a :: r, w) cu su := by
  intro H locs ls hP hD hS hl
  exact va_zald C.1 C.2.1 C.2.2.2.2.1.1 hP a 3 (by rw [pi_rW_get, hw]; rfl) rfl hin hd (k H locs ls hP hD hS hl)
theorem ps_lald (C : pi_Cx p s m args meth c y cc mi D cA sa sv A) {pc : Nat} {lv : pi_L} {r : List Value} {w : pi_W} {i : Int32} {a n : Nat} {f : Nat → Int64} (hw : w[a]? = some (.inl (2, n, .inr (.inl f)))) (hin : ¬ (i < 0 ∨ n ≤ i.toNatClampNeg)) (hd : decode cc pc = .ok (.laload, 1)) (k : pi_Wat p l e R s m args below meth c Q D cA A mi.2.1 ad (pc + 1, lv, .long (f i.toNatClampNeg) :: r, w) cu su) : pi_Wat p l e R s m args below meth c Q D cA A mi.2.1 ad (pc, lv, .int i :: .ref a :: r, w) cu su := by
  intro H locs ls hP hD hS hl
  exact va_lald C.1 C.2.1 C.2.2.2.2.1.1 hP a 2 (by rw [pi_rW_get, hw]; rfl) rfl hin hd (k H locs ls hP hD hS hl)
theorem ps_iast (C : pi_Cx p s m args meth c y cc mi D cA sa sv A) {pc : Nat} {lv : pi_L} {r : List Value} {w : pi_W} {i : Int32} {x : Int32} {a n : Nat} {f : Nat → Int32} (hw : w[a]? = some (.inl (0, n, .inl (f)))) (hin : ¬ (i < 0 ∨ n ≤ i.toNatClampNeg)) (hd : decode cc pc = .ok (.iastore, 1)) (k : pi_Wat p l e R s m args below meth c Q D cA A mi.2.1 ad (pc + 1, lv, r, w.set a (.inl (0, n, .inl (upd f i.toNatClampNeg x)))) cu su) : pi_Wat p l e R s m args below meth c Q D cA A mi.2.1 ad (pc, lv, .int x :: .int i :: .ref a :: r, w) cu su := by
  intro H locs ls hP hD hS hl
  exact va_iast C.1 C.2.1 C.2.2.2.2.1.1 hP hD hS a 0 (by rw [pi_rW_get, hw]; rfl) rfl hin hd (fun H1 locs1 p1 d1 s1 => k H1 locs1 ls (by show va_P _ _ (pi_rW _ _ _) _; rw [pi_rW_set]; exact p1) (by show va_D _ (pi_rW _ _ _); rw [pi_rW_set]; exact d1) s1 hl)
theorem ps_bast (C : pi_Cx p s m args meth c y cc mi D cA sa sv A) {pc : Nat} {lv : pi_L} {r : List Value} {w : pi_W} {i : Int32} {x : Int32} {a n : Nat} {f : Nat → Int32} (hw : w[a]? = some (.inl (1, n, .inl (f)))) (hin : ¬ (i < 0 ∨ n ≤ i.toNatClampNeg)) (hd : decode cc pc = .ok (.bastore, 1)) (k : pi_Wat p l e R s m args below meth c Q D cA A mi.2.1 ad (pc + 1, lv, r, w.set a (.inl (1, n, .inl (upd f i.toNatClampNeg (vp_nar .byte x))))) cu su) : pi_Wat p l e R s m args below meth c Q D cA A mi.2.1 ad (pc, lv, .int x :: .int i :: .ref a :: r, w) cu su := by
  intro H locs ls hP hD hS hl
  exact va_bast C.1 C.2.1 C.2.2.2.2.1.1 hP hD hS a 1 (by rw [pi_rW_get, hw]; rfl) rfl hin hd (fun H1 locs1 p1 d1 s1 => k H1 locs1 ls (by show va_P _ _ (pi_rW _ _ _) _; rw [pi_rW_set]; exact p1) (by show va_D _ (pi_rW _ _ _); rw [pi_rW_set]; exact d1) s1 hl)
theorem ps_zast (C : pi_Cx p s m args meth c y cc mi D cA sa sv A) {pc : Nat} {lv : pi_L} {r : List Value} {w : pi_W} {i : Int32} {x : Int32} {a n : Nat} {f : Nat → Int32} (hw : w[a]? = some (.inl (3, n, .inl (f)))) (hin : ¬ (i < 0 ∨ n ≤ i.toNatClampNeg)) (hd : decode cc pc = .ok (.bastore, 1)) (k : pi_Wat p l e R s m args below meth c Q D cA A mi.2.1 ad (pc + 1, lv, r, w.set a (.inl (3, n, .inl (upd f i.toNatClampNeg (vp_nar .boolean x))))) cu su) : pi_Wat p l e R s m args below meth c Q D cA A mi.2.1 ad (pc, lv, .int x :: .int i :: .ref a :: r, w) cu su := by
  intro H locs ls hP hD hS hl
  exact va_zast C.1 C.2.1 C.2.2.2.2.1.1 hP hD hS a 3 (by rw [pi_rW_get, hw]; rfl) rfl hin hd (fun H1 locs1 p1 d1 s1 => k H1 locs1 ls (by show va_P _ _ (pi_rW _ _ _) _; rw [pi_rW_set]; exact p1) (by show va_D _ (pi_rW _ _ _); rw [pi_rW_set]; exact d1) s1 hl)
theorem ps_last (C : pi_Cx p s m args meth c y cc mi D cA sa sv A) {pc : Nat} {lv : pi_L} {r : List Value} {w : pi_W} {i : Int32} {x : Int64} {a n : Nat} {f : Nat → Int64} (hw : w[a]? = some (.inl (2, n, .inr (.inl (f))))) (hin : ¬ (i < 0 ∨ n ≤ i.toNatClampNeg)) (hd : decode cc pc = .ok (.lastore, 1)) (k : pi_Wat p l e R s m args below meth c Q D cA A mi.2.1 ad (pc + 1, lv, r, w.set a (.inl (2, n, .inr (.inl (vp_updL f i.toNatClampNeg x))))) cu su) : pi_Wat p l e R s m args below meth c Q D cA A mi.2.1 ad (pc, lv, .long x :: .int i :: .ref a :: r, w) cu su := by
  intro H locs ls hP hD hS hl
  exact va_last C.1 C.2.1 C.2.2.2.2.1.1 hP hD hS a 2 (by rw [pi_rW_get, hw]; rfl) rfl hin hd (fun H1 locs1 p1 d1 s1 => k H1 locs1 ls (by show va_P _ _ (pi_rW _ _ _) _; rw [pi_rW_set]; exact p1) (by show va_D _ (pi_rW _ _ _); rw [pi_rW_set]; exact d1) s1 hl)
theorem ps_alen (C : pi_Cx p s m args meth c y cc mi D cA sa sv A) {pc : Nat} {lv : pi_L} {r : List Value} {w : pi_W} {a t : Nat} {x : vp_A} (hw : w[a]? = some (.inl (t, x))) (ht : t < 4) (hd : decode cc pc = .ok (.arraylength, 1)) (k : pi_Wat p l e R s m args below meth c Q D cA A mi.2.1 ad (pc + 1, lv, .int (Int32.ofNat x.1) :: r, w) cu su) : pi_Wat p l e R s m args below meth c Q D cA A mi.2.1 ad (pc, lv, .ref a :: r, w) cu su := by
  intro H locs ls hP hD hS hl
  obtain ⟨ty, hty⟩ : ∃ ty, (pi_tys cA)[t]? = some (cA t, ty) := by
    rcases (show t = 0 ∨ t = 1 ∨ t = 2 ∨ t = 3 by omega) with rfl | rfl | rfl | rfl <;> exact ⟨_, rfl⟩
  exact va_alen C.1 C.2.1 C.2.2.2.2.1.1 hP a t (by rw [pi_rW_get, hw]; rfl) hty rfl hd (k H locs ls hP hD hS hl)
theorem ps_getf (C : pi_Cx p s m args meth c y cc mi D cA sa sv A) {pc : Nat} {lv : pi_L} {r : List Value} {w : pi_W} {a cp ci j q : Nat} {v : Value} {fs : List Value} (hq : pi_look pi_fT mi.1 cp = some (ci, j, q)) (hw : w[a]? = some (.inr (ci, fs))) (hv : fs[j]? = some v) (hd : decode cc pc = .ok (.getfield cp, 3)) (k : pi_Wat p l e R s m args below meth c Q D cA A mi.2.1 ad (pc + 3, lv, v :: r, w) cu su) : pi_Wat p l e R s m args below meth c Q D cA A mi.2.1 ad (pc, lv, .ref a :: r, w) cu su := by
  intro H locs ls hP hD hS hl
  obtain ⟨t, ht, hm⟩ := pi_look_mem hq
  obtain ⟨Cn, T, N, h1, h2, h3⟩ := lf_all C.2.2.2.2.2.2.2.2.2.2.1 ht _ hm
  have hc := lc_all h1
  exact va_get C.1 C.2.1 C.2.2.2.1 (fun w hw => pi_good_of (hc.2.1 w hw) (pi_lays_good hw)) C.2.2.1 C.2.2.2.2.1.1 hP a (fs := fs.map (pi_rv ad)) (by rw [pi_rW_get, hw]; rfl) h1 j h2 (C.2.2.2.1 _ (pi_good_of h3 rfl)) (fun x h => h) (v := pi_rv ad v) (by rw [List.getElem?_map, hv]; rfl) hd (k H locs ls hP hD hS hl)
theorem ps_putf (C : pi_Cx p s m args meth c y cc mi D cA sa sv A) {pc : Nat} {lv : pi_L} {r : List Value} {w : pi_W} {a cp ci j q : Nat} {v : Value} {fs : List Value} (hq : pi_look pi_fT mi.1 cp = some (ci, j, q)) (hw : w[a]? = some (.inr (ci, fs))) (hj : j < fs.length) (hn : narrow (pi_ty ci j) v = v) (hf : fits (pi_ty ci j) v = true) (hi : (mi.2.2.2.1 = true ∧ ci = mi.1) ∨ (vwCl[ci]?.map (fun q => (q.2.1 j).2.2.2)) = some false) (hd : decode cc pc = .ok (.putfield cp, 3)) (k : pi_Wat p l e R s m args below meth c Q D cA A mi.2.1 ad (pc + 3, lv, r, w.set a (.inr (ci, fs.set j v))) cu su) : pi_Wat p l e R s m args below meth c Q D cA A mi.2.1 ad (pc, lv, v :: .ref a :: r, w) cu su := by
  intro H locs ls hP hD hS hl
  obtain ⟨t, ht, hm⟩ := pi_look_mem hq
  obtain ⟨Cn, T, N, h1, h2, h3⟩ := lf_all C.2.2.2.2.2.2.2.2.2.2.1 ht _ hm
  have hc := lc_all h1
  have hin : ∀ w ∈ u_ws Cn T N, w ∈ pi_good := fun w hw => pi_good_of (hc.2.1 w hw) (pi_lays_good hw)
  have he : (pi_rW cA ad w)[a]? = some (ad a, .inr (ci, fs.map (pi_rv ad))) := by rw [pi_rW_get, hw]; rfl
  have hl2 : j < (fs.map (pi_rv ad)).length := by rw [List.length_map]; exact hj
  have hk : ∀ (H1 : Heap) (locs1 : List Loc), va_P D vwCl ((pi_rW cA ad w).set a (ad a, .inr (ci, (fs.map (pi_rv ad)).set j (pi_rv ad v)))) H1 → va_D A ((pi_rW cA ad w).set a (ad a, .inr (ci, (fs.map (pi_rv ad)).set j (pi_rv ad v)))) → va_S A s.heap H1 locs1 → W p l e R s m args below meth c H1 locs1 cu su Q (F0 m (pc + 3) ls (r.map (pi_rv ad))) := by
    intro H1 locs1 p1 d1 s1
    have e1 : (pi_rW cA ad w).set a (ad a, .inr (ci, (fs.map (pi_rv ad)).set j (pi_rv ad v))) = pi_rW cA ad (w.set a (.inr (ci, fs.set j v))) := by
      rw [pi_rW_set]
      show _ = (pi_rW cA ad w).set a (ad a, .inr (ci, (fs.set j v).map (pi_rv ad)))
      rw [List.map_set]
    rw [e1] at p1 d1
    exact k H1 locs1 ls p1 d1 s1 hl
  cases hfin : (T j).2.2.2 with
  | false => exact va_put C.1 C.2.1 C.2.2.2.1 hin (pi_ty ci) hc.2.2.1 hc.2.2.2.1 C.2.2.1 C.2.2.2.2.1.1 hP hD hS a he h1 j h2 (C.2.2.2.1 _ (pi_good_of h3 rfl)) (fun x h => h) hfin (hc.2.2.1 j h2) (pi_nar hn) (pi_fit hf) hl2 hd hk
  | true =>
    have hi2 : mi.2.2.2.1 = true ∧ ci = mi.1 := by
      rcases hi with h | h
      · exact h
      · rw [h1] at h
        have h4 : (T j).2.2.2 = false := by simpa using h
        rw [hfin] at h4
        cases h4
    have hcn : Cn = y.cls := by
      have h5 := hc.1
      rw [hi2.2, C.2.2.2.2.2.2.2.2.2.2.1] at h5
      exact (Option.some.inj h5).symm
    have hnm : meth.name = "<init>" := C.2.2.2.2.2.2.2.2.1.trans (C.2.2.2.2.2.2.2.2.2.1 hi2.1)
    exact va_putF C.1 C.2.1 C.2.2.2.1 hin (pi_ty ci) hc.2.2.1 hc.2.2.2.1 C.2.2.1 C.2.2.2.2.1.1 hP hD hS a he h1 j h2 (C.2.2.2.1 _ (pi_good_of h3 rfl)) (fun x h => h) hfin hnm ((hc.2.2.2.2.2.2 j h2).trans hcn) (hc.2.2.1 j h2) (pi_nar hn) (pi_fit hf) hl2 hd hk
end PIW
