/-! ===== A PURE INTERPRETER: worlds are lists of cells, references are places in them ===== -/
abbrev pi_E : Type := (Nat × vp_A) ⊕ (Nat × List Value)
abbrev pi_W : Type := List pi_E
abbrev pi_L : Type := List (Nat × Value)
/-- place, locals, stack, world -/
abbrev pi_S : Type := Nat × pi_L × List Value × pi_W
/-- answer, world, cells and slots made -/
abbrev pi_R : Type := Option Value × pi_W × Nat × Nat
/-- the place that stands for the one String constant -/
def pi_str : Nat := 1000000
def pi_get (lv : pi_L) (i : Nat) : Option Value := (lv.find? (fun q => q.1 == i)).map (fun q => q.2)
def pi_set (lv : pi_L) (i : Nat) (v : Value) : pi_L := (i, v) :: lv.filter (fun q => !(q.1 == i) && !(q.1 + 1 == i && q.2.category == 2))
def pi_cmp (c : ClassFile.Cond) (x y : Int32) : Bool := match c with
  | .eq => decide (x = y)
  | .ne => decide (¬ x = y)
  | .lt => decide (x < y)
  | .ge => decide (y ≤ x)
  | .gt => decide (y < x)
  | .le => decide (x ≤ y)
def pi_tgt (pc : Nat) (off : Int) : Option Nat := if 0 ≤ (pc : Int) + off then some ((pc : Int) + off).toNat else none
def pi_look {α : Type} (T : List (List (Nat × α))) (own cp : Nat) : Option α := match T[own]? with
  | none => none
  | some t => (t.find? (fun q => q.1 == cp)).map (fun q => q.2)
def pi_jump (t : Option Nat) (lv : pi_L) (st : List Value) (w : pi_W) : Option pi_S := match t with
  | none => none
  | some t => some (t, lv, st, w)
def pi_step (own : Nat) (ini : Bool) (nL : Nat) (i : Instr) (len : Nat) (s : pi_S) : Option pi_S := match s with
  | (pc, lv, st, w) => match i with
    | .iconst n => if len = 1 then some (pc + 1, lv, .int (Int32.ofInt n) :: st, w) else none
    | .bipush n => if len = 2 then some (pc + 2, lv, .int (Int8.ofInt n).toInt32 :: st, w) else none
    | .sipush n => if len = 3 then some (pc + 3, lv, .int (Int16.ofInt n).toInt32 :: st, w) else none
    | .lconst n => if len = 1 then some (pc + 1, lv, .long (Int64.ofNat (n : Nat)) :: st, w) else none
    | .ldc k => if len = 2 then (match pi_look pi_lT own k with
      | some (v, _) => some (pc + 2, lv, .int v :: st, w)
      | none => if own = 9 ∧ k = 19 then some (pc + 2, lv, .ref pi_str :: st, w) else none) else none
    | .ldc_w k => if len = 3 then (match pi_look pi_lT own k with
      | some (v, _) => some (pc + 3, lv, .int v :: st, w)
      | none => none) else none
    | .ldc2_w k => if len = 3 then (match pi_look pi_qT own k with
      | some (v, _) => some (pc + 3, lv, .long v :: st, w)
      | none => none) else none
    | .iload k => if len = 2 then (match pi_get lv k with
      | some (.int x) => some (pc + 2, lv, .int x :: st, w)
      | _ => none) else none
    | .iload_n k => if len = 1 then (match pi_get lv (k : Nat) with
      | some (.int x) => some (pc + 1, lv, .int x :: st, w)
      | _ => none) else none
    | .lload_n k => if len = 1 then (match pi_get lv (k : Nat) with
      | some (.long x) => some (pc + 1, lv, .long x :: st, w)
      | _ => none) else none
    | .aload_n k => if len = 1 then (match pi_get lv (k : Nat) with
      | some (.ref x) => some (pc + 1, lv, .ref x :: st, w)
      | _ => none) else none
    | .istore k => if len = 2 ∧ k < nL then (match st with
      | .int x :: r => some (pc + 2, pi_set lv k (.int x), r, w)
      | _ => none) else none
    | .istore_n k => if len = 1 ∧ (k : Nat) < nL then (match st with
      | .int x :: r => some (pc + 1, pi_set lv (k : Nat) (.int x), r, w)
      | _ => none) else none
    | .iinc k n => if len = 3 ∧ k < nL then (match pi_get lv k with
      | some (.int x) => some (pc + 3, pi_set lv k (.int (x + Int32.ofInt n)), st, w)
      | _ => none) else none
    | .iadd => if len = 1 then (match st with
      | .int y :: .int x :: r => some (pc + 1, lv, .int (x + y) :: r, w)
      | _ => none) else none
    | .isub => if len = 1 then (match st with
      | .int y :: .int x :: r => some (pc + 1, lv, .int (x - y) :: r, w)
      | _ => none) else none
    | .imul => if len = 1 then (match st with
      | .int y :: .int x :: r => some (pc + 1, lv, .int (x * y) :: r, w)
      | _ => none) else none
    | .iand => if len = 1 then (match st with
      | .int y :: .int x :: r => some (pc + 1, lv, .int (x &&& y) :: r, w)
      | _ => none) else none
    | .ior => if len = 1 then (match st with
      | .int y :: .int x :: r => some (pc + 1, lv, .int (x ||| y) :: r, w)
      | _ => none) else none
    | .ixor => if len = 1 then (match st with
      | .int y :: .int x :: r => some (pc + 1, lv, .int (x ^^^ y) :: r, w)
      | _ => none) else none
    | .irem => if len = 1 then (match st with
      | .int y :: .int x :: r => if y = 0 then none else some (pc + 1, lv, .int (x - x / y * y) :: r, w)
      | _ => none) else none
    | .ishl => if len = 1 then (match st with
      | .int y :: .int x :: r => some (pc + 1, lv, .int (x <<< (y &&& 31)) :: r, w)
      | _ => none) else none
    | .ishr => if len = 1 then (match st with
      | .int y :: .int x :: r => some (pc + 1, lv, .int (x >>> (y &&& 31)) :: r, w)
      | _ => none) else none
    | .iushr => if len = 1 then (match st with
      | .int y :: .int x :: r => some (pc + 1, lv, .int (x.toUInt32 >>> (y.toUInt32 &&& Int32.toUInt32 31)).toInt32 :: r, w)
      | _ => none) else none
    | .i2b => if len = 1 then (match st with
      | .int x :: r => some (pc + 1, lv, .int x.toInt8.toInt32 :: r, w)
      | _ => none) else none
    | .i2l => if len = 1 then (match st with
      | .int x :: r => some (pc + 1, lv, .long x.toInt64 :: r, w)
      | _ => none) else none
    | .ladd => if len = 1 then (match st with
      | .long y :: .long x :: r => some (pc + 1, lv, .long (x + y) :: r, w)
      | _ => none) else none
    | .lmul => if len = 1 then (match st with
      | .long y :: .long x :: r => some (pc + 1, lv, .long (x * y) :: r, w)
      | _ => none) else none
    | .lor => if len = 1 then (match st with
      | .long y :: .long x :: r => some (pc + 1, lv, .long (x ||| y) :: r, w)
      | _ => none) else none
    | .lshl => if len = 1 then (match st with
      | .int y :: .long x :: r => some (pc + 1, lv, .long (x <<< (y.toInt64 &&& 63)) :: r, w)
      | _ => none) else none
    | .lcmp => if len = 1 then (match st with
      | .long y :: .long x :: r => some (pc + 1, lv, .int (lg_cmp x y) :: r, w)
      | _ => none) else none
    | .dup => if len = 1 then (match st with
      | v :: r => if v.category = 1 then some (pc + 1, lv, v :: v :: r, w) else none
      | _ => none) else none
    | .pop => if len = 1 then (match st with
      | v :: r => if v.category = 1 then some (pc + 1, lv, r, w) else none
      | _ => none) else none
    | .dup2 => if len = 1 then (match st with
      | v :: u :: r => if v.category = 1 ∧ u.category = 1 then some (pc + 1, lv, v :: u :: v :: u :: r, w) else none
      | _ => none) else none
    | .ifCond c off => if len = 3 then (match st with
      | .int x :: r => (match pi_tgt pc off with
        | none => none
        | some t => if pi_cmp c x 0 = true then some (t, lv, r, w) else some (pc + 3, lv, r, w))
      | _ => none) else none
    | .if_icmp c off => if len = 3 then (match st with
      | .int y :: .int x :: r => (match pi_tgt pc off with
        | none => none
        | some t => if pi_cmp c x y = true then some (t, lv, r, w) else some (pc + 3, lv, r, w))
      | _ => none) else none
    | .goto off => if len = 3 then pi_jump (pi_tgt pc off) lv st w else none
    | .tableswitch dflt lo hi offs => (match st with
      | .int x :: r => if x.toInt < lo ∨ hi < x.toInt then pi_jump (pi_tgt pc dflt) lv r w else (match offs[(x.toInt - lo).toNat]? with
        | some off => pi_jump (pi_tgt pc off) lv r w
        | none => none)
      | _ => none)
    | .lookupswitch dflt ps => (match st with
      | .int x :: r => if (ps.toList.zip (ps.toList.drop 1)).all (fun (a, next) => a.1 < next.1) = true then pi_jump (pi_tgt pc (Op.lookupswitch.offset ps.toList dflt x.toInt)) lv r w else none
      | _ => none)
    | .iaload => if len = 1 then (match st with
      | .int i :: .ref a :: r => (match w[a]? with
        | some (.inl (0, n, .inl f)) => if i < 0 ∨ n ≤ i.toNatClampNeg then none else some (pc + 1, lv, .int (f i.toNatClampNeg) :: r, w)
        | _ => none)
      | _ => none) else none
    | .baload => if len = 1 then (match st with
      | .int i :: .ref a :: r => (match w[a]? with
        | some (.inl (1, n, .inl f)) => if i < 0 ∨ n ≤ i.toNatClampNeg then none else some (pc + 1, lv, .int (f i.toNatClampNeg) :: r, w)
        | some (.inl (3, n, .inl f)) => if i < 0 ∨ n ≤ i.toNatClampNeg then none else some (pc + 1, lv, .int (f i.toNatClampNeg) :: r, w)
        | _ => none)
      | _ => none) else none
    | .laload => if len = 1 then (match st with
      | .int i :: .ref a :: r => (match w[a]? with
        | some (.inl (2, n, .inr (.inl f))) => if i < 0 ∨ n ≤ i.toNatClampNeg then none else some (pc + 1, lv, .long (f i.toNatClampNeg) :: r, w)
        | _ => none)
      | _ => none) else none
    | .iastore => if len = 1 then (match st with
      | .int x :: .int i :: .ref a :: r => (match w[a]? with
        | some (.inl (0, n, .inl f)) => if i < 0 ∨ n ≤ i.toNatClampNeg then none else some (pc + 1, lv, r, w.set a (.inl (0, n, .inl (upd f i.toNatClampNeg x))))
        | _ => none)
      | _ => none) else none
    | .bastore => if len = 1 then (match st with
      | .int x :: .int i :: .ref a :: r => (match w[a]? with
        | some (.inl (1, n, .inl f)) => if i < 0 ∨ n ≤ i.toNatClampNeg then none else some (pc + 1, lv, r, w.set a (.inl (1, n, .inl (upd f i.toNatClampNeg (vp_nar .byte x)))))
        | some (.inl (3, n, .inl f)) => if i < 0 ∨ n ≤ i.toNatClampNeg then none else some (pc + 1, lv, r, w.set a (.inl (3, n, .inl (upd f i.toNatClampNeg (vp_nar .boolean x)))))
        | _ => none)
      | _ => none) else none
    | .lastore => if len = 1 then (match st with
      | .long x :: .int i :: .ref a :: r => (match w[a]? with
        | some (.inl (2, n, .inr (.inl f))) => if i < 0 ∨ n ≤ i.toNatClampNeg then none else some (pc + 1, lv, r, w.set a (.inl (2, n, .inr (.inl (vp_updL f i.toNatClampNeg x)))))
        | _ => none)
      | _ => none) else none
    | .arraylength => if len = 1 then (match st with
      | .ref a :: r => (match w[a]? with
        | some (.inl (t, x)) => if t < 4 then some (pc + 1, lv, .int (Int32.ofNat x.1) :: r, w) else none
        | _ => none)
      | _ => none) else none
    | .getfield cp => if len = 3 then (match st with
      | .ref a :: r => (match pi_look pi_fT own cp with
        | some (ci, k, _) => (match w[a]? with
          | some (.inr (c, fs)) => if c = ci then (match fs[k]? with
            | some v => some (pc + 3, lv, v :: r, w)
            | none => none) else none
          | _ => none)
        | none => none)
      | _ => none) else none
    | .putfield cp => if len = 3 then (match st with
      | v :: .ref a :: r => (match pi_look pi_fT own cp with
        | some (ci, k, _) => (match w[a]? with
          | some (.inr (c, fs)) => if c = ci ∧ k < fs.length ∧ narrow (pi_ty ci k) v = v ∧ fits (pi_ty ci k) v = true ∧ ((ini = true ∧ ci = own) ∨ (vwCl[ci]?.map (fun q => (q.2.1 k).2.2.2)) = some false) then some (pc + 3, lv, r, w.set a (.inr (ci, fs.set k v))) else none
          | _ => none)
        | none => none)
      | _ => none) else none
    | _ => none
def pi_wfV (n : Nat) (v : Value) : Bool := match v with
  | .ref a => decide (a < n) || a == pi_str
  | _ => true
def pi_wfL (n : Nat) (lv : pi_L) : Bool := lv.all (fun q => pi_wfV n q.2)
def pi_wfW (n : Nat) (w : pi_W) : Bool := w.all (fun e => match e with
  | .inl _ => true
  | .inr (_, fs) => fs.all (pi_wfV n))
def pi_wf (lv : pi_L) (st : List Value) (w : pi_W) : Bool := decide (w.length < pi_str) && pi_wfL w.length lv && st.all (pi_wfV w.length) && pi_wfW w.length w
def pi_dflt (ci N : Nat) : List Value := (List.range N).map (fun k => defaultValue (pi_ty ci k))
/-- new and newarray -/
def pi_new (own : Nat) (i : Instr) (len : Nat) (s : pi_S) : Option (pi_S × Nat) := match s with
  | (pc, lv, st, w) => match i with
    | .new k => if len = 3 ∧ pi_wf lv st w = true then (match pi_look pi_nT own k with
      | some (ci, _) => (match vwCl[ci]? with
        | some (_, _, N) => some ((pc + 3, lv, .ref w.length :: st, w ++ [.inr (ci, pi_dflt ci N)]), N)
        | none => none)
      | none => none) else none
    | .newarray t => if len = 2 ∧ pi_wf lv st w = true then (match st with
      | .int n :: r => if n < 0 ∨ 100000 < n.toNatClampNeg then none else (match t with
        | .int => some ((pc + 2, lv, .ref w.length :: r, w ++ [.inl (0, n.toNatClampNeg, .inl (fun _ => 0))]), n.toNatClampNeg)
        | .byte => some ((pc + 2, lv, .ref w.length :: r, w ++ [.inl (1, n.toNatClampNeg, .inl (fun _ => 0))]), n.toNatClampNeg)
        | .long => some ((pc + 2, lv, .ref w.length :: r, w ++ [.inl (2, n.toNatClampNeg, .inr (.inl (fun _ => 0)))]), n.toNatClampNeg)
        | .boolean => some ((pc + 2, lv, .ref w.length :: r, w ++ [.inl (3, n.toNatClampNeg, .inl (fun _ => 0))]), n.toNatClampNeg)
        | _ => none)
      | _ => none) else none
    | _ => none
def pi_bytes : List Int32 := ("place road deed law repeal man round clerk post goes does wears bares fevers posts rains day or and not blind free bound may in sight words did number".toList.map (fun c => Int32.ofNat c.toNat))
def pi_cats (st : List Value) : Nat := (st.map fun v => v.category).sum
/-- calls of methods that are no rows of the table -/
def pi_spec (kind : Nat) (s : pi_S) : Option pi_S := match s with
  | (pc, lv, st, w) => match kind with
    | 4 => (match st with
      | .ref _ :: r => if pi_cats r ≤ 8 then some (pc + 3, lv, r, w) else none
      | _ => none)
    | 5 => (match st with
      | .int n :: .int dp :: .ref a1 :: .int sp :: .ref a0 :: r => if pi_cats r ≤ 8 ∧ ¬ sp < 0 ∧ ¬ dp < 0 ∧ ¬ n < 0 then (match w[a0]?, w[a1]? with
        | some (.inl (0, n0, .inl f)), some (.inl (0, n1, .inl g)) => if sp.toNatClampNeg + n.toNatClampNeg ≤ n0 ∧ dp.toNatClampNeg + n.toNatClampNeg ≤ n1 then some (pc + 3, lv, r, w.set a1 (.inl (0, n1, .inl (va_cpy f g sp.toNatClampNeg dp.toNatClampNeg n.toNatClampNeg)))) else none
        | some (.inl (2, n0, .inr (.inl f))), some (.inl (2, n1, .inr (.inl g))) => if sp.toNatClampNeg + n.toNatClampNeg ≤ n0 ∧ dp.toNatClampNeg + n.toNatClampNeg ≤ n1 then some (pc + 3, lv, r, w.set a1 (.inl (2, n1, .inr (.inl (va_cpy f g sp.toNatClampNeg dp.toNatClampNeg n.toNatClampNeg))))) else none
        | _, _ => none) else none
      | _ => none)
    | 6 => (match st with
      | .ref a :: r => if a = pi_str ∧ pi_cats r ≤ 8 then some (pc + 3, lv, .int (Int32.ofNat pi_bytes.length) :: r, w) else none
      | _ => none)
    | 7 => (match st with
      | .int i :: .ref a :: r => if a = pi_str ∧ pi_cats r ≤ 8 ∧ ¬ (i < 0 ∨ pi_bytes.length ≤ i.toNatClampNeg) then some (pc + 3, lv, .int (pi_bytes.getD i.toNatClampNeg 0) :: r, w) else none
      | _ => none)
    | 8 => (match st with
      | .int y :: .int x :: r => if pi_cats r ≤ 8 then some (pc + 3, lv, .int (if y < x then y else x) :: r, w) else none
      | _ => none)
    | 9 => (match st with
      | .int y :: .int x :: r => if pi_cats r ≤ 8 then some (pc + 3, lv, .int (if x < y then y else x) :: r, w) else none
      | _ => none)
    | _ => none
def pi_fetch (tab : List (Nat × Instr × Nat)) (pc : Nat) : Option (Instr × Nat) := (tab.find? (fun q => q.1 == pc)).map (fun q => q.2)
/-- the ends of a method -/
def pi_end (ret : Option FieldType) (i : Instr) (len : Nat) (s : pi_S) : Option (Option Value) := match s with
  | (_, _, st, _) => match i with
    | .ireturn => if len = 1 then (match st, ret with
      | [.int v], some ty => if narrow ty (.int v) = .int v then some (some (.int v)) else none
      | _, _ => none) else none
    | .areturn => if len = 1 then (match st, ret with
      | [.ref a], some (.object _) => some (some (.ref a))
      | _, _ => none) else none
    | .return_ => if len = 1 then (match st, ret with
      | [], none => some none
      | _, _ => none) else none
    | _ => none
/-- which pool entry a call names, and which kinds it may be -/
def pi_inv (i : Instr) : Option (Nat × List Nat) := match i with
  | .invokestatic cp => some (cp, [0, 1, 5, 8, 9])
  | .invokevirtual cp => some (cp, [2, 6, 7])
  | .invokespecial cp => some (cp, [3, 4])
  | _ => none
def pi_isEnd (i : Instr) : Bool := match i with
  | .ireturn => true
  | .areturn => true
  | .return_ => true
  | _ => false
def pi_isNew (i : Instr) : Bool := match i with
  | .new _ => true
  | .newarray _ => true
  | _ => false
/-- may a method of class own be called here with these (receiver ahead)? -/
def pi_recv (kind ownz : Nat) (As : List Value) (w : pi_W) : Bool := match kind with
  | 0 => true
  | 1 => true
  | 2 => (match As with
    | .ref a :: _ => (match w[a]? with
      | some (.inr (c, _)) => c == ownz
      | _ => false)
    | _ => false)
  | 3 => (match As with
    | .ref _ :: _ => true
    | _ => false)
  | _ => false
/-- the arguments of a call (receiver ahead), and what stays on the stack -/
def pi_args (kind na : Nat) (mz : pi_M) (s : pi_S) : Option (List Value × List Value) :=
  let na' := if kind < 2 then na else na + 1
  let As := (s.2.2.1.take na').reverse
  let rest := s.2.2.1.drop na'
  if As.length = na' ∧ pi_cats rest ≤ 8 ∧ pi_recv kind mz.1 As s.2.2.2 = true ∧ (lg_sl As).length ≤ mz.2.1 ∧ mz.2.2.2.1 = (kind == 3) ∧ (kind ≠ 3 ∨ mz.2.2.1 = none) ∧ mz.2.1 ≤ 40 then some (As, rest) else none
/-- behind a call that made cells, the caller's own references must be old ones -/
def pi_keep (lv : pi_L) (rest : List Value) (w w' : pi_W) : Bool := w'.length == w.length || (pi_wfL w.length lv && rest.all (pi_wfV w.length))
def pi_run : Nat → Nat → pi_M → pi_S → Nat → Nat → Option pi_R
  | 0, _, _, _, _, _ => none
  | n + 1, d, mi, s, cu, su => match pi_fetch mi.2.2.2.2 s.1 with
    | none => none
    | some (i, len) =>
      if pi_isEnd i = true then (match pi_end mi.2.2.1 i len s with
        | none => none
        | some r => some (r, s.2.2.2, cu, su))
      else match pi_inv i with
      | some (cp, kinds) => (match pi_look pi_iT mi.1 cp with
        | none => none
        | some (kind, z, na, _) =>
          if kinds.contains kind = false ∨ len ≠ 3 then none
          else if 3 < kind then (if d < 5 ∧ (kind = 6 ∨ kind = 7) then none else match pi_spec kind s with
            | none => none
            | some s' => pi_run n d mi s' cu su)
          else (match d, pi_mt[z]? with
            | d' + 1, some (_, _, mz) => (match pi_args kind na mz s with
              | none => none
              | some (As, rest) => (match pi_run n d' mz (0, lv_args 0 As, [], s.2.2.2) 0 0 with
                | none => none
                | some (r, w', c', u') => if pi_keep s.2.1 rest s.2.2.2 w' = true then pi_run n d mi (s.1 + 3, s.2.1, r.toList ++ rest, w') (cu + c') (su + u') else none))
            | _, _ => none))
      | none => if pi_isNew i = true then (match pi_new mi.1 i len s with
          | none => none
          | some (s', k) => pi_run n d mi s' (cu + 1) (su + k))
        else (match pi_step mi.1 mi.2.2.2.1 mi.2.1 i len s with
          | none => none
          | some s' => pi_run n d mi s' cu su)
