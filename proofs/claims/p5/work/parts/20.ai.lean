/-! ===== AN ABSTRACT INTERPRETER over the pure one: ints are forms (a constant and variables), variables have bounds, cells have a shape ===== -/
abbrev af_F : Type := Int × List Nat
/-- an int, a reference, a long -/
abbrev af_V : Type := af_F ⊕ (Nat ⊕ Unit)
/-- bounds of variables; (u, v, d): u is at least d more than v; (v, c, f): v was read in row c at place f -/
abbrev af_N : Type := List (Nat × Int × Int) × List (Nat × Nat × Int) × List (Nat × Nat × af_F)
abbrev af_L : Type := List (Nat × af_V)
abbrev af_T : Type := List ((Nat × Nat) × af_F)
/-- next variable, locals, stack, slots whose value is known, bounds -/
abbrev af_S : Type := Nat × af_L × List af_V × af_T × af_N
/-- a cell's shape: array (type, length, bounds by segments), or object (class, fields: reference, int with bounds, long) -/
abbrev af_C : Type := (Nat × Nat × List (Nat × Int × Int)) ⊕ (Nat × List (Nat ⊕ (Int × Int) ⊕ Unit))
abbrev af_H : Type := List af_C
/-- what may be written: cell, from, to (not included) -/
abbrev af_M : Type := List (Nat × Nat × Nat)
def af_lo : Int := -2147483648
def af_hi : Int := 2147483647
def af_lookL : List (Nat × Int × Int) → Nat → Option (Int × Int)
  | [], _ => none
  | (u, q) :: N, v => if u == v then some q else af_lookL N v
def af_look (N : af_N) (v : Nat) : Option (Int × Int) := af_lookL N.1 v
def af_bn (v : Nat) (lo hi : Int) (N : af_N) : af_N := ((v, lo, hi) :: N.1, N.2)
def af_ivs (N : af_N) : List Nat → Option (Int × Int)
  | [] => some (0, 0)
  | v :: vs => match af_look N v with
    | none => none
    | some (a, b) => match af_ivs N vs with
      | none => none
      | some (c, d) => some (a + c, b + d)
def af_iv (N : af_N) (f : af_F) : Option (Int × Int) := match af_ivs N f.2 with
  | none => none
  | some (a, b) => some (a + f.1, b + f.1)
def af_seg : List (Nat × Int × Int) → Nat → Option (Int × Int)
  | [], _ => none
  | (e, q) :: S, i => if i < e then some q else af_seg S i
/-- bounds over the places a to b -/
def af_join : List (Nat × Int × Int) → Nat → Nat → Option (Int × Int)
  | [], _, _ => none
  | (e, l, h) :: S, a, b => if e ≤ a then af_join S a b else if b < e then some (l, h) else match af_join S e b with
    | none => none
    | some (l2, h2) => some (if l ≤ l2 then l else l2, if h2 ≤ h then h else h2)
/-- may a value within lo, hi be put at each place a to b? -/
def af_fitS : List (Nat × Int × Int) → Nat → Nat → Int → Int → Bool
  | [], _, _, _, _ => false
  | (e, l, h) :: S, a, b, lo, hi => if e ≤ a then af_fitS S a b lo hi else decide (l ≤ lo) && (decide (hi ≤ h) && (if b < e then true else af_fitS S e b lo hi))
def af_cov (M : af_M) (c a b : Nat) : Bool := M.any (fun q => q.1 == c && (Nat.ble q.2.1 a && Nat.blt b q.2.2))
/-- the outcome of an operation: a form, or bounds -/
abbrev af_R : Type := af_F ⊕ (Int × Int)
def af_full : af_R := .inr (af_lo, af_hi)
def af_rng (lo hi : Int) : af_R := if af_lo ≤ lo ∧ hi ≤ af_hi then .inr (lo, hi) else af_full
def af_put (pc n : Nat) (L : af_L) (st : List af_V) (T : af_T) (N : af_N) (r : af_R) : List (Nat × af_S) := match r with
  | .inl f => [(pc, n, L, .inl f :: st, T, N)]
  | .inr (lo, hi) => [(pc, n + 1, L, .inl (0, [n]) :: st, T, af_bn n lo hi N)]
def af_add (N : af_N) (f g : af_F) : af_R := match af_iv N f, af_iv N g with
  | some (a, b), some (c, d) => if af_lo ≤ a + c ∧ b + d ≤ af_hi then (if f.2.length + g.2.length ≤ 4 then .inl (f.1 + g.1, f.2 ++ g.2) else .inr (a + c, b + d)) else af_full
  | _, _ => af_full
def af_erase : List Nat → Nat → Option (List Nat)
  | [], _ => none
  | u :: us, v => if u == v then some us else match af_erase us v with
    | none => none
    | some us' => some (u :: us')
def af_diff : List Nat → List Nat → Option (List Nat)
  | us, [] => some us
  | us, v :: vs => match af_erase us v with
    | none => none
    | some us' => af_diff us' vs
/-- f less g, where the variables of g are among those of f -/
def af_less (f g : af_F) : Option af_F := match af_diff f.2 g.2 with
  | none => none
  | some us => some (f.1 - g.1, us)
def af_subt (N : af_N) (f g : af_F) : af_R := match af_iv N f, af_iv N g with
  | some (a, b), some (c, d) => if af_lo ≤ a - d ∧ b - c ≤ af_hi then (match af_less f g with
    | some k => .inl k
    | none => .inr (a - d, b - c)) else af_full
  | _, _ => af_full
def af_min4 (a b c d : Int) : Int := let x := if a ≤ b then a else b; let y := if c ≤ d then c else d; if x ≤ y then x else y
def af_max4 (a b c d : Int) : Int := let x := if a ≤ b then b else a; let y := if c ≤ d then d else c; if x ≤ y then y else x
def af_mul (N : af_N) (f g : af_F) : af_R := match af_iv N f, af_iv N g with
  | some (a, b), some (c, d) => if a = b ∧ c = d ∧ af_lo ≤ a * c ∧ a * c ≤ af_hi then .inl (a * c, []) else af_rng (af_min4 (a * c) (a * d) (b * c) (b * d)) (af_max4 (a * c) (a * d) (b * c) (b * d))
  | _, _ => af_full
def af_and (N : af_N) (f g : af_F) : af_R := match af_iv N f, af_iv N g with
  | some (a, b), some (c, d) => if 0 ≤ c then (if 0 ≤ a then .inr (0, if b ≤ d then b else d) else .inr (0, d)) else if 0 ≤ a then .inr (0, b) else af_full
  | _, _ => af_full
/-- none: it may be a division by 0 -/
def af_rem (N : af_N) (f g : af_F) : Option af_R := match af_iv N f, af_iv N g with
  | some (a, b), some (c, d) => if 0 < c then (if 0 ≤ a then some (.inr (0, if b ≤ d - 1 then b else d - 1)) else some af_full) else none
  | _, _ => none
def af_ushr (N : af_N) (g : af_F) : af_R := match af_iv N g with
  | some (c, d) => if c = 8 ∧ d = 8 then .inr (0, 16777215) else af_full
  | none => af_full
/-- f is within lo, hi: none where it can't be -/
def af_clip (N : af_N) (f : af_F) (lo hi : Int) : Option af_N := match af_iv N f with
  | none => some N
  | some (a, b) => if hi < a ∨ b < lo then none else if lo ≤ a ∧ b ≤ hi then some N else match f.2 with
    | [v] => some (af_bn v ((if lo ≤ a then a else lo) - f.1) ((if b ≤ hi then b else hi) - f.1) N)
    | _ => some N
def af_two (N : af_N) (f : af_F) (lo hi : Int) (g : af_F) (lo2 hi2 : Int) : Option af_N := match af_clip N f lo hi with
  | none => none
  | some N1 => af_clip N1 g lo2 hi2
/-- the bounds where the comparison holds; none: it can't -/
def af_cmp (N : af_N) (cd : ClassFile.Cond) (f g : af_F) : Option af_N := match af_iv N f, af_iv N g with
  | some (a, b), some (c, d) => (match cd with
    | .eq => af_two N f c d g a b
    | .ne => if c = d then (if a = c then af_clip N f (c + 1) b else if b = c then af_clip N f a (c - 1) else some N) else if a = b then (if c = a then af_clip N g (a + 1) d else if d = a then af_clip N g c (a - 1) else some N) else some N
    | .lt => af_two N f a (d - 1) g (a + 1) d
    | .ge => af_two N f c b g c b
    | .gt => af_two N f (c + 1) b g c (b - 1)
    | .le => af_two N f a d g a d)
  | _, _ => some N
def af_neg (cd : ClassFile.Cond) : ClassFile.Cond := match cd with
  | .eq => .ne
  | .ne => .eq
  | .lt => .ge
  | .ge => .lt
  | .gt => .le
  | .le => .gt
def af_br (N : af_N) (cd : ClassFile.Cond) (f g : af_F) (t pc n : Nat) (L : af_L) (st : List af_V) (T : af_T) : List (Nat × af_S) :=
  (match af_cmp N cd f g with
  | none => []
  | some N1 => [(t, n, L, st, T, N1)]) ++ (match af_cmp N (af_neg cd) f g with
  | none => []
  | some N1 => [(pc, n, L, st, T, N1)])
def af_getL : af_L → Nat → Option af_V
  | [], _ => none
  | (j, v) :: L, i => if j == i then some v else af_getL L i
def af_isLong (v : af_V) : Bool := match v with
  | .inr (.inr _) => true
  | _ => false
def af_setL (L : af_L) (i : Nat) (v : af_V) : af_L := (i, v) :: L.filter (fun q => !(q.1 == i) && !(q.1 + 1 == i && af_isLong q.2))
def af_getT : af_T → Nat → Nat → Option af_F
  | [], _, _ => none
  | ((c, j), f) :: T, a, i => if c == a && j == i then some f else af_getT T a i
/-- a place that is none of the world's: the sign at which the model's reader stands (a function of cells 61 and 62) -/
def af_virt : Nat := 1000
/-- does what may be written here touch that sign? -/
def af_dep (c a b : Nat) : Bool := c == 62 || (c == 61 && (Nat.ble a 4 && Nat.ble 3 b))
/-- forget what is known of the places a to b of cell c -/
def af_drop (T : af_T) (c a b : Nat) : af_T := T.filter (fun q => !(q.1.1 == c && (Nat.ble a q.1.2 && Nat.ble q.1.2 b)) && !(q.1.1 == af_virt && af_dep c a b))
/-- a read of one place: what is known, or a new variable that is known from now on -/
def af_read (NT : af_M) (pc n : Nat) (L : af_L) (st : List af_V) (T : af_T) (N : af_N) (c i : Nat) (lo hi : Int) : List (Nat × af_S) := match af_getT T c i with
  | some f => [(pc, n, L, .inl f :: st, T, N)]
  | none => if af_cov NT c i i = true then af_put pc n L st T N (.inr (lo, hi)) else [(pc, n + 1, L, .inl (0, [n]) :: st, ((c, i), (0, [n])) :: T, af_bn n lo hi N)]
/-- the places that an index may name: within n -/
def af_idx (N : af_N) (f : af_F) (n : Nat) : Option (Nat × Nat) := match af_iv N f with
  | some (a, b) => if 0 ≤ a ∧ b < n then some (a.toNat, b.toNat) else none
  | none => none
/-- a read of one of several places -/
def af_putO (pc n : Nat) (L : af_L) (st : List af_V) (T : af_T) (N : af_N) (lo hi : Int) (a : Nat) (f : af_F) : List (Nat × af_S) := [(pc, n + 1, L, .inl (0, [n]) :: st, T, ((n, lo, hi) :: N.1, N.2.1, (n, a, f) :: N.2.2))]
def af_olook : List (Nat × Nat × af_F) → Nat → Option (Nat × af_F)
  | [], _ => none
  | (u, q) :: O, v => if u == v then some q else af_olook O v
def af_shf (Sc S : List (Nat × Int × Int)) (k : Int) : Nat → Nat → Bool
  | 0, _ => true
  | c + 1, j => (if 0 ≤ (j : Int) + k then (match af_seg Sc ((j : Int) + k).toNat with
      | none => false
      | some p => match af_seg S j with
        | none => false
        | some q => decide (q.1 ≤ p.1) && decide (p.2 ≤ q.2)) else false) && af_shf Sc S k c (j + 1)
/-- a value that was read in a row of the same bounds -/
def af_orig (Sh : af_H) (N : af_N) (g : af_F) (S : List (Nat × Int × Int)) (f : af_F) (x y : Nat) : Bool := match g with
  | (0, [v]) => (match af_olook N.2.2 v with
    | none => false
    | some (c, h) => (match af_less h f with
      | some (k, []) => (match Sh[c]? with
        | some (.inl (0, _, Sc)) => af_shf Sc S k (y + 1 - x) x
        | _ => false)
      | _ => false))
  | _ => false
def af_tsw (pc n : Nat) (L : af_L) (st : List af_V) (T : af_T) (N : af_N) (f : af_F) : Int → List Int → Option (List (Nat × af_S))
  | _, [] => some []
  | k, off :: offs => match af_tsw pc n L st T N f (k + 1) offs with
    | none => none
    | some R => match af_clip N f k k with
      | none => some R
      | some N1 => match pi_tgt pc off with
        | none => none
        | some t => some ((t, n, L, st, T, N1) :: R)
def af_one (t : Option Nat) (n : Nat) (L : af_L) (st : List af_V) (T : af_T) (N1 : Option af_N) : Option (List (Nat × af_S)) := match N1 with
  | none => some []
  | some N1 => match t with
    | none => none
    | some t => some [(t, n, L, st, T, N1)]
def af_app3 (a b c : Option (List (Nat × af_S))) : Option (List (Nat × af_S)) := match a, b, c with
  | some x, some y, some z => some (x ++ (y ++ z))
  | _, _, _ => none
def af_lsw (pc n : Nat) (L : af_L) (st : List af_V) (T : af_T) (N : af_N) (f : af_F) : List (Int × Int) → Option (List (Nat × af_S))
  | [] => some []
  | (k, off) :: ps => match af_lsw pc n L st T N f ps with
    | none => none
    | some R => match af_clip N f k k with
      | none => some R
      | some N1 => match pi_tgt pc off with
        | none => none
        | some t => some ((t, n, L, st, T, N1) :: R)
def af_step (own nL : Nat) (Sh : af_H) (M NT : af_M) (i : Instr) (len pc : Nat) (σ : af_S) : Option (List (Nat × af_S)) := match σ with
  | (n, L, st, T, N) => match i with
    | .iconst k => if len = 1 ∧ af_lo ≤ k ∧ k ≤ af_hi then some [(pc + 1, n, L, .inl (k, []) :: st, T, N)] else none
    | .bipush k => if len = 2 ∧ -128 ≤ k ∧ k ≤ 127 then some [(pc + 2, n, L, .inl (k, []) :: st, T, N)] else none
    | .sipush k => if len = 3 ∧ -32768 ≤ k ∧ k ≤ 32767 then some [(pc + 3, n, L, .inl (k, []) :: st, T, N)] else none
    | .lconst _ => if len = 1 then some [(pc + 1, n, L, .inr (.inr ()) :: st, T, N)] else none
    | .ldc k => if len = 2 then (match pi_look pi_lT own k with
      | some (v, _) => some [(pc + 2, n, L, .inl (v.toInt, []) :: st, T, N)]
      | none => none) else none
    | .ldc_w k => if len = 3 then (match pi_look pi_lT own k with
      | some (v, _) => some [(pc + 3, n, L, .inl (v.toInt, []) :: st, T, N)]
      | none => none) else none
    | .ldc2_w k => if len = 3 then (match pi_look pi_qT own k with
      | some _ => some [(pc + 3, n, L, .inr (.inr ()) :: st, T, N)]
      | none => none) else none
    | .iload k => if len = 2 then (match af_getL L k with
      | some (.inl f) => some [(pc + 2, n, L, .inl f :: st, T, N)]
      | _ => none) else none
    | .iload_n k => if len = 1 then (match af_getL L (k : Nat) with
      | some (.inl f) => some [(pc + 1, n, L, .inl f :: st, T, N)]
      | _ => none) else none
    | .lload_n k => if len = 1 then (match af_getL L (k : Nat) with
      | some (.inr (.inr _)) => some [(pc + 1, n, L, .inr (.inr ()) :: st, T, N)]
      | _ => none) else none
    | .aload_n k => if len = 1 then (match af_getL L (k : Nat) with
      | some (.inr (.inl a)) => some [(pc + 1, n, L, .inr (.inl a) :: st, T, N)]
      | _ => none) else none
    | .istore k => if len = 2 ∧ k < nL then (match st with
      | .inl f :: r => some [(pc + 2, n, af_setL L k (.inl f), r, T, N)]
      | _ => none) else none
    | .istore_n k => if len = 1 ∧ (k : Nat) < nL then (match st with
      | .inl f :: r => some [(pc + 1, n, af_setL L (k : Nat) (.inl f), r, T, N)]
      | _ => none) else none
    | .iinc k j => if len = 3 ∧ k < nL ∧ -32768 ≤ j ∧ j ≤ 32767 then (match af_getL L k with
      | some (.inl f) => (match af_add N f (j, []) with
        | .inl g => some [(pc + 3, n, af_setL L k (.inl g), st, T, N)]
        | .inr (lo, hi) => some [(pc + 3, n + 1, af_setL L k (.inl (0, [n])), st, T, af_bn n lo hi N)])
      | _ => none) else none
    | .iadd => if len = 1 then (match st with
      | .inl g :: .inl f :: r => some (af_put (pc + 1) n L r T N (af_add N f g))
      | _ => none) else none
    | .isub => if len = 1 then (match st with
      | .inl g :: .inl f :: r => some (af_put (pc + 1) n L r T N (af_subt N f g))
      | _ => none) else none
    | .imul => if len = 1 then (match st with
      | .inl g :: .inl f :: r => some (af_put (pc + 1) n L r T N (af_mul N f g))
      | _ => none) else none
    | .iand => if len = 1 then (match st with
      | .inl g :: .inl f :: r => some (af_put (pc + 1) n L r T N (af_and N f g))
      | _ => none) else none
    | .ior => if len = 1 then (match st with
      | .inl _ :: .inl _ :: r => some (af_put (pc + 1) n L r T N af_full)
      | _ => none) else none
    | .ixor => if len = 1 then (match st with
      | .inl _ :: .inl _ :: r => some (af_put (pc + 1) n L r T N af_full)
      | _ => none) else none
    | .ishl => if len = 1 then (match st with
      | .inl _ :: .inl _ :: r => some (af_put (pc + 1) n L r T N af_full)
      | _ => none) else none
    | .ishr => if len = 1 then (match st with
      | .inl _ :: .inl _ :: r => some (af_put (pc + 1) n L r T N af_full)
      | _ => none) else none
    | .iushr => if len = 1 then (match st with
      | .inl g :: .inl _ :: r => some (af_put (pc + 1) n L r T N (af_ushr N g))
      | _ => none) else none
    | .irem => if len = 1 then (match st with
      | .inl g :: .inl f :: r => (match af_rem N f g with
        | none => none
        | some q => some (af_put (pc + 1) n L r T N q))
      | _ => none) else none
    | .i2b => if len = 1 then (match st with
      | .inl _ :: r => some (af_put (pc + 1) n L r T N (.inr (-128, 127)))
      | _ => none) else none
    | .i2l => if len = 1 then (match st with
      | .inl _ :: r => some [(pc + 1, n, L, .inr (.inr ()) :: r, T, N)]
      | _ => none) else none
    | .ladd => if len = 1 then (match st with
      | .inr (.inr _) :: .inr (.inr _) :: r => some [(pc + 1, n, L, .inr (.inr ()) :: r, T, N)]
      | _ => none) else none
    | .lmul => if len = 1 then (match st with
      | .inr (.inr _) :: .inr (.inr _) :: r => some [(pc + 1, n, L, .inr (.inr ()) :: r, T, N)]
      | _ => none) else none
    | .lor => if len = 1 then (match st with
      | .inr (.inr _) :: .inr (.inr _) :: r => some [(pc + 1, n, L, .inr (.inr ()) :: r, T, N)]
      | _ => none) else none
    | .lshl => if len = 1 then (match st with
      | .inl _ :: .inr (.inr _) :: r => some [(pc + 1, n, L, .inr (.inr ()) :: r, T, N)]
      | _ => none) else none
    | .lcmp => if len = 1 then (match st with
      | .inr (.inr _) :: .inr (.inr _) :: r => some (af_put (pc + 1) n L r T N (.inr (-1, 1)))
      | _ => none) else none
    | .dup => if len = 1 then (match st with
      | .inl f :: r => some [(pc + 1, n, L, .inl f :: .inl f :: r, T, N)]
      | .inr (.inl a) :: r => some [(pc + 1, n, L, .inr (.inl a) :: .inr (.inl a) :: r, T, N)]
      | _ => none) else none
    | .pop => if len = 1 then (match st with
      | .inl _ :: r => some [(pc + 1, n, L, r, T, N)]
      | .inr (.inl _) :: r => some [(pc + 1, n, L, r, T, N)]
      | _ => none) else none
    | .dup2 => if len = 1 then (match st with
      | .inl f :: .inr (.inl a) :: r => some [(pc + 1, n, L, .inl f :: .inr (.inl a) :: .inl f :: .inr (.inl a) :: r, T, N)]
      | _ => none) else none
    | .ifCond cd off => if len = 3 then (match st, pi_tgt pc off with
      | .inl f :: r, some t => some (af_br N cd f (0, []) t (pc + 3) n L r T)
      | _, _ => none) else none
    | .if_icmp cd off => if len = 3 then (match st, pi_tgt pc off with
      | .inl g :: .inl f :: r, some t => some (af_br N cd f g t (pc + 3) n L r T)
      | _, _ => none) else none
    | .goto off => if len = 3 then (match pi_tgt pc off with
      | some t => some [(t, n, L, st, T, N)]
      | none => none) else none
    | .tableswitch dflt lo hi offs => (match st with
      | .inl f :: r => if (offs.size : Int) = hi - lo + 1 then af_app3 (af_tsw pc n L r T N f lo offs.toList) (af_one (pi_tgt pc dflt) n L r T (af_clip N f af_lo (lo - 1))) (af_one (pi_tgt pc dflt) n L r T (af_clip N f (hi + 1) af_hi)) else none
      | _ => none)
    | .lookupswitch dflt ps => (match st with
      | .inl f :: r => if (ps.toList.zip (ps.toList.drop 1)).all (fun (a, next) => a.1 < next.1) = true then af_app3 (af_lsw pc n L r T N f ps.toList) (af_one (pi_tgt pc dflt) n L r T (some N)) (some []) else none
      | _ => none)
    | .iaload => if len = 1 then (match st with
      | .inl f :: .inr (.inl a) :: r => (match Sh[a]? with
        | some (.inl (0, m, S)) => (match af_idx N f m with
          | none => none
          | some (x, y) => if x = y then (match af_seg S x with
            | none => none
            | some (lo, hi) => some (af_read NT (pc + 1) n L r T N a x lo hi)) else (match af_join S x y with
            | none => none
            | some (lo, hi) => some (af_putO (pc + 1) n L r T N lo hi a f)))
        | _ => none)
      | _ => none) else none
    | .baload => if len = 1 then (match st with
      | .inl f :: .inr (.inl a) :: r => (match Sh[a]? with
        | some (.inl (t, m, S)) => if t = 1 ∨ t = 3 then (match af_idx N f m with
          | none => none
          | some (x, y) => if x = y then (match af_seg S x with
            | none => none
            | some (lo, hi) => some (af_read NT (pc + 1) n L r T N a x lo hi)) else (match af_join S x y with
            | none => none
            | some (lo, hi) => some (af_put (pc + 1) n L r T N (.inr (lo, hi))))) else none
        | _ => none)
      | _ => none) else none
    | .laload => if len = 1 then (match st with
      | .inl f :: .inr (.inl a) :: r => (match Sh[a]? with
        | some (.inl (2, m, _)) => (match af_idx N f m with
          | none => none
          | some _ => some [(pc + 1, n, L, .inr (.inr ()) :: r, T, N)])
        | _ => none)
      | _ => none) else none
    | .iastore => if len = 1 then (match st with
      | .inl g :: .inl f :: .inr (.inl a) :: r => (match Sh[a]? with
        | some (.inl (0, m, S)) => (match af_idx N f m, af_iv N g with
          | some (x, y), some (lo, hi) => if (af_fitS S x y lo hi = true ∨ af_orig Sh N g S f x y = true) ∧ af_cov M a x y = true then some [(pc + 1, n, L, r, if x = y ∧ af_cov NT a x x = false then ((a, x), g) :: af_drop T a x y else af_drop T a x y, N)] else none
          | _, _ => none)
        | _ => none)
      | _ => none) else none
    | .bastore => if len = 1 then (match st with
      | .inl g :: .inl f :: .inr (.inl a) :: r => (match Sh[a]? with
        | some (.inl (1, m, S)) => (match af_idx N f m with
          | some (x, y) => if af_fitS S x y (-128) 127 = true ∧ af_cov M a x y = true then some [(pc + 1, n, L, r, af_drop T a x y, N)] else none
          | _ => none)
        | some (.inl (3, m, S)) => (match af_idx N f m, af_iv N g with
          | some (x, y), some (lo, hi) => if af_fitS S x y lo hi = true ∧ 0 ≤ lo ∧ hi ≤ 1 ∧ af_cov M a x y = true then some [(pc + 1, n, L, r, if x = y ∧ af_cov NT a x x = false then ((a, x), g) :: af_drop T a x y else af_drop T a x y, N)] else none
          | _, _ => none)
        | _ => none)
      | _ => none) else none
    | .lastore => if len = 1 then (match st with
      | .inr (.inr _) :: .inl f :: .inr (.inl a) :: r => (match Sh[a]? with
        | some (.inl (2, m, _)) => (match af_idx N f m with
          | some (x, y) => if af_cov M a x y = true then some [(pc + 1, n, L, r, T, N)] else none
          | none => none)
        | _ => none)
      | _ => none) else none
    | .arraylength => if len = 1 then (match st with
      | .inr (.inl a) :: r => (match Sh[a]? with
        | some (.inl (_, m, _)) => if (m : Int) ≤ af_hi then some [(pc + 1, n, L, .inl ((m : Int), []) :: r, T, N)] else none
        | _ => none)
      | _ => none) else none
    | .getfield cp => if len = 3 then (match st with
      | .inr (.inl a) :: r => (match pi_look pi_fT own cp with
        | some (ci, k, _) => (match Sh[a]? with
          | some (.inr (c, fts)) => if c = ci then (match fts[k]? with
            | some (.inl b) => some [(pc + 3, n, L, .inr (.inl b) :: r, T, N)]
            | some (.inr (.inl (lo, hi))) => some (af_read NT (pc + 3) n L r T N a k lo hi)
            | some (.inr (.inr _)) => some [(pc + 3, n, L, .inr (.inr ()) :: r, T, N)]
            | none => none) else none
          | _ => none)
        | none => none)
      | _ => none) else none
    | .putfield cp => if len = 3 then (match st with
      | .inl g :: .inr (.inl a) :: r => (match pi_look pi_fT own cp with
        | some (ci, k, _) => (match Sh[a]?, af_iv N g with
          | some (.inr (c, fts)), some (lo, hi) => if c = ci ∧ (vwCl[ci]?.map (fun q => (q.2.1 k).2.2.2)) = some false ∧ af_cov M a k k = true then (match fts[k]? with
            | some (.inr (.inl (l, h))) => if l ≤ lo ∧ hi ≤ h ∧ (pi_ty ci k = .int ∨ (pi_ty ci k = .boolean ∧ l = 0 ∧ h = 1)) then some [(pc + 3, n, L, r, ((a, k), g) :: af_drop T a k k, N)] else none
            | _ => none) else none
          | _, _ => none)
        | none => none)
      | .inr (.inr _) :: .inr (.inl a) :: r => (match pi_look pi_fT own cp with
        | some (ci, k, _) => (match Sh[a]? with
          | some (.inr (c, fts)) => if c = ci ∧ (vwCl[ci]?.map (fun q => (q.2.1 k).2.2.2)) = some false ∧ af_cov M a k k = true ∧ pi_ty ci k = .long then (match fts[k]? with
            | some (.inr (.inr _)) => some [(pc + 3, n, L, r, T, N)]
            | _ => none) else none
          | _ => none)
        | none => none)
      | _ => none) else none
    | _ => none
