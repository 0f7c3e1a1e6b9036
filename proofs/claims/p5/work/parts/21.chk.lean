/-! ===== patterns, contracts, cuts: the checker ===== -/
/-- next variable, values, slots, bounds -/
abbrev af_Q : Type := Nat × List af_V × af_T × af_N
/-- a contract: the method's number, how many variables are of its start, its start, what it may write, its ends -/
abbrev af_K : Type := Nat × Nat × af_Q × af_M × List af_Q
abbrev af_X : Type := List (Nat × af_F)
/-- a measure: constant, sign (0: none, 1: less the form, 2: and the form), form -/
abbrev af_U : Type := List (Int × Nat × af_F)
def af_thk : af_X → Nat → Option af_F
  | [], _ => none
  | (u, f) :: θ, v => if u == v then some f else af_thk θ v
def af_th (E : Nat) (θ : af_X) (v : Nat) : Option af_F := if v < E then some (0, [v]) else af_thk θ v
def af_inst (E n : Nat) (θ : af_X) (v : Nat) : Option af_F := if v < E then af_thk θ v else some (0, [n + (v - E)])
def af_sbs (g : Nat → Option af_F) : List Nat → Option af_F
  | [] => some (0, [])
  | v :: vs => match g v with
    | none => none
    | some f => match af_sbs g vs with
      | none => none
      | some h => some (f.1 + h.1, f.2 ++ h.2)
def af_sb (g : Nat → Option af_F) (f : af_F) : Option af_F := match af_sbs g f.2 with
  | none => none
  | some h => some (f.1 + h.1, h.2)
def af_m1 (E : Nat) (θ : af_X) (p c : af_F) : Option af_X := match p.2.filter (fun v => (af_th E θ v).isNone) with
  | [] => (match af_sb (af_th E θ) p with
    | none => none
    | some f => (match af_less c f with
      | some (0, []) => some θ
      | _ => none))
  | [u] => (match af_erase p.2 u with
    | none => none
    | some us => (match af_sb (af_th E θ) (p.1, us) with
      | none => none
      | some f => (match af_less c f with
        | none => none
        | some g => some ((u, g) :: θ))))
  | _ => none
def af_mv (E : Nat) (θ : af_X) (p c : af_V) : Option af_X := match p, c with
  | .inl f, .inl g => af_m1 E θ f g
  | .inr (.inl a), .inr (.inl b) => if a = b then some θ else none
  | .inr (.inr _), .inr (.inr _) => some θ
  | _, _ => none
def af_mvs (E : Nat) : af_X → List af_V → List af_V → Option af_X
  | θ, [], [] => some θ
  | θ, p :: ps, c :: cs => (match af_mv E θ p c with
    | none => none
    | some θ' => af_mvs E θ' ps cs)
  | _, _, _ => none
def af_mL (E : Nat) (L : af_L) : af_X → af_L → Option af_X
  | θ, [] => some θ
  | θ, (i, p) :: ps => (match af_getL L i with
    | none => none
    | some c => (match af_mv E θ p c with
      | none => none
      | some θ' => af_mL E L θ' ps))
def af_mT (E : Nat) (T : af_T) : af_X → af_T → Option af_X
  | θ, [] => some θ
  | θ, ((c, i), p) :: ps => (match af_getT T c i with
    | none => none
    | some g => (match af_m1 E θ p g with
      | none => none
      | some θ' => af_mT E T θ' ps))
def af_canc : List Nat → List Nat → List Nat × List Nat
  | us, [] => (us, [])
  | us, v :: vs => match af_erase us v with
    | some us' => af_canc us' vs
    | none => match af_canc us vs with
      | (a, b) => (a, v :: b)
/-- a bound from below of f less g -/
def af_dlook : List (Nat × Nat × Int) → Nat → Nat → Option Int
  | [], _, _ => none
  | (a, b, d) :: D, u, v => if a == u && b == v then some d else af_dlook D u v
def af_low2 (N : af_N) (k : Int) (us vs : List Nat) : Option Int := match af_ivs N us, af_ivs N vs with
  | some (a, _), some (_, d) => some (k + a - d)
  | _, _ => none
def af_low (N : af_N) (f g : af_F) : Option Int := match af_canc f.2 g.2 with
  | ([u], [v]) => (match af_dlook N.2.1 u v with
    | some d => some (f.1 - g.1 + d)
    | none => af_low2 N (f.1 - g.1) [u] [v])
  | (us, vs) => af_low2 N (f.1 - g.1) us vs
def af_mN (E : Nat) (θ : af_X) (N : af_N) (P : af_N) : Bool := P.1.all (fun q => match af_th E θ q.1 with
  | none => false
  | some f => match af_iv N f with
    | none => false
    | some (a, b) => decide (q.2.1 ≤ a) && decide (b ≤ q.2.2)) && P.2.2.isEmpty && P.2.1.all (fun q => match af_th E θ q.1 with
  | none => false
  | some f => match af_th E θ q.2.1 with
    | none => false
    | some g => match af_low N f g with
      | none => false
      | some d => decide (q.2.2 ≤ d))
/-- values, slots and bounds of a state against a pattern -/
def af_mQ (E : Nat) (vs : List af_V) (T : af_T) (N : af_N) (P : af_Q) : Option af_X := match af_mvs E [] P.2.1 vs with
  | none => none
  | some θ => match af_mT E T θ P.2.2.1 with
    | none => none
    | some θ' => if af_mN E θ' N P.2.2.2 = true then some θ' else none
/-- a state against a state's pattern -/
def af_mS (E : Nat) (σ P : af_S) : Option af_X := match af_mL E σ.2.1 [] P.2.1 with
  | none => none
  | some θ => match af_mvs E θ P.2.2.1 σ.2.2.1 with
    | none => none
    | some θ1 => match af_mT E σ.2.2.2.1 θ1 P.2.2.2.1 with
      | none => none
      | some θ2 => if af_mN E θ2 σ.2.2.2.2 P.2.2.2.2 = true then some θ2 else none
def af_pN (E n : Nat) (θ : af_X) : af_N → List (Nat × Int × Int) → Option (Option af_N)
  | N, [] => some (some N)
  | N, (v, lo, hi) :: P => if v < E then (match af_thk θ v with
      | none => none
      | some f => (match af_clip N f lo hi with
        | none => some none
        | some N1 => af_pN E n θ N1 P)) else af_pN E n θ (af_bn (n + (v - E)) lo hi N) P
def af_addD (u w : Nat) (d : Int) (N : af_N) : af_N := (N.1, (u, w, d) :: (N.2.1.filterMap (fun q => if q.1 == w then some (u, q.2.1, d + q.2.2) else none) ++ N.2.1), N.2.2)
def af_pD (g : Nat → Option af_F) : af_N → List (Nat × Nat × Int) → af_N
  | N, [] => N
  | N, (u, v, d) :: P => match g u, g v with
    | some (c1, [a]), some (c2, [b]) => af_pD g (af_addD a b (d + c2 - c1) N) P
    | _, _ => af_pD g N P
def af_pT (g : Nat → Option af_F) : af_T → Option af_T
  | [] => some []
  | (l, f) :: T => match af_sb g f with
    | none => none
    | some f' => match af_pT g T with
      | none => none
      | some T' => some ((l, f') :: T')
def af_pV (g : Nat → Option af_F) : List af_V → Option (List af_V)
  | [] => some []
  | .inl f :: vs => (match af_sb g f with
    | none => none
    | some f' => match af_pV g vs with
      | none => none
      | some vs' => some (.inl f' :: vs'))
  | .inr a :: vs => (match af_pV g vs with
    | none => none
    | some vs' => some (.inr a :: vs'))
/-- behind a call: one end of the contract -/
def af_keepT (K : af_M) (T : af_T) : af_T := T.filter (fun q => !(af_cov K q.1.1 q.1.2 q.1.2) && !(q.1.1 == af_virt && K.any (fun k => Nat.blt k.2.1 k.2.2 && af_dep k.1 k.2.1 (k.2.2 - 1))))
def af_post (E : Nat) (θ : af_X) (K : af_M) (pc n : Nat) (L : af_L) (st : List af_V) (T : af_T) (N : af_N) (P : af_Q) : Option (List (Nat × af_S)) := match af_pN E n θ N P.2.2.2.1 with
  | none => none
  | some none => some []
  | some (some N1) => match af_pV (af_inst E n θ) P.2.1 with
    | none => none
    | some vs => match af_pT (af_inst E n θ) P.2.2.1 with
      | none => none
      | some T1 => if E ≤ P.1 then some [(pc, n + (P.1 - E), L, vs ++ st, T1 ++ af_keepT K T, af_pD (af_inst E n θ) N1 P.2.2.2.2.1)] else none
def af_posts (E : Nat) (θ : af_X) (K : af_M) (pc n : Nat) (L : af_L) (st : List af_V) (T : af_T) (N : af_N) : List af_Q → Option (List (Nat × af_S))
  | [] => some []
  | P :: Ps => match af_post E θ K pc n L st T N P with
    | none => none
    | some R => match af_posts E θ K pc n L st T N Ps with
      | none => none
      | some R' => some (R ++ R')
/-- the bounds that the shape gives of a place -/
def af_bnd (Sh : af_H) (c i : Nat) : Option (Int × Int) := if c == af_virt then (if i == 0 then some (-1, 255) else none) else match Sh[c]? with
  | some (.inl (t, m, S)) => if t = 2 then none else if i < m then af_seg S i else none
  | some (.inr (_, fts)) => (match fts[i]? with
    | some (.inr (.inl q)) => some q
    | _ => none)
  | none => none
/-- places of a contract's start of which nothing is known: new variables -/
def af_mat (Sh : af_H) : af_T → Nat → af_T → af_N → Option (Nat × af_T × af_N)
  | [], n, T, N => some (n, T, N)
  | ((c, i), _) :: P, n, T, N => match af_getT T c i with
    | some _ => af_mat Sh P n T N
    | none => match af_bnd Sh c i with
      | none => none
      | some (lo, hi) => af_mat Sh P (n + 1) (((c, i), (0, [n])) :: T) (af_bn n lo hi N)
def af_find (Sh : af_H) (z : Nat) (As : List af_V) (n : Nat) (T : af_T) (N : af_N) : List af_K → Option (af_K × af_X × Nat × af_T × af_N)
  | [] => none
  | K :: Ks => if K.1 == z then (match af_mat Sh K.2.2.1.2.2.1 n T N with
      | none => af_find Sh z As n T N Ks
      | some (n1, T1, N1) => (match af_mQ 0 As T1 N1 K.2.2.1 with
        | some θ => some (K, θ, n1, T1, N1)
        | none => af_find Sh z As n T N Ks)) else af_find Sh z As n T N Ks
def af_covM (M K : af_M) : Bool := K.all (fun q => Nat.ble q.2.2 q.2.1 || af_cov M q.1 q.2.1 (q.2.2 - 1))
def af_vcats (st : List af_V) : Nat := (st.map fun v => if af_isLong v then 2 else 1).sum
def af_rcv (Sh : af_H) (own : Nat) (As : List af_V) : Bool := match As with
  | .inr (.inl a) :: _ => (match Sh[a]? with
    | some (.inr (c, _)) => c == own
    | _ => false)
  | _ => false
def af_call (own : Nat) (Sh : af_H) (M : af_M) (CT : List af_K) (kinds : List Nat) (cp len pc : Nat) (σ : af_S) : Option (List (Nat × af_S)) := match σ with
  | (n, L, st, T, N) => match pi_look pi_iT own cp with
    | none => none
    | some (kind, z, na, _) => if kinds.contains kind = false ∨ len ≠ 3 then none else match kind with
      | 5 => (match st with
        | .inl k :: .inl dp :: .inr (.inl a1) :: .inl sp :: .inr (.inl a0) :: r => (match af_iv N k, af_iv N dp, af_iv N sp with
          | some (k1, k2), some (d1, d2), some (s1, s2) => (match Sh[a0]?, Sh[a1]? with
            | some (.inl (t0, m0, S0)), some (.inl (t1, m1, S1)) => if 0 ≤ k1 ∧ 0 ≤ d1 ∧ 0 ≤ s1 ∧ s2 + k2 ≤ m0 ∧ d2 + k2 ≤ m1 ∧ t0 = t1 ∧ (t0 = 2 ∨ (t0 = 0 ∧ (S1 = [(m1, af_lo, af_hi)] ∨ (S0 = S1 ∧ s1 = s2 ∧ d1 = d2 ∧ s1 = d1)))) ∧ af_vcats r ≤ 8 ∧ 0 < m1 ∧ af_cov M a1 0 (m1 - 1) = true then some [(pc + 3, n, L, r, af_drop T a1 0 (m1 - 1), N)] else none
            | _, _ => none)
          | _, _, _ => none)
        | _ => none)
      | 8 => (match st with
        | .inl g :: .inl f :: r => (match af_iv N f, af_iv N g with
          | some (a, b), some (c, d) => if af_vcats r ≤ 8 then some (af_put (pc + 3) n L r T N (.inr (if a ≤ c then a else c, if b ≤ d then b else d))) else none
          | _, _ => none)
        | _ => none)
      | 9 => (match st with
        | .inl g :: .inl f :: r => (match af_iv N f, af_iv N g with
          | some (a, b), some (c, d) => if af_vcats r ≤ 8 then some (af_put (pc + 3) n L r T N (.inr (if a ≤ c then c else a, if b ≤ d then d else b))) else none
          | _, _ => none)
        | _ => none)
      | _ => if 2 < kind then none else
        let na' := if kind < 2 then na else na + 1
        let As := (st.take na').reverse
        let rest := st.drop na'
        if As.length = na' ∧ af_vcats rest ≤ 8 then (match pi_mt[z]? with
          | none => none
          | some (_, _, mz) => if (kind < 2 ∨ af_rcv Sh mz.1 As = true) ∧ af_vcats As ≤ mz.2.1 ∧ mz.2.2.2.1 = false ∧ mz.2.1 ≤ 40 then (match af_find Sh z As n T N CT with
            | none => none
            | some (K, θ, n1, T1, N1) => if af_covM M K.2.2.2.1 = true then af_posts K.2.1 θ K.2.2.2.1 (pc + 3) n1 L rest T1 N1 K.2.2.2.2 else none) else none) else none
/-- the method's own: class number, locals, what it returns, code; the shape; contracts; variables of its start; what it may write; its ends; the cuts; places that are not kept; where to split by which place -/
abbrev af_G : Type := (Nat × Nat × Option FieldType × List (Nat × Instr × Nat)) × af_H × List af_K × Nat × af_M × List af_Q × List (Nat × af_S × af_U) × af_M × List (Nat × Nat × Nat)
def af_end (ret : Option FieldType) (E : Nat) (Ps : List af_Q) (i : Instr) (len : Nat) (σ : af_S) : Bool := match σ with
  | (_, _, st, T, N) => match i with
    | .ireturn => decide (len = 1) && (match st, ret with
      | [.inl f], some .int => Ps.any (fun P => (af_mQ E [.inl f] T N P).isSome)
      | [.inl f], some .boolean => (match af_iv N f with
        | some (a, b) => decide (0 ≤ a) && (decide (b ≤ 1) && Ps.any (fun P => (af_mQ E [.inl f] T N P).isSome))
        | none => false)
      | _, _ => false)
    | .areturn => decide (len = 1) && (match st, ret with
      | [.inr (.inl a)], some (.object _) => Ps.any (fun P => (af_mQ E [.inr (.inl a)] T N P).isSome)
      | _, _ => false)
    | .return_ => decide (len = 1) && (match st, ret with
      | [], none => Ps.any (fun P => (af_mQ E [] T N P).isSome)
      | _, _ => false)
    | _ => false
def af_plain (G : af_G) (pc : Nat) (σ : af_S) : Option (List (Nat × af_S)) := match pi_fetch G.1.2.2.2 pc with
  | none => none
  | some (i, len) => if pi_isEnd i = true then (if af_end G.1.2.2.1 G.2.2.2.1 G.2.2.2.2.2.1 i len σ = true then some [] else none) else match pi_inv i with
    | some (cp, kinds) => af_call G.1.1 G.2.1 G.2.2.2.2.1 G.2.2.1 kinds cp len pc σ
    | none => af_step G.1.1 G.1.2.1 G.2.1 G.2.2.2.2.1 G.2.2.2.2.2.2.2.1 i len pc σ
def af_spl (pc n : Nat) (L : af_L) (st : List af_V) (T : af_T) (N : af_N) (f : af_F) : Nat → Int → List (Nat × af_S)
  | 0, _ => []
  | m + 1, k => match af_clip N f k k with
    | none => af_spl pc n L st T N f m (k + 1)
    | some N1 => (pc, n, L, st, T, N1) :: af_spl pc n L st T N f m (k + 1)
def af_next (G : af_G) (pc : Nat) (σ : af_S) : Option (List (Nat × af_S)) := match G.2.2.2.2.2.2.2.2.find? (fun q => q.1 == pc) with
  | none => af_plain G pc σ
  | some (_, c, i) => match σ with
    | (n, L, st, T, N) => match af_mat G.2.1 [((c, i), (0, []))] n T N with
      | none => none
      | some (n1, T1, N1) => match af_getT T1 c i with
        | none => none
        | some f => match af_iv N1 f with
          | none => none
          | some (a, b) => if a < b ∧ b - a ≤ 20 then some (af_spl pc n1 L st T1 N1 f (b - a + 1).toNat a) else af_plain G pc (n1, L, st, T1, N1)
def af_lex (N : af_N) : af_U → af_U → Bool
  | (k, s, f) :: O, (k', s', f') :: W => if s == 0 && s' == 0 then (decide (k' < k) || (decide (k' = k) && af_lex N O W))
      else if s == 1 && s' == 1 then (match af_low N f' f with
        | none => false
        | some D => decide (1 ≤ k - k' + D) || (decide (0 ≤ k - k' + D) && af_lex N O W))
      else if s == 2 && s' == 2 then (match af_low N f f' with
        | none => false
        | some D => decide (1 ≤ k - k' + D) || (decide (0 ≤ k - k' + D) && af_lex N O W))
      else false
  | _, _ => false
def af_sU (g : Nat → Option af_F) : af_U → Option af_U
  | [] => some []
  | (k, s, f) :: U => match af_sb g f with
    | none => none
    | some f' => match af_sU g U with
      | none => none
      | some U' => some ((k, s, f') :: U')
def af_pos (N : af_N) (U : af_U) : Bool := U.all (fun q => match af_iv N q.2.2 with
  | none => false
  | some (a, b) => if q.2.1 == 0 then decide (0 ≤ q.1) && decide (q.1 < 1099511627776) else if q.2.1 == 1 then decide (0 ≤ q.1 - b) && decide (q.1 - a < 1099511627776) else decide (0 ≤ q.1 + a) && decide (q.1 + b < 1099511627776))
/-- arriving at a cut: one of its patterns takes the state, with a lesser measure -/
def af_cut (E : Nat) (old : Option af_U) (pc : Nat) (σ : af_S) (CL : List (Nat × af_S × af_U)) : Bool := CL.any (fun q => q.1 == pc && (match af_mS E σ q.2.1 with
  | none => false
  | some θ => (match old with
    | none => true
    | some O => (match af_sU (af_th E θ) q.2.2 with
      | none => false
      | some U => af_lex σ.2.2.2.2 O U))))
def af_isCut (CL : List (Nat × af_S × af_U)) (pc : Nat) : Bool := CL.any (fun q => q.1 == pc)
def af_run : Nat → af_G → Option af_U → Nat × af_S → Bool
  | 0, _, _, _ => false
  | n + 1, G, old, (pc, σ) => match af_next G pc σ with
    | none => false
    | some R => R.all (fun q => if af_isCut G.2.2.2.2.2.2.1 q.1 = true then af_cut G.2.2.2.1 old q.1 q.2 G.2.2.2.2.2.2.1 else af_run n G old q)
def lv_argsA : Nat → List af_V → af_L
  | _, [] => []
  | i, v :: vs => (i, v) :: lv_argsA (if af_isLong v then i + 2 else i + 1) vs
/-- all of a method: from its start, and from each cut -/
def af_meth (fuel : Nat) (G : af_G) (pre : af_Q) : Bool :=
  af_run fuel G none (0, pre.1, lv_argsA 0 pre.2.1, [], pre.2.2.1, pre.2.2.2) && G.2.2.2.2.2.2.1.all (fun q => af_pos q.2.1.2.2.2.2 q.2.2 && af_run fuel G (some q.2.2) (q.1, q.2.1))
