/-! ===== what the abstract states mean ===== -/
def af_ev (ρ : Nat → Int) (f : af_F) : Int := f.1 + (f.2.map ρ).sum
def af_wf (n : Nat) (f : af_F) : Prop := ∀ v ∈ f.2, v < n
def af_ag (n : Nat) (ρ ρ' : Nat → Int) : Prop := ∀ v, v < n → ρ' v = ρ v
def af_val (n : Nat) (ρ : Nat → Int) (a : af_V) (v : Value) : Prop := match a with
  | .inl f => af_wf n f ∧ ∃ x : Int32, v = .int x ∧ x.toInt = af_ev ρ f
  | .inr (.inl k) => v = .ref k
  | .inr (.inr _) => ∃ x, v = .long x
def af_cloc (e : pi_E) (i : Nat) : Option Value := match e with
  | .inr (_, fs) => fs[i]?
  | .inl (_, n, .inl f) => if i < n then some (.int (f i)) else none
  | .inl (_, n, .inr (.inl f)) => if i < n then some (.long (f i)) else none
  | _ => none
def af_wloc (w : pi_W) (c i : Nat) : Option Value := match w[c]? with
  | none => none
  | some e => af_cloc e i
/-- the sign at which the model's reader stands -/
def af_peek (w : pi_W) : Int32 := match af_wloc w 61 4, af_wloc w 61 3 with
  | some (.int p), some (.int z) => if p < z then (match af_wloc w 62 p.toNatClampNeg with
    | some (.int b) => b &&& 255
    | _ => 0) else -1
  | _, _ => 0
def af_loc (w : pi_W) (c i : Nat) : Option Value := if c = af_virt then (if i = 0 then some (.int (af_peek w)) else none) else af_wloc w c i
def af_okF (ft : Nat ⊕ (Int × Int) ⊕ Unit) (v : Value) : Prop := match ft with
  | .inl k => v = .ref k
  | .inr (.inl (lo, hi)) => ∃ x : Int32, v = .int x ∧ lo ≤ x.toInt ∧ x.toInt ≤ hi
  | .inr (.inr _) => ∃ x, v = .long x
def af_okA (t n : Nat) (S : List (Nat × Int × Int)) (e : pi_E) : Prop := if t = 2 then ∃ f, e = .inl (2, n, .inr (.inl f)) else t < 4 ∧ ∃ f : Nat → Int32, e = .inl (t, n, .inl f) ∧ ∀ i, i < n → ∃ q, af_seg S i = some q ∧ q.1 ≤ (f i).toInt ∧ (f i).toInt ≤ q.2
def af_okC (c : af_C) (e : pi_E) : Prop := match c with
  | .inl (t, n, S) => af_okA t n S e
  | .inr (ci, fts) => ∃ fs, e = .inr (ci, fs) ∧ fs.length = fts.length ∧ ∀ (j : Nat) (ft : Nat ⊕ (Int × Int) ⊕ Unit), fts[j]? = some ft → ∃ v, fs[j]? = some v ∧ af_okF ft v
def af_Conf (Sh : af_H) (w : pi_W) : Prop := w.length = Sh.length ∧ Sh.length ≤ 1000 ∧ ∀ (k : Nat) (c : af_C), Sh[k]? = some c → ∃ e, w[k]? = some e ∧ af_okC c e
def af_Fr (M : af_M) (w w' : pi_W) : Prop := ∀ c i, af_cov M c i i = false → af_wloc w' c i = af_wloc w c i
def af_Lo (n : Nat) (ρ : Nat → Int) (L : af_L) (lv : pi_L) : Prop := ∀ e ∈ L, ∃ v, pi_get lv e.1 = some v ∧ af_val n ρ e.2 v
def af_St (n : Nat) (ρ : Nat → Int) : List af_V → List Value → Prop
  | [], [] => True
  | a :: as, v :: vs => af_val n ρ a v ∧ af_St n ρ as vs
  | _, _ => False
def af_Sl (n : Nat) (ρ : Nat → Int) (T : af_T) (w : pi_W) : Prop := ∀ e ∈ T, af_wf n e.2 ∧ ∃ x : Int32, af_loc w e.1.1 e.1.2 = some (.int x) ∧ x.toInt = af_ev ρ e.2
def af_Og (ρ : Nat → Int) (Sh : af_H) (e : Nat × Nat × af_F) : Prop := ∃ m S q, Sh[e.2.1]? = some (.inl (0, m, S)) ∧ 0 ≤ af_ev ρ e.2.2 ∧ af_seg S (af_ev ρ e.2.2).toNat = some q ∧ q.1 ≤ ρ e.1 ∧ ρ e.1 ≤ q.2
def af_Kn (n : Nat) (ρ : Nat → Int) (Sh : af_H) (N : af_N) : Prop := (∀ e ∈ N.1, e.1 < n ∧ e.2.1 ≤ ρ e.1 ∧ ρ e.1 ≤ e.2.2) ∧ (∀ e ∈ N.2.1, e.1 < n ∧ e.2.1 < n ∧ e.2.2 ≤ ρ e.1 - ρ e.2.1) ∧ ∀ e ∈ N.2.2, e.1 < n ∧ af_wf n e.2.2 ∧ af_Og ρ Sh e
def af_Sat (Sh : af_H) (ρ : Nat → Int) (σ : af_S) (s : pi_S) : Prop := af_Lo σ.1 ρ σ.2.1 s.2.1 ∧ af_St σ.1 ρ σ.2.2.1 s.2.2.1 ∧ af_Conf Sh s.2.2.2 ∧ af_Sl σ.1 ρ σ.2.2.2.1 s.2.2.2 ∧ af_Kn σ.1 ρ Sh σ.2.2.2.2
/-- where a step comes to -/
def af_Ok (Sh : af_H) (M : af_M) (R : List (Nat × af_S)) (n : Nat) (ρ : Nat → Int) (w : pi_W) (s : pi_S) : Prop := af_Fr M w s.2.2.2 ∧ ∃ q ∈ R, q.1 = s.1 ∧ n ≤ q.2.1 ∧ ∃ ρ', af_ag n ρ ρ' ∧ af_Sat Sh ρ' q.2 s
theorem af_Fr.rf (M : af_M) (w : pi_W) : af_Fr M w w := fun _ _ _ => rfl
theorem af_Fr.tr {M : af_M} {w w1 w2 : pi_W} (h1 : af_Fr M w w1) (h2 : af_Fr M w1 w2) : af_Fr M w w2 := fun c i h => (h2 c i h).trans (h1 c i h)
theorem af_ag.rf (n : Nat) (ρ : Nat → Int) : af_ag n ρ ρ := fun _ _ => rfl
theorem af_ag.tr {n n' : Nat} {ρ ρ1 ρ2 : Nat → Int} (h1 : af_ag n ρ ρ1) (hn : n ≤ n') (h2 : af_ag n' ρ1 ρ2) : af_ag n ρ ρ2 := fun v hv => (h2 v (Nat.lt_of_lt_of_le hv hn)).trans (h1 v hv)
theorem af_ev_ag {n : Nat} {ρ ρ' : Nat → Int} {f : af_F} (h : af_wf n f) (ha : af_ag n ρ ρ') : af_ev ρ' f = af_ev ρ f := by
  unfold af_ev
  rw [List.map_congr_left (fun v hv => ha v (h v hv))]
theorem af_wf.mono {n n' : Nat} {f : af_F} (h : af_wf n f) (hn : n ≤ n') : af_wf n' f := fun v hv => Nat.lt_of_lt_of_le (h v hv) hn
theorem af_val.ag {n n' : Nat} {ρ ρ' : Nat → Int} {a : af_V} {v : Value} (h : af_val n ρ a v) (hn : n ≤ n') (ha : af_ag n ρ ρ') : af_val n' ρ' a v := by
  match a, h with
  | .inl f, ⟨h1, x, h2, h3⟩ => exact ⟨h1.mono hn, x, h2, by rw [af_ev_ag h1 ha]; exact h3⟩
  | .inr (.inl k), h => exact h
  | .inr (.inr _), h => exact h
theorem af_Lo.ag {n n' : Nat} {ρ ρ' : Nat → Int} {L : af_L} {lv : pi_L} (h : af_Lo n ρ L lv) (hn : n ≤ n') (ha : af_ag n ρ ρ') : af_Lo n' ρ' L lv := fun e he => by
  obtain ⟨v, h1, h2⟩ := h e he
  exact ⟨v, h1, h2.ag hn ha⟩
theorem af_St.ag {n n' : Nat} {ρ ρ' : Nat → Int} (hn : n ≤ n') (ha : af_ag n ρ ρ') : ∀ {as : List af_V} {vs : List Value}, af_St n ρ as vs → af_St n' ρ' as vs
  | [], [], _ => trivial
  | _ :: _, _ :: _, ⟨h1, h2⟩ => ⟨h1.ag hn ha, af_St.ag hn ha h2⟩
theorem af_Sl.ag {n n' : Nat} {ρ ρ' : Nat → Int} {T : af_T} {w : pi_W} (h : af_Sl n ρ T w) (hn : n ≤ n') (ha : af_ag n ρ ρ') : af_Sl n' ρ' T w := fun e he => by
  obtain ⟨h0, x, h1, h2⟩ := h e he
  exact ⟨h0.mono hn, x, h1, by rw [af_ev_ag h0 ha]; exact h2⟩
theorem af_Kn.ag {n n' : Nat} {ρ ρ' : Nat → Int} {Sh : af_H} {N : af_N} (h : af_Kn n ρ Sh N) (hn : n ≤ n') (ha : af_ag n ρ ρ') : af_Kn n' ρ' Sh N := by
  obtain ⟨h1, h2, h3⟩ := h
  refine ⟨fun e he => ?_, fun e he => ?_, fun e he => ?_⟩
  · obtain ⟨a, b⟩ := h1 e he
    exact ⟨Nat.lt_of_lt_of_le a hn, by rw [ha _ a]; exact b⟩
  · obtain ⟨a, b, d⟩ := h2 e he
    exact ⟨Nat.lt_of_lt_of_le a hn, Nat.lt_of_lt_of_le b hn, by rw [ha _ a, ha _ b]; exact d⟩
  · obtain ⟨a, b, m, S, q, d1, d2, d3, d4⟩ := h3 e he
    exact ⟨Nat.lt_of_lt_of_le a hn, b.mono hn, m, S, q, d1, by rw [af_ev_ag b ha]; exact d2, by rw [af_ev_ag b ha]; exact d3, by rw [ha _ a]; exact d4⟩
def af_upd (ρ : Nat → Int) (n : Nat) (x : Int) : Nat → Int := fun v => if v = n then x else ρ v
theorem af_upd_ag (ρ : Nat → Int) (n : Nat) (x : Int) : af_ag n ρ (af_upd ρ n x) := fun v hv => by
  unfold af_upd
  rw [if_neg (Nat.ne_of_lt hv)]
theorem af_upd_at (ρ : Nat → Int) (n : Nat) (x : Int) : af_upd ρ n x n = x := if_pos rfl
theorem af_ev_c (ρ : Nat → Int) (k : Int) : af_ev ρ (k, []) = k := by simp [af_ev]
theorem af_ev_1 (ρ : Nat → Int) (k : Int) (v : Nat) : af_ev ρ (k, [v]) = k + ρ v := by simp [af_ev]
theorem af_wf_c (n : Nat) (k : Int) : af_wf n (k, []) := fun v hv => by cases hv
theorem af_wf_1 (n : Nat) (k : Int) : af_wf (n + 1) (k, [n]) := fun v hv => by
  rcases List.mem_singleton.mp hv with rfl
  exact Nat.lt_succ_self _
/-- bounds of forms -/
theorem af_lookL_mem : ∀ {N : List (Nat × Int × Int)} {v : Nat} {q : Int × Int}, af_lookL N v = some q → (v, q) ∈ N
  | [], _, _, h => by cases h
  | (u, p) :: N, v, q, h => by
    unfold af_lookL at h
    split at h
    · rename_i hu
      cases h
      have : u = v := by simpa using hu
      subst this
      exact List.mem_cons_self
    · exact List.mem_cons_of_mem _ (af_lookL_mem h)
theorem af_look_ok {n : Nat} {ρ : Nat → Int} {Sh : af_H} {N : af_N} (hK : af_Kn n ρ Sh N) {v : Nat} {a b : Int} (h : af_look N v = some (a, b)) : a ≤ ρ v ∧ ρ v ≤ b := (hK.1 _ (af_lookL_mem h)).2
theorem af_ivs_ok {n : Nat} {ρ : Nat → Int} {Sh : af_H} {N : af_N} (hK : af_Kn n ρ Sh N) : ∀ {vs : List Nat} {a b : Int}, af_ivs N vs = some (a, b) → a ≤ (vs.map ρ).sum ∧ (vs.map ρ).sum ≤ b
  | [], a, b, h => by
    cases h
    exact ⟨Int.le_refl _, Int.le_refl _⟩
  | v :: vs, a, b, h => by
    unfold af_ivs at h
    split at h
    · cases h
    · rename_i a1 b1 h1
      split at h
      · cases h
      · rename_i c d h2
        cases h
        have q1 := af_look_ok hK h1
        have q2 := af_ivs_ok hK h2
        rw [List.map_cons, List.sum_cons]
        omega
theorem af_iv_ok {n : Nat} {ρ : Nat → Int} {Sh : af_H} {N : af_N} (hK : af_Kn n ρ Sh N) {f : af_F} {a b : Int} (h : af_iv N f = some (a, b)) : a ≤ af_ev ρ f ∧ af_ev ρ f ≤ b := by
  unfold af_iv at h
  split at h
  · cases h
  · rename_i c d h1
    cases h
    have q := af_ivs_ok hK h1
    unfold af_ev
    omega
theorem af_Kn.bn {n : Nat} {ρ : Nat → Int} {Sh : af_H} {N : af_N} (hK : af_Kn n ρ Sh N) {v : Nat} {lo hi : Int} (hv : v < n) (h1 : lo ≤ ρ v) (h2 : ρ v ≤ hi) : af_Kn n ρ Sh (af_bn v lo hi N) := by
  refine ⟨fun e he => ?_, hK.2⟩
  rcases List.mem_cons.mp he with rfl | he
  · exact ⟨hv, h1, h2⟩
  · exact hK.1 e he
theorem af_i32 (x : Int32) : af_lo ≤ x.toInt ∧ x.toInt ≤ af_hi := by
  have h1 := Int32.le_toInt x
  have h2 := Int32.toInt_lt x
  unfold af_lo af_hi
  omega
/-- what an operation gives -/
def af_Rs (n : Nat) (ρ : Nat → Int) (r : af_R) (x : Int32) : Prop := match r with
  | .inl f => af_wf n f ∧ x.toInt = af_ev ρ f
  | .inr (lo, hi) => lo ≤ x.toInt ∧ x.toInt ≤ hi
theorem af_Rs.full (n : Nat) (ρ : Nat → Int) (x : Int32) : af_Rs n ρ af_full x := af_i32 x
section AFO
variable {Sh : af_H} {M : af_M} {n : Nat} {ρ : Nat → Int} {L : af_L} {as : List af_V} {T : af_T} {N : af_N} {pc pc' : Nat} {lv : pi_L} {vs : List Value} {w : pi_W}
theorem af_Ok.one {q : Nat × af_S} {s : pi_S} (hF : af_Fr M w s.2.2.2) (hpc : q.1 = s.1) (hn : n ≤ q.2.1) (hS : ∃ ρ', af_ag n ρ ρ' ∧ af_Sat Sh ρ' q.2 s) : af_Ok Sh M [q] n ρ w s := ⟨hF, q, List.mem_cons_self, hpc, hn, hS⟩
theorem af_Ok.push {a : af_V} {v : Value} (hL : af_Lo n ρ L lv) (hs : af_St n ρ as vs) (hC : af_Conf Sh w) (hT : af_Sl n ρ T w) (hK : af_Kn n ρ Sh N) (hv : af_val n ρ a v) : af_Ok Sh M [(pc', n, L, a :: as, T, N)] n ρ w (pc', lv, v :: vs, w) :=
  af_Ok.one (af_Fr.rf M w) rfl (Nat.le_refl _) ⟨ρ, af_ag.rf _ _, hL, ⟨hv, hs⟩, hC, hT, hK⟩
theorem af_Ok.same (hL : af_Lo n ρ L lv) (hs : af_St n ρ as vs) (hC : af_Conf Sh w) (hT : af_Sl n ρ T w) (hK : af_Kn n ρ Sh N) : af_Ok Sh M [(pc', n, L, as, T, N)] n ρ w (pc', lv, vs, w) :=
  af_Ok.one (af_Fr.rf M w) rfl (Nat.le_refl _) ⟨ρ, af_ag.rf _ _, hL, hs, hC, hT, hK⟩
theorem af_fresh {lo hi : Int} {x : Int32} (hL : af_Lo n ρ L lv) (hs : af_St n ρ as vs) (hC : af_Conf Sh w) (hT : af_Sl n ρ T w) (hK : af_Kn n ρ Sh N) (h1 : lo ≤ x.toInt) (h2 : x.toInt ≤ hi) : af_Sat Sh (af_upd ρ n x.toInt) (n + 1, L, .inl (0, [n]) :: as, T, af_bn n lo hi N) (pc', lv, .int x :: vs, w) := by
  have ha := af_upd_ag ρ n x.toInt
  have hn := Nat.le_succ n
  refine ⟨hL.ag hn ha, ⟨⟨af_wf_1 n 0, x, rfl, ?_⟩, hs.ag hn ha⟩, hC, hT.ag hn ha, (hK.ag hn ha).bn (Nat.lt_succ_self n) ?_ ?_⟩
  · rw [af_ev_1, af_upd_at]; omega
  · rw [af_upd_at]; exact h1
  · rw [af_upd_at]; exact h2
theorem af_Ok.put {r : af_R} {x : Int32} (hL : af_Lo n ρ L lv) (hs : af_St n ρ as vs) (hC : af_Conf Sh w) (hT : af_Sl n ρ T w) (hK : af_Kn n ρ Sh N) (hr : af_Rs n ρ r x) : af_Ok Sh M (af_put pc' n L as T N r) n ρ w (pc', lv, .int x :: vs, w) := by
  match r, hr with
  | .inl f, hr => exact af_Ok.push hL hs hC hT hK ⟨hr.1, x, rfl, hr.2⟩
  | .inr (lo, hi), hr => exact af_Ok.one (af_Fr.rf M w) rfl (Nat.le_succ n) ⟨_, af_upd_ag ρ n x.toInt, af_fresh hL hs hC hT hK hr.1 hr.2⟩
end AFO
