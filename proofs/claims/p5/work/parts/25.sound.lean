/-! ===== each abstract step takes in the pure one ===== -/
section AFS
variable {Sh : af_H} {M NT : af_M} {n : Nat} {ρ : Nat → Int} {L : af_L} {T : af_T} {N : af_N} {own nL len pc : Nat} {ini : Bool} {lv : pi_L} {st : List Value} {w : pi_W} {R : List (Nat × af_S)} {as : List af_V}
theorem st_i {f : af_F} (h : af_St n ρ (.inl f :: as) st) : ∃ (x : Int32) (vs : List Value), st = .int x :: vs ∧ af_wf n f ∧ x.toInt = af_ev ρ f ∧ af_St n ρ as vs := by
  match st, h with
  | v :: vs, ⟨⟨h1, x, h2, h3⟩, h4⟩ => exact ⟨x, vs, by rw [h2], h1, h3, h4⟩
theorem st_r {a : Nat} (h : af_St n ρ (.inr (.inl a) :: as) st) : ∃ (vs : List Value), st = .ref a :: vs ∧ af_St n ρ as vs := by
  match st, h with
  | v :: vs, ⟨h1, h4⟩ => exact ⟨vs, by rw [show v = .ref a from h1], h4⟩
theorem st_l {u : Unit} (h : af_St n ρ (.inr (.inr u) :: as) st) : ∃ (x : Int64) (vs : List Value), st = .long x :: vs ∧ af_St n ρ as vs := by
  match st, h with
  | v :: vs, ⟨⟨x, h1⟩, h4⟩ => exact ⟨x, vs, by rw [h1], h4⟩
theorem af_Conf.at {c : af_C} {a : Nat} (hC : af_Conf Sh w) (h : Sh[a]? = some c) : ∃ e, w[a]? = some e ∧ af_okC c e := hC.2.2 a c h
theorem af_okA.int {t m : Nat} {S : List (Nat × Int × Int)} {e : pi_E} (ht : t ≠ 2) (h : af_okA t m S e) : ∃ f : Nat → Int32, e = .inl (t, m, .inl f) ∧ ∀ i, i < m → ∃ q, af_seg S i = some q ∧ q.1 ≤ (f i).toInt ∧ (f i).toInt ≤ q.2 := by
  unfold af_okA at h
  rw [if_neg ht] at h
  exact h.2
theorem af_okA.lng {m : Nat} {S : List (Nat × Int × Int)} {e : pi_E} (h : af_okA 2 m S e) : ∃ f : Nat → Int64, e = .inl (2, m, .inr (.inl f)) := by
  unfold af_okA at h
  rw [if_pos rfl] at h
  exact h
theorem af_Conf.lt {a : Nat} {c : af_C} (hC : af_Conf Sh w) (h : Sh[a]? = some c) : a < 1000 := Nat.lt_of_lt_of_le (List.getElem?_eq_some_iff.mp h).1 hC.2.1
/-- a cell is put in place -/
theorem af_Conf.set {a : Nat} {c : af_C} {e : pi_E} (hC : af_Conf Sh w) (h : Sh[a]? = some c) (he : af_okC c e) : af_Conf Sh (w.set a e) := by
  refine ⟨by rw [List.length_set]; exact hC.1, hC.2.1, fun k c' hk => ?_⟩
  obtain ⟨e0, h0, h1⟩ := hC.2.2 k c' hk
  by_cases hka : k = a
  · subst hka
    rw [h] at hk
    cases hk
    have hl : k < w.length := (List.getElem?_eq_some_iff.mp h0).1
    exact ⟨e, List.getElem?_set_self hl, he⟩
  · exact ⟨e0, by rw [List.getElem?_set_ne (fun q => hka q.symm)]; exact h0, h1⟩
theorem af_rd {c i : Nat} {lo hi : Int} {x : Int32} {pc' : Nat} {vs : List Value} (hL : af_Lo n ρ L lv) (hs : af_St n ρ as vs) (hC : af_Conf Sh w) (hT : af_Sl n ρ T w) (hK : af_Kn n ρ Sh N) (hc : c < 1000) (hx : af_wloc w c i = some (.int x)) (h1 : lo ≤ x.toInt) (h2 : x.toInt ≤ hi) : af_Ok Sh M (af_read NT pc' n L as T N c i lo hi) n ρ w (pc', lv, .int x :: vs, w) := by
  have hloc : af_loc w c i = some (.int x) := by
    unfold af_loc
    rw [if_neg (show c ≠ af_virt from Nat.ne_of_lt hc)]
    exact hx
  unfold af_read
  split
  · rename_i f hf
    obtain ⟨k0, x', k1, k2⟩ := hT _ (af_getT_mem hf)
    dsimp only at k0 k1 k2
    rw [hloc] at k1
    cases k1
    exact af_Ok.push hL hs hC hT hK ⟨k0, x, rfl, k2⟩
  · split
    · exact af_Ok.put hL hs hC hT hK ⟨h1, h2⟩
    · have ha := af_upd_ag ρ n x.toInt
      obtain ⟨s1, s2, s3, s4, s5⟩ := af_fresh (pc' := pc') (lo := lo) (hi := hi) (x := x) hL hs hC hT hK h1 h2
      refine af_Ok.one (af_Fr.rf M w) rfl (Nat.le_succ n) ⟨_, ha, s1, s2, s3, ?_, s5⟩
      intro e he
      rcases List.mem_cons.mp he with rfl | he
      · exact ⟨af_wf_1 n 0, x, hloc, by rw [af_ev_1, af_upd_at]; omega⟩
      · exact s4 e he
/-- a place is written -/
theorem af_wr {a x y j : Nat} {c : af_C} {e0 e : pi_E} {pc' : Nat} {vs : List Value} {T' : af_T} (hL : af_Lo n ρ L lv) (hs : af_St n ρ as vs) (hC : af_Conf Sh w) (hT : af_Sl n ρ T w) (hK : af_Kn n ρ Sh N) (hSh : Sh[a]? = some c) (h0 : w[a]? = some e0) (hok : af_okC c e) (hne : ∀ i, i ≠ j → af_cloc e i = af_cloc e0 i) (hj1 : x ≤ j) (hj2 : j ≤ y) (hM : af_cov M a x y = true)
    (hT' : T' = af_drop T a x y ∨ ∃ (g : af_F) (v : Int32), T' = ((a, x), g) :: af_drop T a x y ∧ x = y ∧ af_cloc e j = some (.int v) ∧ af_wf n g ∧ v.toInt = af_ev ρ g) : af_Ok Sh M [(pc', n, L, as, T', N)] n ρ w (pc', lv, vs, w.set a e) := by
  have hw : ∀ c' i', ¬ (c' = a ∧ i' = j) → af_wloc (w.set a e) c' i' = af_wloc w c' i' := by
    intro c' i' hn
    rw [af_wloc_set h0]
    by_cases hc : c' = a
    · rw [if_pos hc, hne i' (fun q => hn ⟨hc, q⟩), hc]
      unfold af_wloc
      rw [h0]
    · rw [if_neg hc]
  have hS : af_Sl n ρ (af_drop T a x y) (w.set a e) := hT.drop (fun c' i' hn => hw c' i' (fun q => hn ⟨q.1, by omega, by omega⟩))
  refine af_Ok.one ?_ rfl (Nat.le_refl _) ⟨ρ, af_ag.rf _ _, hL, hs, hC.set hSh hok, ?_, hK⟩
  · intro c' i' hcv
    refine hw c' i' ?_
    rintro ⟨rfl, rfl⟩
    rw [af_cov_in hM hj1 hj2] at hcv
    cases hcv
  · rcases hT' with rfl | ⟨g, v, rfl, hxy, hv, hg1, hg2⟩
    · exact hS
    · intro e' he'
      rcases List.mem_cons.mp he' with rfl | he'
      · refine ⟨hg1, v, ?_, hg2⟩
        unfold af_loc
        dsimp only
        rw [if_neg (show a ≠ af_virt from Nat.ne_of_lt (hC.lt hSh)), af_wloc_set h0, if_pos rfl, show x = j by omega]
        exact hv
      · exact hS e' he'
theorem af_olook_mem : ∀ {O : List (Nat × Nat × af_F)} {v : Nat} {q : Nat × af_F}, af_olook O v = some q → (v, q) ∈ O
  | [], _, _, h => by cases h
  | (u, p) :: O, v, q, h => by
    unfold af_olook at h
    split at h
    · rename_i hu
      cases h
      have : u = v := by simpa using hu
      subst this
      exact List.mem_cons_self
    · exact List.mem_cons_of_mem _ (af_olook_mem h)
theorem af_orig_ok {g f : af_F} {S : List (Nat × Int × Int)} {x y j : Nat} {v : Int32} (hK : af_Kn n ρ Sh N) (h : af_orig Sh N g S f x y = true) (h1 : x ≤ j) (h2 : j ≤ y) (hv : v.toInt = af_ev ρ g) (hj : (j : Int) = af_ev ρ f) : ∀ q, af_seg S j = some q → q.1 ≤ v.toInt ∧ v.toInt ≤ q.2 := by
  intro q hq
  unfold af_orig at h
  split at h
  · rename_i v0
    split at h
    · cases h
    · rename_i c hf hol
      split at h
      · rename_i k hls
        split at h
        · rename_i m0 Sc hSc
          obtain ⟨k1, k2, m', S', q', e1, e2, e3, e4, e5⟩ := hK.2.2 _ (af_olook_mem hol)
          dsimp only at e1 e2 e3 e4 e5
          rw [hSc] at e1
          cases e1
          have hl := (af_less_ok (ρ := ρ) hls).1
          rw [af_ev_c] at hl
          obtain ⟨p0, p, q2, p1, p2, p3, p4⟩ := af_shf_ok h j h1 (by omega)
          rw [hq] at p2
          cases p2
          rw [show af_ev ρ hf = (j : Int) + k by omega, p1] at e3
          cases e3
          rw [af_ev_1] at hv
          omega
        · cases h
      · cases h
  · cases h
theorem af_okA.upd {t m j : Nat} {S : List (Nat × Int × Int)} {fn : Nat → Int32} {v : Int32} (ht : t ≠ 2) (h4 : t < 4) (hfn : ∀ i, i < m → ∃ q, af_seg S i = some q ∧ q.1 ≤ (fn i).toInt ∧ (fn i).toInt ≤ q.2) (hv : ∀ q, af_seg S j = some q → q.1 ≤ v.toInt ∧ v.toInt ≤ q.2) : af_okC (.inl (t, m, S)) (.inl (t, m, .inl (upd fn j v))) := by
  show af_okA t m S _
  unfold af_okA
  rw [if_neg ht]
  refine ⟨h4, _, rfl, fun i hi => ?_⟩
  obtain ⟨q, q1, q2, q3⟩ := hfn i hi
  show ∃ q, af_seg S i = some q ∧ q.1 ≤ (if i = j then v else fn i).toInt ∧ (if i = j then v else fn i).toInt ≤ q.2
  by_cases hij : i = j
  · rw [if_pos hij]
    subst hij
    exact ⟨q, q1, hv q q1⟩
  · rw [if_neg hij]
    exact ⟨q, q1, q2, q3⟩
theorem af_cloc_upd {t m j : Nat} {fn : Nat → Int32} {v : Int32} : ∀ i, i ≠ j → af_cloc (.inl (t, m, .inl (upd fn j v))) i = af_cloc (.inl (t, m, .inl fn)) i := fun i hi => by
  simp only [af_cloc, upd, if_neg hi]
theorem af_cloc_at {t m j : Nat} {fn : Nat → Int32} {v : Int32} (hj : j < m) : af_cloc (.inl (t, m, .inl (upd fn j v))) j = some (.int v) := by
  simp only [af_cloc, upd, if_pos hj, if_true]
theorem af_b8 (x : Int32) : -128 ≤ (vp_nar .byte x).toInt ∧ (vp_nar .byte x).toInt ≤ 127 := by
  have e := Int8.toInt_toInt32 x.toInt8
  have h1 := Int8.le_toInt x.toInt8
  have h2 := Int8.toInt_lt x.toInt8
  show -128 ≤ x.toInt8.toInt32.toInt ∧ x.toInt8.toInt32.toInt ≤ 127
  omega
theorem af_01 {x : Int32} (h1 : 0 ≤ x.toInt) (h2 : x.toInt ≤ 1) : x = 0 ∨ x = 1 := by
  by_cases h : x.toInt = 0
  · exact Or.inl (Int32.toInt_inj.mp (by rw [h]; rfl))
  · exact Or.inr (Int32.toInt_inj.mp (by rw [show x.toInt = 1 by omega]; rfl))
theorem af_z1 {x : Int32} (h1 : 0 ≤ x.toInt) (h2 : x.toInt ≤ 1) : vp_nar .boolean x = x := by
  rcases af_01 h1 h2 with rfl | rfl
  · rfl
  · rfl
theorem af_ft {x : Int32} (h1 : 0 ≤ x.toInt) (h2 : x.toInt ≤ 1) : fits .boolean (.int x) = true := by
  rcases af_01 h1 h2 with rfl | rfl
  · rfl
  · rfl
theorem af_nz {x : Int32} (h1 : 0 ≤ x.toInt) (h2 : x.toInt ≤ 1) : narrow .boolean (.int x) = .int x := by
  rcases af_01 h1 h2 with rfl | rfl
  · rfl
  · rfl
/-- a long is written: no slot that is known was there -/
theorem af_wrL {a x y j : Nat} {c : af_C} {e0 e : pi_E} {pc' : Nat} {vs : List Value} (hL : af_Lo n ρ L lv) (hs : af_St n ρ as vs) (hC : af_Conf Sh w) (hT : af_Sl n ρ T w) (hK : af_Kn n ρ Sh N) (hSh : Sh[a]? = some c) (h0 : w[a]? = some e0) (hok : af_okC c e) (hne : ∀ i, i ≠ j → af_cloc e i = af_cloc e0 i) (hj1 : x ≤ j) (hj2 : j ≤ y) (hM : af_cov M a x y = true) (hlong : ∃ z, af_cloc e0 j = some (.long z)) (hlong2 : ∃ z, af_cloc e j = some (.long z)) : af_Ok Sh M [(pc', n, L, as, T, N)] n ρ w (pc', lv, vs, w.set a e) := by
  obtain ⟨z, hz⟩ := hlong
  obtain ⟨z2, hz2⟩ := hlong2
  have hw1 : ∀ c' i', ¬ (c' = a ∧ i' = j) → af_wloc (w.set a e) c' i' = af_wloc w c' i' := by
    intro c' i' hn
    rw [af_wloc_set h0]
    by_cases hc : c' = a
    · rw [if_pos hc, hne i' (fun q => hn ⟨hc, q⟩), hc]
      unfold af_wloc
      rw [h0]
    · rw [if_neg hc]
  have hw : ∀ c' i', af_wloc (w.set a e) c' i' = af_wloc w c' i' ∨ ((∃ z, af_wloc w c' i' = some (.long z)) ∧ ∃ z, af_wloc (w.set a e) c' i' = some (.long z)) := by
    intro c' i'
    by_cases hc : c' = a ∧ i' = j
    · obtain ⟨rfl, rfl⟩ := hc
      refine Or.inr ⟨⟨z, ?_⟩, z2, ?_⟩
      · unfold af_wloc
        rw [h0]
        exact hz
      · rw [af_wloc_set h0, if_pos rfl]
        exact hz2
    · exact Or.inl (hw1 c' i' hc)
  have hp : af_peek (w.set a e) = af_peek w := by
    unfold af_peek
    rcases hw 61 4 with h1 | ⟨⟨z1, h1⟩, z1', h1'⟩
    · rw [h1]
      rcases hw 61 3 with h2 | ⟨⟨z3, h2⟩, z3', h2'⟩
      · rw [h2]
        split
        · rename_i p q _ _
          rcases hw 62 p.toNatClampNeg with h3 | ⟨⟨z4, h3⟩, z4', h3'⟩
          · rw [h3]
          · rw [h3, h3']
        · rfl
      · rw [h2, h2']
        cases af_wloc w 61 4 with
        | none => rfl
        | some v => cases v <;> rfl
    · rw [h1, h1']
  refine af_Ok.one ?_ rfl (Nat.le_refl _) ⟨ρ, af_ag.rf _ _, hL, hs, hC.set hSh hok, ?_, hK⟩
  · intro c' i' hcv
    refine hw1 c' i' ?_
    rintro ⟨rfl, rfl⟩
    rw [af_cov_in hM hj1 hj2] at hcv
    cases hcv
  · intro e' he'
    obtain ⟨k0, x', k1, k2⟩ := hT e' he'
    refine ⟨k0, x', ?_, k2⟩
    unfold af_loc at k1 ⊢
    split at k1
    · rename_i hv
      rw [if_pos hv]
      rw [hp]
      exact k1
    · rename_i hv
      rw [if_neg hv]
      rcases hw e'.1.1 e'.1.2 with h1 | ⟨⟨z1, h1⟩, -⟩
      · rw [h1]; exact k1
      · rw [h1] at k1; cases k1
theorem af_okO_set {c k : Nat} {fts : List (Nat ⊕ (Int × Int) ⊕ Unit)} {fs : List Value} {ft : Nat ⊕ (Int × Int) ⊕ Unit} {v : Value} (hln : fs.length = fts.length) (hfs : ∀ (j : Nat) (ft : Nat ⊕ (Int × Int) ⊕ Unit), fts[j]? = some ft → ∃ v, fs[j]? = some v ∧ af_okF ft v) (hft : fts[k]? = some ft) (hv : af_okF ft v) : af_okC (.inr (c, fts)) (.inr (c, fs.set k v)) := by
  refine ⟨_, rfl, by rw [List.length_set]; exact hln, fun j ft' hj => ?_⟩
  by_cases hjk : j = k
  · subst hjk
    rw [hft] at hj
    cases hj
    exact ⟨v, List.getElem?_set_self (by rw [hln]; exact (List.getElem?_eq_some_iff.mp hft).1), hv⟩
  · obtain ⟨v', h1, h2⟩ := hfs j ft' hj
    exact ⟨v', by rw [List.getElem?_set_ne (fun q => hjk q.symm)]; exact h1, h2⟩
theorem af_br_ok {f g : af_F} {x y : Int32} {cd : ClassFile.Cond} {t p3 : Nat} {vs : List Value} (hL : af_Lo n ρ L lv) (hs : af_St n ρ as vs) (hC : af_Conf Sh w) (hT : af_Sl n ρ T w) (hK : af_Kn n ρ Sh N) (hf : af_wf n f) (hg : af_wf n g) (hx : x.toInt = af_ev ρ f) (hy : y.toInt = af_ev ρ g) : af_Ok Sh M (af_br N cd f g t p3 n L as T) n ρ w (if pi_cmp cd x y = true then t else p3, lv, vs, w) := by
  by_cases hc : pi_cmp cd x y = true
  · rw [if_pos hc]
    obtain ⟨N1, e1, k1⟩ := af_cmp_ok hK hf hg hx hy hc
    refine ⟨af_Fr.rf M w, (t, n, L, as, T, N1), ?_, rfl, Nat.le_refl _, ρ, af_ag.rf _ _, hL, hs, hC, hT, k1⟩
    unfold af_br
    rw [e1]
    exact List.mem_append_left _ List.mem_cons_self
  · rw [if_neg hc]
    obtain ⟨N1, e1, k1⟩ := af_cmp_ok hK hf hg hx hy (af_neg_ok hc)
    refine ⟨af_Fr.rf M w, (p3, n, L, as, T, N1), ?_, rfl, Nat.le_refl _, ρ, af_ag.rf _ _, hL, hs, hC, hT, k1⟩
    unfold af_br
    rw [e1]
    exact List.mem_append_right _ List.mem_cons_self
theorem af_tsw_ok {f : af_F} {x : Int32} {vs : List Value} (hL : af_Lo n ρ L lv) (hs : af_St n ρ as vs) (hC : af_Conf Sh w) (hT : af_Sl n ρ T w) (hK : af_Kn n ρ Sh N) (hf : af_wf n f) (hx : x.toInt = af_ev ρ f) : ∀ {offs : List Int} {k : Int} {R : List (Nat × af_S)}, af_tsw pc n L as T N f k offs = some R → ∀ (j : Nat) (off : Int), offs[j]? = some off → x.toInt = k + j → ∃ t, pi_tgt pc off = some t ∧ ∃ N1, (t, n, L, as, T, N1) ∈ R ∧ af_Kn n ρ Sh N1
  | [], _, _, _, j, off, hj, _ => by simp at hj
  | o1 :: offs, k, R, h, j, off, hj, hxk => by
    unfold af_tsw at h
    split at h
    · cases h
    · rename_i R1 h1
      cases j with
      | zero =>
        have e0 : o1 = off := by simpa using hj
        subst e0
        obtain ⟨N1, e1, k1⟩ := af_clip_ok hK hf (lo := k) (hi := k) (by simp at hxk; omega) (by simp at hxk; omega)
        rw [e1] at h
        dsimp only at h
        split at h
        · cases h
        · rename_i t ht
          cases h
          exact ⟨t, ht, N1, List.mem_cons_self, k1⟩
      | succ j =>
        obtain ⟨t, ht, N1, hm, k1⟩ := af_tsw_ok hL hs hC hT hK hf hx h1 j off (by simpa using hj) (by rw [hxk]; push_cast; omega)
        refine ⟨t, ht, N1, ?_, k1⟩
        split at h
        · cases h; exact hm
        · split at h
          · cases h
          · cases h; exact List.mem_cons_of_mem _ hm
theorem af_app3_of {a b c : Option (List (Nat × af_S))} {R : List (Nat × af_S)} (h : af_app3 a b c = some R) : ∃ x y z, a = some x ∧ b = some y ∧ c = some z ∧ R = x ++ (y ++ z) := by
  match a, b, c, h with
  | some x, some y, some z, h => cases h; exact ⟨x, y, z, rfl, rfl, rfl, rfl⟩
theorem af_one_of {t : Option Nat} {N1 : af_N} {R : List (Nat × af_S)} (h : af_one t n L as T (some N1) = some R) : ∃ t', t = some t' ∧ R = [(t', n, L, as, T, N1)] := by
  match t, h with
  | some t, h => cases h; exact ⟨t, rfl, rfl⟩
theorem af_lsw_ok {f : af_F} {x : Int32} {vs : List Value} (hL : af_Lo n ρ L lv) (hs : af_St n ρ as vs) (hC : af_Conf Sh w) (hT : af_Sl n ρ T w) (hK : af_Kn n ρ Sh N) (hf : af_wf n f) (hx : x.toInt = af_ev ρ f) (d : Int) : ∀ {ps : List (Int × Int)} {R : List (Nat × af_S)}, af_lsw pc n L as T N f ps = some R → (∃ t, pi_tgt pc (Op.lookupswitch.offset ps d x.toInt) = some t ∧ ∃ N1, (t, n, L, as, T, N1) ∈ R ∧ af_Kn n ρ Sh N1) ∨ Op.lookupswitch.offset ps d x.toInt = d
  | [], _, _ => Or.inr rfl
  | (k, off) :: ps, R, h => by
    unfold af_lsw at h
    split at h
    · cases h
    · rename_i R1 h1
      have ih := af_lsw_ok hL hs hC hT hK hf hx d h1
      by_cases hk : x.toInt = k
      · left
        obtain ⟨N1, e1, k1⟩ := af_clip_ok hK hf (lo := k) (hi := k) (by omega) (by omega)
        rw [e1] at h
        dsimp only at h
        split at h
        · cases h
        · rename_i t ht
          cases h
          refine ⟨t, ?_, N1, List.mem_cons_self, k1⟩
          rw [show Op.lookupswitch.offset ((k, off) :: ps) d x.toInt = off by simp [Op.lookupswitch.offset, hk]]
          exact ht
      · have e : Op.lookupswitch.offset ((k, off) :: ps) d x.toInt = Op.lookupswitch.offset ps d x.toInt := by simp [Op.lookupswitch.offset, hk, Ne.symm hk]
        rw [e]
        rcases ih with ⟨t, ht, N1, hm, k1⟩ | ih
        · left
          refine ⟨t, ht, N1, ?_, k1⟩
          split at h
          · cases h; exact hm
          · split at h
            · cases h
            · cases h; exact List.mem_cons_of_mem _ hm
        · exact Or.inr ih
set_option maxHeartbeats 4000000 in
theorem as_step {i : Instr} {σ : af_S} (h : af_step own nL Sh M NT i len pc σ = some R) (hS : af_Sat Sh ρ σ (pc, lv, st, w)) : ∃ s', pi_step own ini nL i len (pc, lv, st, w) = some s' ∧ af_Ok Sh M R σ.1 ρ w s' := by
  obtain ⟨n, L, as, T, N⟩ := σ
  obtain ⟨hL, hs, hC, hT, hK⟩ := hS
  dsimp only at hL hs hC hT hK
  cases i
  case iconst k =>
    simp only [af_step] at h
    split at h
    · rename_i hlen; obtain ⟨rfl, h1, h2⟩ := hlen
      cases h
      refine ⟨_, rfl, af_Ok.push hL hs hC hT hK ⟨af_wf_c _ _, _, rfl, ?_⟩⟩
      rw [af_ev_c, Int32.toInt_ofInt]
      exact af_bm h1 h2
    · cases h
  case bipush k =>
    simp only [af_step] at h
    split at h
    · rename_i hlen; obtain ⟨rfl, h1, h2⟩ := hlen
      cases h
      refine ⟨_, rfl, af_Ok.push hL hs hC hT hK ⟨af_wf_c _ _, _, rfl, ?_⟩⟩
      rw [af_ev_c, Int8.toInt_toInt32, Int8.toInt_ofInt, show Int8.size = 256 from rfl, Int.bmod_def]
      split <;> omega
    · cases h
  case sipush k =>
    simp only [af_step] at h
    split at h
    · rename_i hlen; obtain ⟨rfl, h1, h2⟩ := hlen
      cases h
      refine ⟨_, rfl, af_Ok.push hL hs hC hT hK ⟨af_wf_c _ _, _, rfl, ?_⟩⟩
      rw [af_ev_c, Int16.toInt_toInt32, Int16.toInt_ofInt, show Int16.size = 65536 from rfl, Int.bmod_def]
      split <;> omega
    · cases h
  case lconst k =>
    simp only [af_step] at h
    split at h
    · rename_i hlen; subst hlen
      cases h
      exact ⟨_, rfl, af_Ok.push hL hs hC hT hK ⟨_, rfl⟩⟩
    · cases h
  case ldc k =>
    simp only [af_step] at h
    split at h
    · rename_i hlen; subst hlen
      split at h
      · rename_i v q hq
        cases h
        refine ⟨(pc + 2, lv, .int v :: st, w), ?_, af_Ok.push hL hs hC hT hK ⟨af_wf_c _ _, _, rfl, (af_ev_c _ _).symm⟩⟩
        simp only [pi_step, hq, if_true]
      · cases h
    · cases h
  case ldc_w k =>
    simp only [af_step] at h
    split at h
    · rename_i hlen; subst hlen
      split at h
      · rename_i v q hq
        cases h
        refine ⟨(pc + 3, lv, .int v :: st, w), ?_, af_Ok.push hL hs hC hT hK ⟨af_wf_c _ _, _, rfl, (af_ev_c _ _).symm⟩⟩
        simp only [pi_step, hq, if_true]
      · cases h
    · cases h
  case ldc2_w k =>
    simp only [af_step] at h
    split at h
    · rename_i hlen; subst hlen
      split at h
      · rename_i q hq
        cases h
        refine ⟨(pc + 3, lv, .long q.1 :: st, w), ?_, af_Ok.push hL hs hC hT hK ⟨_, rfl⟩⟩
        simp only [pi_step, hq, if_true]
      · cases h
    · cases h
  case iload k =>
    simp only [af_step] at h
    split at h
    · rename_i hlen; subst hlen
      split at h
      · rename_i f hf
        cases h
        obtain ⟨v, hv, h1, x, h2, h3⟩ := hL _ (af_getL_mem hf)
        dsimp only at hv h2
        subst h2
        refine ⟨(pc + 2, lv, .int x :: st, w), ?_, af_Ok.push hL hs hC hT hK ⟨h1, x, rfl, h3⟩⟩
        simp only [pi_step, hv, if_true]
      · cases h
    · cases h
  case iload_n k =>
    simp only [af_step] at h
    split at h
    · rename_i hlen; subst hlen
      split at h
      · rename_i f hf
        cases h
        obtain ⟨v, hv, h1, x, h2, h3⟩ := hL _ (af_getL_mem hf)
        dsimp only at hv h2
        subst h2
        refine ⟨(pc + 1, lv, .int x :: st, w), ?_, af_Ok.push hL hs hC hT hK ⟨h1, x, rfl, h3⟩⟩
        simp only [pi_step, hv, if_true]
      · cases h
    · cases h
  case lload_n k =>
    simp only [af_step] at h
    split at h
    · rename_i hlen; subst hlen
      split at h
      · rename_i u hf
        cases h
        obtain ⟨v, hv, x, h2⟩ := hL _ (af_getL_mem hf)
        dsimp only at hv h2
        subst h2
        refine ⟨(pc + 1, lv, .long x :: st, w), ?_, af_Ok.push hL hs hC hT hK ⟨x, rfl⟩⟩
        simp only [pi_step, hv, if_true]
      · cases h
    · cases h
  case aload_n k =>
    simp only [af_step] at h
    split at h
    · rename_i hlen; subst hlen
      split at h
      · rename_i a hf
        cases h
        obtain ⟨v, hv, h2⟩ := hL _ (af_getL_mem hf)
        dsimp only at hv h2
        have h2 : v = .ref a := h2
        subst h2
        refine ⟨(pc + 1, lv, .ref a :: st, w), ?_, af_Ok.push hL hs hC hT hK rfl⟩
        simp only [pi_step, hv, if_true]
      · cases h
    · cases h
  case istore k =>
    simp only [af_step] at h
    split at h
    · rename_i hlen; obtain ⟨rfl, hn⟩ := hlen
      split at h
      · rename_i f r
        cases h
        obtain ⟨x, vs1, rfl, hf, hx, hs1⟩ := st_i hs
        refine ⟨(pc + 2, pi_set lv k (.int x), vs1, w), ?_, af_Ok.same (af_setL_ok hL k ⟨hf, x, rfl, hx⟩) hs1 hC hT hK⟩
        simp only [pi_step, hn, and_self, if_true]
      · cases h
    · cases h
  case istore_n k =>
    simp only [af_step] at h
    split at h
    · rename_i hlen; obtain ⟨rfl, hn⟩ := hlen
      split at h
      · rename_i f r
        cases h
        obtain ⟨x, vs1, rfl, hf, hx, hs1⟩ := st_i hs
        refine ⟨(pc + 1, pi_set lv k (.int x), vs1, w), ?_, af_Ok.same (af_setL_ok hL k ⟨hf, x, rfl, hx⟩) hs1 hC hT hK⟩
        simp only [pi_step, hn, and_self, if_true]
      · cases h
    · cases h
  case iinc k j =>
    simp only [af_step] at h
    split at h
    · rename_i hlen; obtain ⟨rfl, hn, hj1, hj2⟩ := hlen
      split at h
      · rename_i f hf
        obtain ⟨v, hv, h1, x, h2, h3⟩ := hL _ (af_getL_mem hf)
        dsimp only at hv h2
        subst h2
        have hj : (Int32.ofInt j).toInt = af_ev ρ (j, []) := by
          rw [af_ev_c, Int32.toInt_ofInt]
          exact af_bm (by unfold af_lo; omega) (by unfold af_hi; omega)
        have hr := af_add_ok hK h1 (af_wf_c n j) h3 hj
        refine ⟨(pc + 3, pi_set lv k (.int (x + Int32.ofInt j)), st, w), by simp only [pi_step, hn, hv, and_self, if_true], ?_⟩
        split at h
        · rename_i g hg
          cases h
          rw [hg] at hr
          exact af_Ok.same (af_setL_ok hL k ⟨hr.1, _, rfl, hr.2⟩) hs hC hT hK
        · rename_i lo hi hg
          cases h
          rw [hg] at hr
          have ha := af_upd_ag ρ n (x + Int32.ofInt j).toInt
          have hn1 := Nat.le_succ n
          refine af_Ok.one (af_Fr.rf M w) rfl hn1 ⟨_, ha, af_setL_ok (hL.ag hn1 ha) k ⟨af_wf_1 n 0, _, rfl, ?_⟩, hs.ag hn1 ha, hC, hT.ag hn1 ha, (hK.ag hn1 ha).bn (Nat.lt_succ_self n) ?_ ?_⟩
          · rw [af_ev_1, af_upd_at]; omega
          · rw [af_upd_at]; exact hr.1
          · rw [af_upd_at]; exact hr.2
      · cases h
    · cases h
  case iadd =>
    simp only [af_step] at h
    split at h
    · rename_i hlen; subst hlen
      split at h
      · cases h
        obtain ⟨y, vs1, rfl, hg, hy, hs1⟩ := st_i hs
        obtain ⟨x, vs2, rfl, hf, hx, hs2⟩ := st_i hs1
        exact ⟨_, rfl, af_Ok.put hL hs2 hC hT hK (af_add_ok hK hf hg hx hy)⟩
      · cases h
    · cases h
  case isub =>
    simp only [af_step] at h
    split at h
    · rename_i hlen; subst hlen
      split at h
      · cases h
        obtain ⟨y, vs1, rfl, hg, hy, hs1⟩ := st_i hs
        obtain ⟨x, vs2, rfl, hf, hx, hs2⟩ := st_i hs1
        exact ⟨_, rfl, af_Ok.put hL hs2 hC hT hK (af_subt_ok hK hf hx hy)⟩
      · cases h
    · cases h
  case imul =>
    simp only [af_step] at h
    split at h
    · rename_i hlen; subst hlen
      split at h
      · cases h
        obtain ⟨y, vs1, rfl, hg, hy, hs1⟩ := st_i hs
        obtain ⟨x, vs2, rfl, hf, hx, hs2⟩ := st_i hs1
        exact ⟨_, rfl, af_Ok.put hL hs2 hC hT hK (af_mul_ok hK hx hy)⟩
      · cases h
    · cases h
  case iand =>
    simp only [af_step] at h
    split at h
    · rename_i hlen; subst hlen
      split at h
      · cases h
        obtain ⟨y, vs1, rfl, hg, hy, hs1⟩ := st_i hs
        obtain ⟨x, vs2, rfl, hf, hx, hs2⟩ := st_i hs1
        exact ⟨_, rfl, af_Ok.put hL hs2 hC hT hK (af_and_ok hK hx hy)⟩
      · cases h
    · cases h
  case ior =>
    simp only [af_step] at h
    split at h
    · rename_i hlen; subst hlen
      split at h
      · cases h
        obtain ⟨y, vs1, rfl, hg, hy, hs1⟩ := st_i hs
        obtain ⟨x, vs2, rfl, hf, hx, hs2⟩ := st_i hs1
        exact ⟨_, rfl, af_Ok.put hL hs2 hC hT hK (af_Rs.full _ _ _)⟩
      · cases h
    · cases h
  case ixor =>
    simp only [af_step] at h
    split at h
    · rename_i hlen; subst hlen
      split at h
      · cases h
        obtain ⟨y, vs1, rfl, hg, hy, hs1⟩ := st_i hs
        obtain ⟨x, vs2, rfl, hf, hx, hs2⟩ := st_i hs1
        exact ⟨_, rfl, af_Ok.put hL hs2 hC hT hK (af_Rs.full _ _ _)⟩
      · cases h
    · cases h
  case ishl =>
    simp only [af_step] at h
    split at h
    · rename_i hlen; subst hlen
      split at h
      · cases h
        obtain ⟨y, vs1, rfl, hg, hy, hs1⟩ := st_i hs
        obtain ⟨x, vs2, rfl, hf, hx, hs2⟩ := st_i hs1
        exact ⟨_, rfl, af_Ok.put hL hs2 hC hT hK (af_Rs.full _ _ _)⟩
      · cases h
    · cases h
  case ishr =>
    simp only [af_step] at h
    split at h
    · rename_i hlen; subst hlen
      split at h
      · cases h
        obtain ⟨y, vs1, rfl, hg, hy, hs1⟩ := st_i hs
        obtain ⟨x, vs2, rfl, hf, hx, hs2⟩ := st_i hs1
        exact ⟨_, rfl, af_Ok.put hL hs2 hC hT hK (af_Rs.full _ _ _)⟩
      · cases h
    · cases h
  case iushr =>
    simp only [af_step] at h
    split at h
    · rename_i hlen; subst hlen
      split at h
      · cases h
        obtain ⟨y, vs1, rfl, hg, hy, hs1⟩ := st_i hs
        obtain ⟨x, vs2, rfl, hf, hx, hs2⟩ := st_i hs1
        exact ⟨_, rfl, af_Ok.put hL hs2 hC hT hK (af_ushr_ok hK hy)⟩
      · cases h
    · cases h
  case irem =>
    simp only [af_step] at h
    split at h
    · rename_i hlen; subst hlen
      split at h
      · split at h
        · cases h
        · rename_i q hq
          cases h
          obtain ⟨y, vs1, rfl, hg, hy, hs1⟩ := st_i hs
          obtain ⟨x, vs2, rfl, hf, hx, hs2⟩ := st_i hs1
          obtain ⟨hy0, hr⟩ := af_rem_ok hK hx hy hq
          refine ⟨(pc + 1, lv, .int (x - x / y * y) :: vs2, w), ?_, af_Ok.put hL hs2 hC hT hK hr⟩
          simp only [pi_step, hy0, if_true, if_false]
      · cases h
    · cases h
  case i2b =>
    simp only [af_step] at h
    split at h
    · rename_i hlen; subst hlen
      split at h
      · cases h
        obtain ⟨x, vs1, rfl, hf, hx, hs1⟩ := st_i hs
        refine ⟨_, rfl, af_Ok.put hL hs1 hC hT hK ?_⟩
        have e := Int8.toInt_toInt32 x.toInt8
        have h1 := Int8.le_toInt x.toInt8
        have h2 := Int8.toInt_lt x.toInt8
        exact ⟨by omega, by omega⟩
      · cases h
    · cases h
  case i2l =>
    simp only [af_step] at h
    split at h
    · rename_i hlen; subst hlen
      split at h
      · cases h
        obtain ⟨x, vs1, rfl, hf, hx, hs1⟩ := st_i hs
        exact ⟨_, rfl, af_Ok.push hL hs1 hC hT hK ⟨_, rfl⟩⟩
      · cases h
    · cases h
  case ladd =>
    simp only [af_step] at h
    split at h
    · rename_i hlen; subst hlen
      split at h
      · cases h
        obtain ⟨y, vs1, rfl, hs1⟩ := st_l hs
        obtain ⟨x, vs2, rfl, hs2⟩ := st_l hs1
        exact ⟨_, rfl, af_Ok.push hL hs2 hC hT hK ⟨_, rfl⟩⟩
      · cases h
    · cases h
  case lmul =>
    simp only [af_step] at h
    split at h
    · rename_i hlen; subst hlen
      split at h
      · cases h
        obtain ⟨y, vs1, rfl, hs1⟩ := st_l hs
        obtain ⟨x, vs2, rfl, hs2⟩ := st_l hs1
        exact ⟨_, rfl, af_Ok.push hL hs2 hC hT hK ⟨_, rfl⟩⟩
      · cases h
    · cases h
  case lor =>
    simp only [af_step] at h
    split at h
    · rename_i hlen; subst hlen
      split at h
      · cases h
        obtain ⟨y, vs1, rfl, hs1⟩ := st_l hs
        obtain ⟨x, vs2, rfl, hs2⟩ := st_l hs1
        exact ⟨_, rfl, af_Ok.push hL hs2 hC hT hK ⟨_, rfl⟩⟩
      · cases h
    · cases h
  case lshl =>
    simp only [af_step] at h
    split at h
    · rename_i hlen; subst hlen
      split at h
      · cases h
        obtain ⟨y, vs1, rfl, hg, hy, hs1⟩ := st_i hs
        obtain ⟨x, vs2, rfl, hs2⟩ := st_l hs1
        exact ⟨_, rfl, af_Ok.push hL hs2 hC hT hK ⟨_, rfl⟩⟩
      · cases h
    · cases h
  case lcmp =>
    simp only [af_step] at h
    split at h
    · rename_i hlen; subst hlen
      split at h
      · cases h
        obtain ⟨y, vs1, rfl, hs1⟩ := st_l hs
        obtain ⟨x, vs2, rfl, hs2⟩ := st_l hs1
        refine ⟨_, rfl, af_Ok.put hL hs2 hC hT hK ?_⟩
        unfold lg_cmp
        repeat' split
        all_goals exact ⟨by decide, by decide⟩
      · cases h
    · cases h
  case dup =>
    simp only [af_step] at h
    split at h
    · rename_i hlen; subst hlen
      split at h
      · cases h
        obtain ⟨x, vs1, rfl, hf, hx, hs1⟩ := st_i hs
        exact ⟨_, rfl, af_Ok.push hL ⟨⟨hf, x, rfl, hx⟩, hs1⟩ hC hT hK ⟨hf, x, rfl, hx⟩⟩
      · cases h
        obtain ⟨vs1, rfl, hs1⟩ := st_r hs
        exact ⟨_, rfl, af_Ok.push hL ⟨rfl, hs1⟩ hC hT hK rfl⟩
      · cases h
    · cases h
  case pop =>
    simp only [af_step] at h
    split at h
    · rename_i hlen; subst hlen
      split at h
      · cases h
        obtain ⟨x, vs1, rfl, hf, hx, hs1⟩ := st_i hs
        exact ⟨_, rfl, af_Ok.same hL hs1 hC hT hK⟩
      · cases h
        obtain ⟨vs1, rfl, hs1⟩ := st_r hs
        exact ⟨_, rfl, af_Ok.same hL hs1 hC hT hK⟩
      · cases h
    · cases h
  case dup2 =>
    simp only [af_step] at h
    split at h
    · rename_i hlen; subst hlen
      split at h
      · cases h
        obtain ⟨x, vs1, rfl, hf, hx, hs1⟩ := st_i hs
        obtain ⟨vs2, rfl, hs2⟩ := st_r hs1
        exact ⟨_, rfl, af_Ok.push hL ⟨rfl, ⟨hf, x, rfl, hx⟩, rfl, hs2⟩ hC hT hK ⟨hf, x, rfl, hx⟩⟩
      · cases h
    · cases h
  case ifCond cd off =>
    simp only [af_step] at h
    split at h
    · rename_i hlen; subst hlen
      split at h
      · rename_i f r t ht
        cases h
        obtain ⟨x, vs1, rfl, hf, hx, hs1⟩ := st_i hs
        refine ⟨(if pi_cmp cd x 0 = true then t else pc + 3, lv, vs1, w), ?_, af_br_ok hL hs1 hC hT hK hf (af_wf_c n 0) hx (by rw [af_ev_c]; rfl)⟩
        simp only [pi_step, ht, if_true]
        split <;> rfl
      · cases h
    · cases h
  case if_icmp cd off =>
    simp only [af_step] at h
    split at h
    · rename_i hlen; subst hlen
      split at h
      · rename_i g f r t ht
        cases h
        obtain ⟨y, vs1, rfl, hg, hy, hs1⟩ := st_i hs
        obtain ⟨x, vs2, rfl, hf, hx, hs2⟩ := st_i hs1
        refine ⟨(if pi_cmp cd x y = true then t else pc + 3, lv, vs2, w), ?_, af_br_ok hL hs2 hC hT hK hf hg hx hy⟩
        simp only [pi_step, ht, if_true]
        split <;> rfl
      · cases h
    · cases h
  case goto off =>
    simp only [af_step] at h
    split at h
    · rename_i hlen; subst hlen
      split at h
      · rename_i t ht
        cases h
        refine ⟨(t, lv, st, w), ?_, af_Ok.same hL hs hC hT hK⟩
        simp only [pi_step, ht, if_true, pi_jump]
      · cases h
    · cases h
  case tableswitch dflt lo hi offs =>
    simp only [af_step] at h
    split at h
    · rename_i f r
      split at h
      · rename_i hsz
        obtain ⟨x, vs1, rfl, hf, hx, hs1⟩ := st_i hs
        obtain ⟨R1, R2, R3, e1, e2, e3, rfl⟩ := af_app3_of h
        by_cases hlo : x.toInt < lo
        · obtain ⟨N1, c1, k1⟩ := af_clip_ok hK hf (lo := af_lo) (hi := lo - 1) (by rw [← hx]; exact (af_i32 x).1) (by omega)
          rw [c1] at e2
          obtain ⟨t, ht, rfl⟩ := af_one_of e2
          refine ⟨(t, lv, vs1, w), ?_, af_Fr.rf M w, (t, n, L, r, T, N1), by simp, rfl, Nat.le_refl _, ρ, af_ag.rf _ _, hL, hs1, hC, hT, k1⟩
          simp only [pi_step, hlo, true_or, if_true, ht, pi_jump]
        · by_cases hhi : hi < x.toInt
          · obtain ⟨N1, c1, k1⟩ := af_clip_ok hK hf (lo := hi + 1) (hi := af_hi) (by omega) (by rw [← hx]; exact (af_i32 x).2)
            rw [c1] at e3
            obtain ⟨t, ht, rfl⟩ := af_one_of e3
            refine ⟨(t, lv, vs1, w), ?_, af_Fr.rf M w, (t, n, L, r, T, N1), by simp, rfl, Nat.le_refl _, ρ, af_ag.rf _ _, hL, hs1, hC, hT, k1⟩
            simp only [pi_step, hhi, or_true, if_true, ht, pi_jump]
          · have hj : (x.toInt - lo).toNat < offs.size := by omega
            have ho : offs[(x.toInt - lo).toNat]? = some offs[(x.toInt - lo).toNat] := Array.getElem?_eq_getElem hj
            obtain ⟨t, ht, N1, hm, k1⟩ := af_tsw_ok hL hs1 hC hT hK hf hx e1 (x.toInt - lo).toNat offs[(x.toInt - lo).toNat] (by rw [Array.getElem?_toList]; exact ho) (by omega)
            refine ⟨(t, lv, vs1, w), ?_, af_Fr.rf M w, (t, n, L, r, T, N1), List.mem_append_left _ hm, rfl, Nat.le_refl _, ρ, af_ag.rf _ _, hL, hs1, hC, hT, k1⟩
            simp only [pi_step, hlo, hhi, or_self, if_false, ho, ht, pi_jump]
      · cases h
    · cases h
  case lookupswitch dflt ps =>
    simp only [af_step] at h
    split at h
    · rename_i f r
      split at h
      · rename_i hsz
        obtain ⟨x, vs1, rfl, hf, hx, hs1⟩ := st_i hs
        obtain ⟨R1, R2, R3, e1, e2, e3, rfl⟩ := af_app3_of h
        rcases af_lsw_ok hL hs1 hC hT hK hf hx dflt e1 with ⟨t, ht, N1, hm, k1⟩ | hd
        · refine ⟨(t, lv, vs1, w), ?_, af_Fr.rf M w, (t, n, L, r, T, N1), List.mem_append_left _ hm, rfl, Nat.le_refl _, ρ, af_ag.rf _ _, hL, hs1, hC, hT, k1⟩
          simp only [pi_step, hsz, if_true, ht, pi_jump]
        · obtain ⟨t, ht, rfl⟩ := af_one_of e2
          refine ⟨(t, lv, vs1, w), ?_, af_Fr.rf M w, (t, n, L, r, T, N), by simp, rfl, Nat.le_refl _, ρ, af_ag.rf _ _, hL, hs1, hC, hT, hK⟩
          simp only [pi_step, hsz, if_true, hd, ht, pi_jump]
      · cases h
    · cases h
  case iaload =>
    simp only [af_step] at h
    split at h
    · rename_i hlen; subst hlen
      split at h
      · rename_i f a r
        obtain ⟨i, vs1, rfl, hf, hi, hs1⟩ := st_i hs
        obtain ⟨vs2, rfl, hs2⟩ := st_r hs1
        split at h
        · rename_i m S hSh
          obtain ⟨e, he, hoc⟩ := hC.at hSh
          obtain ⟨fn, rfl, hfn⟩ := af_okA.int (by decide) hoc
          split at h
          · cases h
          · rename_i x y hix
            obtain ⟨g1, g2, g3, g4, g5⟩ := af_idx_ok hK hix hi
            obtain ⟨q, q1, q2, q3⟩ := hfn _ g4
            have hstep : pi_step own ini nL .iaload 1 (pc, lv, .int i :: .ref a :: vs2, w) = some (pc + 1, lv, .int (fn i.toNatClampNeg) :: vs2, w) := by
              simp only [pi_step, he, g1, if_true, if_false]
            refine ⟨_, hstep, ?_⟩
            split at h
            · rename_i hxy
              split at h
              · cases h
              · rename_i lo2 hi2 hsg
                cases h
                have hj : i.toNatClampNeg = x := by omega
                rw [hj] at q1 q2 q3 ⊢
                rw [hsg] at q1
                cases q1
                refine af_rd hL hs2 hC hT hK (hC.lt hSh) ?_ q2 q3
                unfold af_wloc
                rw [he]
                simp only [af_cloc]
                rw [if_pos (by omega)]
            · split at h
              · cases h
              · rename_i lo2 hi2 hjn
                cases h
                have r := af_join_ok hjn _ g2 g3 q q1
                obtain ⟨s1, s2, s3, s4, s5⟩ := af_fresh (pc' := pc + 1) (lo := lo2) (hi := hi2) (x := fn i.toNatClampNeg) hL hs2 hC hT hK (by omega) (by omega)
                have ha := af_upd_ag ρ n (fn i.toNatClampNeg).toInt
                refine af_Ok.one (af_Fr.rf M w) rfl (Nat.le_succ n) ⟨_, ha, s1, s2, s3, s4, s5.1, s5.2.1, ?_⟩
                intro e' he'
                rcases List.mem_cons.mp he' with rfl | he'
                · refine ⟨Nat.lt_succ_self n, hf.mono (Nat.le_succ n), m, S, q, hSh, ?_, ?_, ?_, ?_⟩
                  · rw [af_ev_ag hf ha, ← hi]; omega
                  · rw [af_ev_ag hf ha, ← hi, ← g5]; exact q1
                  · rw [af_upd_at]; exact q2
                  · rw [af_upd_at]; exact q3
                · exact s5.2.2 e' he'
        · cases h
      · cases h
    · cases h
  case baload =>
    simp only [af_step] at h
    split at h
    · rename_i hlen; subst hlen
      split at h
      · rename_i f a r
        obtain ⟨i, vs1, rfl, hf, hi, hs1⟩ := st_i hs
        obtain ⟨vs2, rfl, hs2⟩ := st_r hs1
        split at h
        · rename_i t m S hSh
          split at h
          · rename_i ht
            obtain ⟨e, he, hoc⟩ := hC.at hSh
            obtain ⟨fn, rfl, hfn⟩ := af_okA.int (by omega) hoc
            split at h
            · cases h
            · rename_i x y hix
              obtain ⟨g1, g2, g3, g4, g5⟩ := af_idx_ok hK hix hi
              obtain ⟨q, q1, q2, q3⟩ := hfn _ g4
              have hstep : pi_step own ini nL .baload 1 (pc, lv, .int i :: .ref a :: vs2, w) = some (pc + 1, lv, .int (fn i.toNatClampNeg) :: vs2, w) := by
                rcases ht with rfl | rfl
                · simp only [pi_step, he, g1, if_true, if_false]
                · simp only [pi_step, he, g1, if_true, if_false]
              refine ⟨_, hstep, ?_⟩
              split at h
              · rename_i hxy
                split at h
                · cases h
                · rename_i lo hi hsg
                  cases h
                  have hj : i.toNatClampNeg = x := by omega
                  rw [hj] at q1 q2 q3 ⊢
                  rw [hsg] at q1
                  cases q1
                  refine af_rd hL hs2 hC hT hK (hC.lt hSh) ?_ q2 q3
                  unfold af_wloc
                  rw [he]
                  simp only [af_cloc]
                  rw [if_pos (by omega)]
              · split at h
                · cases h
                · rename_i lo hi hjn
                  cases h
                  have r := af_join_ok hjn _ g2 g3 q q1
                  exact af_Ok.put hL hs2 hC hT hK ⟨by omega, by omega⟩
          · cases h
        · cases h
      · cases h
    · cases h
  case laload =>
    simp only [af_step] at h
    split at h
    · rename_i hlen; subst hlen
      split at h
      · rename_i f a r
        obtain ⟨i, vs1, rfl, hf, hi, hs1⟩ := st_i hs
        obtain ⟨vs2, rfl, hs2⟩ := st_r hs1
        split at h
        · rename_i m S hSh
          obtain ⟨e, he, hoc⟩ := hC.at hSh
          obtain ⟨fn, rfl⟩ := af_okA.lng hoc
          split at h
          · cases h
          · rename_i q hix
            cases h
            obtain ⟨g1, g2, g3, g4, g5⟩ := af_idx_ok (a := q.1) (b := q.2) hK hix hi
            refine ⟨(pc + 1, lv, .long (fn i.toNatClampNeg) :: vs2, w), ?_, af_Ok.push hL hs2 hC hT hK ⟨_, rfl⟩⟩
            simp only [pi_step, he, g1, if_true, if_false]
        · cases h
      · cases h
    · cases h
  case arraylength =>
    simp only [af_step] at h
    split at h
    · rename_i hlen; subst hlen
      split at h
      · rename_i a r
        obtain ⟨vs1, rfl, hs1⟩ := st_r hs
        split at h
        · rename_i t m S hSh
          split at h
          · rename_i hm
            cases h
            obtain ⟨e, he, hoc⟩ := hC.at hSh
            have he2 : t < 4 ∧ ∃ g, e = .inl (t, m, g) := by
              by_cases ht : t = 2
              · subst ht
                obtain ⟨fn, rfl⟩ := af_okA.lng hoc
                exact ⟨by decide, _, rfl⟩
              · have h4 : t < 4 := by
                  have h5 : af_okA t m S e := hoc
                  unfold af_okA at h5
                  rw [if_neg ht] at h5
                  exact h5.1
                obtain ⟨fn, rfl, -⟩ := af_okA.int ht hoc
                exact ⟨h4, _, rfl⟩
            obtain ⟨h4, g, rfl⟩ := he2
            refine ⟨(pc + 1, lv, .int (Int32.ofNat m) :: vs1, w), ?_, af_Ok.push hL hs1 hC hT hK ⟨af_wf_c _ _, _, rfl, ?_⟩⟩
            · simp only [pi_step, he, h4, if_true]
            · rw [af_ev_c]
              unfold af_hi at hm
              exact nI_toInt (by omega)
          · cases h
        · cases h
      · cases h
    · cases h
  case iastore =>
    simp only [af_step] at h
    split at h
    · rename_i hlen; subst hlen
      split at h
      · rename_i g f a r
        obtain ⟨v, vs0, rfl, hg, hv, hs0⟩ := st_i hs
        obtain ⟨i, vs1, rfl, hf, hie, hs1⟩ := st_i hs0
        obtain ⟨vs2, rfl, hs2⟩ := st_r hs1
        split at h
        · rename_i m S hSh
          obtain ⟨e, he, hoc⟩ := hC.at hSh
          obtain ⟨fn, rfl, hfn⟩ := af_okA.int (by decide) hoc
          split at h
          · rename_i x y lo2 hi2 hix hiv
            split at h
            · rename_i hcond
              cases h
              obtain ⟨g1, g2, g3, g4, g5⟩ := af_idx_ok hK hix hie
              have hb := af_iv_ok hK hiv
              have hval : ∀ q, af_seg S i.toNatClampNeg = some q → q.1 ≤ v.toInt ∧ v.toInt ≤ q.2 := by
                rcases hcond.1 with hfit | hor
                · intro q hq
                  have hh := af_fitS_ok hfit _ g2 g3 q hq
                  omega
                · exact af_orig_ok hK hor g2 g3 hv (by omega)
              refine ⟨(pc + 1, lv, vs2, w.set a (.inl (0, m, .inl (upd fn i.toNatClampNeg v)))), ?_, af_wr hL hs2 hC hT hK hSh he (af_okA.upd (by decide) (by decide) hfn hval) af_cloc_upd g2 g3 hcond.2 ?_⟩
              · simp only [pi_step, he, g1, if_true, if_false]
              · split
                · rename_i hxy
                  exact Or.inr ⟨g, v, rfl, hxy.1, af_cloc_at g4, hg, hv⟩
                · exact Or.inl rfl
            · cases h
          · cases h
        · cases h
      · cases h
    · cases h
  case bastore =>
    simp only [af_step] at h
    split at h
    · rename_i hlen; subst hlen
      split at h
      · rename_i g f a r
        obtain ⟨v, vs0, rfl, hg, hv, hs0⟩ := st_i hs
        obtain ⟨i, vs1, rfl, hf, hie, hs1⟩ := st_i hs0
        obtain ⟨vs2, rfl, hs2⟩ := st_r hs1
        split at h
        · rename_i m S hSh
          obtain ⟨e, he, hoc⟩ := hC.at hSh
          obtain ⟨fn, rfl, hfn⟩ := af_okA.int (by decide) hoc
          split at h
          · rename_i x y hix
            split at h
            · rename_i hcond
              cases h
              obtain ⟨g1, g2, g3, g4, g5⟩ := af_idx_ok hK hix hie
              refine ⟨(pc + 1, lv, vs2, w.set a (.inl (1, m, .inl (upd fn i.toNatClampNeg (vp_nar .byte v))))), ?_, af_wr hL hs2 hC hT hK hSh he (af_okA.upd (by decide) (by decide) hfn ?_) af_cloc_upd g2 g3 hcond.2 (Or.inl rfl)⟩
              · simp only [pi_step, he, g1, if_true, if_false]
              · intro q hq
                have hh := af_fitS_ok hcond.1 _ g2 g3 q hq
                have h8 := af_b8 v
                omega
            · cases h
          · cases h
        · rename_i m S hSh
          obtain ⟨e, he, hoc⟩ := hC.at hSh
          obtain ⟨fn, rfl, hfn⟩ := af_okA.int (by decide) hoc
          split at h
          · rename_i x y lo2 hi2 hix hiv
            split at h
            · rename_i hcond
              cases h
              obtain ⟨g1, g2, g3, g4, g5⟩ := af_idx_ok hK hix hie
              have hb := af_iv_ok hK hiv
              have hz : vp_nar .boolean v = v := af_z1 (by omega) (by omega)
              refine ⟨(pc + 1, lv, vs2, w.set a (.inl (3, m, .inl (upd fn i.toNatClampNeg v)))), ?_, af_wr hL hs2 hC hT hK hSh he (af_okA.upd (by decide) (by decide) hfn ?_) af_cloc_upd g2 g3 hcond.2.2.2 ?_⟩
              · simp only [pi_step, he, g1, hz, if_true, if_false]
              · intro q hq
                have hh := af_fitS_ok hcond.1 _ g2 g3 q hq
                omega
              · split
                · rename_i hxy
                  exact Or.inr ⟨g, v, rfl, hxy.1, af_cloc_at g4, hg, hv⟩
                · exact Or.inl rfl
            · cases h
          · cases h
        · cases h
      · cases h
    · cases h
  case lastore =>
    simp only [af_step] at h
    split at h
    · rename_i hlen; subst hlen
      split at h
      · rename_i u f a r
        obtain ⟨v, vs0, rfl, hs0⟩ := st_l hs
        obtain ⟨i, vs1, rfl, hf, hie, hs1⟩ := st_i hs0
        obtain ⟨vs2, rfl, hs2⟩ := st_r hs1
        split at h
        · rename_i m S hSh
          obtain ⟨e, he, hoc⟩ := hC.at hSh
          obtain ⟨fn, rfl⟩ := af_okA.lng hoc
          split at h
          · rename_i x y hix
            split at h
            · rename_i hcond
              cases h
              obtain ⟨g1, g2, g3, g4, g5⟩ := af_idx_ok hK hix hie
              refine ⟨(pc + 1, lv, vs2, w.set a (.inl (2, m, .inr (.inl (vp_updL fn i.toNatClampNeg v))))), ?_, af_wrL hL hs2 hC hT hK hSh he ?_ ?_ g2 g3 hcond ⟨fn i.toNatClampNeg, by simp only [af_cloc, if_pos g4]⟩ ⟨v, by simp only [af_cloc, vp_updL, if_pos g4, if_true]⟩⟩
              · simp only [pi_step, he, g1, if_true, if_false]
              · show af_okA 2 m S _
                unfold af_okA
                rw [if_pos rfl]
                exact ⟨_, rfl⟩
              · intro i' hi'
                simp only [af_cloc, vp_updL, if_neg hi']
            · cases h
          · cases h
        · cases h
      · cases h
    · cases h
  case getfield cp =>
    simp only [af_step] at h
    split at h
    · rename_i hlen; subst hlen
      split at h
      · rename_i a r
        obtain ⟨vs1, rfl, hs1⟩ := st_r hs
        split at h
        · rename_i ci k u hlk
          split at h
          · rename_i c fts hSh
            split at h
            · rename_i hc; subst hc
              obtain ⟨e, he, hoc⟩ := hC.at hSh
              obtain ⟨fs, rfl, hln, hfs⟩ := hoc
              have hstep : ∀ v, fs[k]? = some v → pi_step own ini nL (.getfield cp) 3 (pc, lv, .ref a :: vs1, w) = some (pc + 3, lv, v :: vs1, w) := by
                intro v hv
                simp only [pi_step, hlk, he, hv, if_true]
              split at h
              · rename_i b hft
                cases h
                obtain ⟨v, hv, ho⟩ := hfs k _ hft
                have ho2 : v = .ref b := ho
                subst ho2
                exact ⟨_, hstep _ hv, af_Ok.push hL hs1 hC hT hK rfl⟩
              · rename_i lo2 hi2 hft
                cases h
                obtain ⟨v, hv, x, rfl, q1, q2⟩ := hfs k _ hft
                exact ⟨_, hstep _ hv, af_rd hL hs1 hC hT hK (hC.lt hSh) (by unfold af_wloc; rw [he]; exact hv) q1 q2⟩
              · rename_i hft
                cases h
                obtain ⟨v, hv, x, rfl⟩ := hfs k _ hft
                exact ⟨_, hstep _ hv, af_Ok.push hL hs1 hC hT hK ⟨_, rfl⟩⟩
              · cases h
            · cases h
          · cases h
        · cases h
      · cases h
    · cases h
  case putfield cp =>
    simp only [af_step] at h
    split at h
    · rename_i hlen; subst hlen
      split at h
      · rename_i g a r
        obtain ⟨v, vs0, rfl, hg, hv, hs0⟩ := st_i hs
        obtain ⟨vs1, rfl, hs1⟩ := st_r hs0
        split at h
        · rename_i ci k u hlk
          split at h
          · rename_i c fts lo2 hi2 hSh hiv
            split at h
            · rename_i hc
              obtain ⟨rfl, hfin, hM⟩ := hc
              split at h
              · rename_i l hh hft
                split at h
                · rename_i hr
                  cases h
                  obtain ⟨e, he, hoc⟩ := hC.at hSh
                  obtain ⟨fs, rfl, hln, hfs⟩ := hoc
                  have hb := af_iv_ok hK hiv
                  have hkl : k < fs.length := by rw [hln]; exact (List.getElem?_eq_some_iff.mp hft).1
                  have hnf : narrow (pi_ty c k) (.int v) = .int v ∧ fits (pi_ty c k) (.int v) = true := by
                    rcases hr.2.2 with hty | hty
                    · rw [hty]; exact ⟨rfl, rfl⟩
                    · rw [hty.1]; exact ⟨af_nz (by omega) (by omega), af_ft (by omega) (by omega)⟩
                  refine ⟨(pc + 3, lv, vs1, w.set a (.inr (c, fs.set k (.int v)))), ?_, af_wr hL hs1 hC hT hK hSh he (e := .inr (c, fs.set k (.int v))) (j := k) ?_ ?_ (Nat.le_refl k) (Nat.le_refl k) hM (Or.inr ⟨g, v, rfl, rfl, ?_, hg, hv⟩)⟩
                  · simp only [pi_step, hlk, he]
                    rw [if_pos trivial, if_pos ⟨trivial, hkl, hnf.1, hnf.2, Or.inr hfin⟩]
                  · exact af_okO_set hln hfs hft ⟨v, rfl, by omega, by omega⟩
                  · intro i' hi'
                    simp only [af_cloc]
                    exact List.getElem?_set_ne (fun q => hi' q.symm)
                  · simp only [af_cloc]
                    exact List.getElem?_set_self hkl
                · cases h
              · cases h
            · cases h
          · cases h
        · cases h
      · rename_i u a r
        obtain ⟨v, vs0, rfl, hs0⟩ := st_l hs
        obtain ⟨vs1, rfl, hs1⟩ := st_r hs0
        split at h
        · rename_i ci k u2 hlk
          split at h
          · rename_i c fts hSh
            split at h
            · rename_i hc
              obtain ⟨rfl, hfin, hM, hty⟩ := hc
              split at h
              · rename_i hft
                cases h
                obtain ⟨e, he, hoc⟩ := hC.at hSh
                obtain ⟨fs, rfl, hln, hfs⟩ := hoc
                have hkl : k < fs.length := by rw [hln]; exact (List.getElem?_eq_some_iff.mp hft).1
                have hnf : narrow (pi_ty c k) (.long v) = .long v ∧ fits (pi_ty c k) (.long v) = true := by rw [hty]; exact ⟨rfl, rfl⟩
                refine ⟨(pc + 3, lv, vs1, w.set a (.inr (c, fs.set k (.long v)))), ?_, af_wrL hL hs1 hC hT hK hSh he (e := .inr (c, fs.set k (.long v))) (j := k) ?_ ?_ (Nat.le_refl k) (Nat.le_refl k) hM ?_ ⟨v, List.getElem?_set_self hkl⟩⟩
                · simp only [pi_step, hlk, he]
                  rw [if_pos trivial, if_pos ⟨trivial, hkl, hnf.1, hnf.2, Or.inr hfin⟩]
                · exact af_okO_set hln hfs hft ⟨v, rfl⟩
                · intro i' hi'
                  simp only [af_cloc]
                  exact List.getElem?_set_ne (fun q => hi' q.symm)
                · obtain ⟨v0, hv0, x0, rfl⟩ := hfs k _ hft
                  exact ⟨x0, hv0⟩
              · cases h
            · cases h
          · cases h
        · cases h
      · cases h
    · cases h
  all_goals exact absurd h (by simp [af_step])
end AFS
