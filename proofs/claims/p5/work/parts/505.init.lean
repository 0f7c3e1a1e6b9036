/-! ===== the two constructors, run ===== -/
def cf_seg (S : List (Nat × Int × Int)) (f : Nat → Int32) (n : Nat) : Bool := (List.range n).all (fun i => match af_seg S i with
  | some q => decide (q.1 ≤ (f i).toInt) && decide ((f i).toInt ≤ q.2)
  | none => false)
def cf_F (ft : Nat ⊕ (Int × Int) ⊕ Unit) (v : Value) : Bool := match ft, v with
  | .inl k, .ref a => a == k
  | .inr (.inl q), .int x => decide (q.1 ≤ x.toInt) && decide (x.toInt ≤ q.2)
  | .inr (.inr _), .long _ => true
  | _, _ => false
def cf_C (c : af_C) (e : pi_E) : Bool := match c, e with
  | .inl (t, n, S), .inl (t', n', a) => t == t' && (n == n' && (match a with
    | .inl f => decide (t ≠ 2) && (decide (t < 4) && cf_seg S f n)
    | .inr (.inl _) => decide (t = 2)
    | _ => false))
  | .inr (ci, fts), .inr (ci', fs) => ci == ci' && (fs.length == fts.length && (List.zip fts fs).all (fun q => cf_F q.1 q.2))
  | _, _ => false
def cf_W (Sh : af_H) (w : pi_W) : Bool := w.length == Sh.length && (decide (Sh.length ≤ 1000) && (List.zip Sh w).all (fun q => cf_C q.1 q.2))
theorem cf_F_ok {ft : Nat ⊕ (Int × Int) ⊕ Unit} {v : Value} (h : cf_F ft v = true) : af_okF ft v := by
  unfold cf_F at h
  split at h
  · rename_i k a
    have h2 : a = k := by simpa using h
    show Value.ref a = .ref k
    rw [h2]
  · rename_i q x
    obtain ⟨lo, hi⟩ := q
    simp only [Bool.and_eq_true, decide_eq_true_eq] at h
    exact ⟨x, rfl, h.1, h.2⟩
  · exact ⟨_, rfl⟩
  · cases h
theorem cf_C_ok {c : af_C} {e : pi_E} (h : cf_C c e = true) : af_okC c e := by
  unfold cf_C at h
  split at h
  · rename_i t n S t' n' a
    rw [Bool.and_eq_true, Bool.and_eq_true, beq_iff_eq, beq_iff_eq] at h
    obtain ⟨rfl, rfl, h⟩ := h
    show af_okA t n S _
    unfold af_okA
    split at h
    · rename_i f
      simp only [Bool.and_eq_true, decide_eq_true_eq] at h
      obtain ⟨h1, h2, h3⟩ := h
      rw [if_neg h1]
      refine ⟨h2, f, rfl, fun i hi => ?_⟩
      have h4 := List.all_eq_true.mp h3 i (List.mem_range.mpr hi)
      split at h4
      · rename_i q hq
        simp only [Bool.and_eq_true, decide_eq_true_eq] at h4
        exact ⟨q, hq, h4.1, h4.2⟩
      · cases h4
    · rename_i f
      simp only [decide_eq_true_eq] at h
      subst h
      rw [if_pos rfl]
      exact ⟨f, rfl⟩
    · cases h
  · rename_i ci fts ci' fs
    rw [Bool.and_eq_true, Bool.and_eq_true, beq_iff_eq, beq_iff_eq] at h
    obtain ⟨rfl, h1, h2⟩ := h
    refine ⟨fs, rfl, h1, fun j ft hj => ?_⟩
    have hl : j < fts.length := (List.getElem?_eq_some_iff.mp hj).1
    have hv : fs[j]? = some fs[j] := List.getElem?_eq_getElem (by omega)
    refine ⟨fs[j], hv, cf_F_ok (List.all_eq_true.mp h2 (ft, fs[j]) (List.mem_of_getElem? (i := j) ?_))⟩
    rw [List.getElem?_zip_eq_some]
    exact ⟨hj, hv⟩
  · cases h
theorem cf_W_ok {Sh : af_H} {w : pi_W} (h : cf_W Sh w = true) : af_Conf Sh w := by
  unfold cf_W at h
  rw [Bool.and_eq_true, Bool.and_eq_true, beq_iff_eq, decide_eq_true_eq] at h
  obtain ⟨h1, h2, h3⟩ := h
  refine ⟨h1, h2, fun k c hk => ?_⟩
  have hl : k < Sh.length := (List.getElem?_eq_some_iff.mp hk).1
  have hv : w[k]? = some w[k] := List.getElem?_eq_getElem (by omega)
  refine ⟨w[k], hv, cf_C_ok (List.all_eq_true.mp h3 (c, w[k]) (List.mem_of_getElem? (i := k) ?_))⟩
  rw [List.getElem?_zip_eq_some]
  exact ⟨hk, hv⟩
def cf_z (w : pi_W) (c i : Nat) : Bool := match af_wloc w c i with
  | some (.int x) => x == 0
  | _ => false
def cf_t (w : pi_W) : Bool := (((List.range 940).all (fun n => decide (gv w 2 n = 0) && decide (gv w 62 n = 0)) && (List.range 29).all (fun k => decide (gl w 3 k = Int64.ofNat (tq_c32 (tq_kw.getD k []))) && decide (gl w 67 k = Int64.ofNat (tq_c256 (tq_kw.getD k []))))) && ((List.range 170).all (fun n => decide (gv w 5 n = 0) && (decide (gv w 40 n = 0) && decide (gv w 51 n = 0))) && (List.range 115).all (fun n => decide (gv w 63 (0 + n) = 0) && (decide (gv w 76 (0 + n) = 0) && decide (gv w 76 (411 + n) = 0))))) && (decide (gv w 1 10 = 0) && decide (gv w 61 15 = 0))
theorem cf_t_ok {w : pi_W} (h : cf_t w = true) : (∀ n, n < 940 → gv w 2 n = gv w 62 n) ∧ tq_V w ∧ tq_Vm w ∧ LA w 5 6 63 0 66 0 ∧ LA w 40 41 76 0 77 0 ∧ LA w 51 52 76 411 77 27 ∧ gv w 1 10 = 0 ∧ gv w 61 15 = 0 := by
  unfold cf_t at h
  rw [Bool.and_eq_true, Bool.and_eq_true, Bool.and_eq_true, Bool.and_eq_true, Bool.and_eq_true] at h
  obtain ⟨⟨⟨ha, hb⟩, hc, hd⟩, hs1, hs2⟩ := h
  have c : ∀ n, n < 170 → gv w 5 n = 0 ∧ gv w 40 n = 0 ∧ gv w 51 n = 0 := fun n hn => by
    have q := List.all_eq_true.mp hc n (List.mem_range.mpr hn)
    rw [Bool.and_eq_true, Bool.and_eq_true] at q
    exact ⟨of_decide_eq_true q.1, of_decide_eq_true q.2.1, of_decide_eq_true q.2.2⟩
  have d : ∀ n, n < 115 → gv w 63 (0 + n) = 0 ∧ gv w 76 (0 + n) = 0 ∧ gv w 76 (411 + n) = 0 := fun n hn => by
    have q := List.all_eq_true.mp hd n (List.mem_range.mpr hn)
    rw [Bool.and_eq_true, Bool.and_eq_true] at q
    exact ⟨of_decide_eq_true q.1, of_decide_eq_true q.2.1, of_decide_eq_true q.2.2⟩
  refine ⟨fun n hn => ?_, fun k hk => ?_, fun k hk => ?_, LA.zero (fun j hj => (c j hj).1) (fun j hj => (d j hj).1), LA.zero (fun j hj => (c j hj).2.1) (fun j hj => (d j hj).2.1), LA.zero (fun j hj => (c j hj).2.2) (fun j hj => (d j hj).2.2), of_decide_eq_true hs1, of_decide_eq_true hs2⟩
  · have q := List.all_eq_true.mp ha n (List.mem_range.mpr hn)
    rw [Bool.and_eq_true] at q
    rw [of_decide_eq_true q.1, of_decide_eq_true q.2]
  · have q := List.all_eq_true.mp hb k (List.mem_range.mpr hk)
    rw [Bool.and_eq_true] at q
    exact of_decide_eq_true q.1
  · have q := List.all_eq_true.mp hb k (List.mem_range.mpr hk)
    rw [Bool.and_eq_true] at q
    exact of_decide_eq_true q.2
def cf_mX : pi_M := (10, 1, none, true, mc_110)
def cf_mM : pi_M := (11, 1, none, true, mc_172)
def lw_init : Bool := match pi_run 60000 8 cf_mX (0, lv_args 0 [.ref 0], [], [.inr (10, pi_dflt 10 19)]) 0 0 with
  | some (none, w1, c1, u1) => (match pi_run 60000 8 cf_mM (0, lv_args 0 [.ref 61], [], w1 ++ [.inr (11, pi_dflt 11 45)]) 0 0 with
    | some (none, w2, c2, u2) => w1.length == 61 && (cf_W aw_Sh w2 && (cf_z w2 63 230 && (cf_z w2 63 4 && (cf_z w2 76 230 && (cf_z w2 76 4 && (cf_z w2 76 641 && (cf_z w2 76 415 && (pi_wfW 61 w1 && (pi_wfW 79 w2 && (decide (c1 + c2 ≤ 150) && (decide (u1 + u2 ≤ 90000) && (cf_z w2 1 2 && (cf_z w2 61 2 && (cf_z w2 38 3 && (cf_z w2 49 3 && (cf_z w2 78 0 && (cf_z w2 78 1 && cf_t w2)))))))))))))))))
    | _ => false)
  | _ => false
set_option maxRecDepth 1000000 in
set_option maxHeartbeats 4000000 in
theorem lw_init_ok : lw_init = true := by decide +kernel
