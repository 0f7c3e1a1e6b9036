/-! ===== sentence, diary, image, restore of the model, with tracked places ===== -/
def hs_N0 : af_M := [(61, 0, 45), (63, 230, 411), (65, 0, 135), (74, 0, 45)]
def sq_S2 (w : pi_W) (_r : Option Value) (w' : pi_W) : Prop := af_Conf aw_Sh w' ∧ af_Fr hs_N0 w w' ∧ af_wloc w' 61 2 = some (.int (Int32.ofNat 0)) ∧ (sv w 63 0 → sv w' 63 0)
def xsc_T : af_T := [((61, 2), (0, [])), ((61, 36), (0, [])), ((61, 37), (0, [])), ((61, 38), (0, [])), ((61, 40), (0, []))]
theorem hs_sentence2 {d : Nat} {w : pi_W} (hd : 9 ≤ d) (hC : af_Conf aw_Sh w) : hq_F (d + 1) hm278 (sq_S2 w) (0, lv_args 0 [.ref 61], [], w) := by
  refine ax_seg (Φ := hq_F _ _ _) (G := xsc_G) (d := d) (mi := hm278) (nl := 0) (ρ0 := fun _ => 0) rfl (fun K hK => (xsc_h K hK).mono (by omega)) xsc_w xsc_l xsc_r rfl (hl_Sat0 rfl hC) (fun s s' h1 h2 => hq_F.to h1 h2) (fun s hfin => hq_fin hfin (fun r w' hC' hF' hP' => ?_)) (fun s' q ρ' hq hpc hS hag hF => ?_)
  · obtain ⟨P, hPm, -⟩ := hP'
    simp [xsc_G] at hPm
  · obtain ⟨pc', lv', st', w2⟩ := s'
    simp only [xsc_G, List.drop, List.mem_singleton] at hq
    subst hq
    dsimp only at hpc hS
    subst hpc
    obtain ⟨hL, hst, hC2, hT, hK⟩ := hS
    replace hC2 : af_Conf aw_Sh _ := hC2
    dsimp only at hL hst hT hK hC2
    have hstn := af_St.nil hst
    subst hstn
    have g0 := hl_ref hL (i := 0) (k := 61) (by simp)
    obtain ⟨x1, g1, hx1⟩ := hl_int hL (i := 1) (f := (1, [])) (by simp)
    rw [af_ev_c] at hx1
    rw [hn_1e hx1] at g1
    have hz : ∀ k, ((61, k), (0, [])) ∈ xsc_T → af_wloc w2 61 k = some (.int (Int32.ofNat 0)) := by
      intro k hk
      obtain ⟨x, h1, h2⟩ := hl_loc hT hk (by decide)
      rw [af_ev_c] at h2
      rw [h1, hn_e (x := x) (n := 0) h2 (by decide)]
    obtain ⟨rf, hrf⟩ := hq_arr hC2 hq_s65 (by decide)
    obtain ⟨kf, hkf⟩ := hq_arr hC2 hq_s74 (by decide)
    refine (hs_sent (m := 2000) hd (by omega) hC2 (af_Fr.rf _ _) ⟨hz 36 (by decide), hz 38 (by decide), hz 37 (by decide), hz 40 (by decide), hrf, hkf⟩ (c := 0) (t := 0) (o := 0) (h := 0) ⟨by omega, by omega, by omega, rfl⟩ g0 g1).imp ?_
    rintro r w' ⟨q1, q2, q3⟩
    exact ⟨q1, (hF.cov (by decide)).tr (q2.cov (by decide)), (q2 61 2 (by decide)).trans (hz 2 (by decide)), fun h => q3 (h.fr (fun i _ _ => hq_cell hF (by decide)))⟩
def hs_Y0 : af_M := [(61, 0, 45), (63, 115, 230), (65, 0, 135), (68, 0, 920), (69, 0, 115), (73, 0, 4)]
def sq_Y2 (k : Int32) (w : pi_W) (_r : Option Value) (w' : pi_W) : Prop := af_Conf aw_Sh w' ∧ ((¬ (0 ≤ k.toInt ∧ k.toInt ≤ 1) ∧ af_Fr [(61, 0, 1)] w w') ∨ ((0 ≤ k.toInt ∧ k.toInt ≤ 1) ∧ af_Fr hs_Y0 w w' ∧ af_wloc w' 61 2 = some (.int (Int32.ofNat 0))))
theorem hs_diary2 {d : Nat} {k : Int32} {w : pi_W} (hd : 10 ≤ d) (hC : af_Conf aw_Sh w) : hq_F (d + 1) hm270 (sq_Y2 k w) (0, lv_args 0 [.ref 61, .int k], [], w) := by
  have hkr : (-2147483648 : Int) ≤ k.toInt ∧ k.toInt ≤ 2147483647 := af_i32 k
  have g0 : pi_get (lv_args 0 [.ref 61, .int k]) 0 = some (.ref 61) := rfl
  have g1 : pi_get (lv_args 0 [.ref 61, .int k]) 1 = some (.int k) := rfl
  revert g0 g1
  generalize lv_args 0 [.ref 61, .int k] = lv
  intro g0 g1
  by_cases hk : 0 ≤ k.toInt ∧ k.toInt ≤ 1
  · refine ax_seg (Φ := hq_F _ _ _) (G := xda_G) (d := d) (mi := hm270) (nl := 0) rfl (fun K hK => (xda_h K hK).mono (by omega)) xda_w xda_l xda_r rfl (hl_S1 g0 g1 hC hk) (fun s s' h1 h2 => hq_F.to h1 h2) (fun s hfin => hq_fin hfin (fun r w' hC' hF' hP' => ?_)) (fun s' q ρ' hq hpc hS hag hF2 => ?_)
    · obtain ⟨P, hPm, -⟩ := hP'
      simp [xda_G] at hPm
    obtain ⟨pc', lv2, st', w2⟩ := s'
    have a0 : ρ' 0 = k.toInt := hag 0 (by decide)
    simp only [xda_G, List.drop, List.mem_singleton] at hq
    subst hq
    dsimp only at hpc hS
    subst hpc
    obtain ⟨hL, hst, hC2, hT, hK⟩ := hS
    replace hC2 : af_Conf aw_Sh w2 := hC2
    dsimp only at hL hst hT hK
    have hstn := af_St.nil hst
    subst hstn
    obtain ⟨y1, q1, f1⟩ := hl_int hL (i := 1) (f := (0, [0])) (by simp)
    obtain ⟨y2, q2, f2⟩ := hl_loc hT (c := 61) (i := 32) (f := (0, [])) (by simp) (by decide)
    obtain ⟨y3, q3, f3⟩ := hl_loc hT (c := 61) (i := 2) (f := (0, [])) (by simp) (by decide)
    rw [af_ev_1] at f1
    rw [af_ev_c] at f2 f3
    have e1 : y1 = k := Int32.toInt_inj.mp (by omega)
    have e2 : y2 = Int32.ofNat 0 := hn_e (by omega) (by omega)
    have e3 : y3 = Int32.ofNat 0 := hn_e (by omega) (by omega)
    subst e1 e2 e3
    refine (hd_l1 hd hk 40 0 (by omega) hC2 (af_Fr.rf _ _) (fun j hj => by omega) q2 (hl_ref hL (by simp)) q1).imp ?_
    rintro r w' ⟨p1, p2⟩
    exact ⟨p1, Or.inr ⟨hk, (hF2.cov (by decide)).tr (p2.cov (by decide)), (p2 61 2 (by decide)).trans q3⟩⟩
  · by_cases hk0 : k.toInt ≤ -1
    · refine ax_seg (Φ := hq_F _ _ _) (G := xdan_G) (d := d) (mi := hm270) (nl := 0) rfl (fun K hK => (xdan_h K hK).mono (by omega)) xdan_w xdan_l xdan_r rfl (hl_S1 g0 g1 hC ⟨hkr.1, hk0⟩) (fun s s' h1 h2 => hq_F.to h1 h2) (fun s hfin => hq_fin hfin (fun r w' hC' hF' hP' => ?_)) (fun s' q ρ' hq => absurd hq (by simp [xdan_G]))
      exact ⟨hC', Or.inl ⟨hk, hF'⟩⟩
    · refine ax_seg (Φ := hq_F _ _ _) (G := xdap_G) (d := d) (mi := hm270) (nl := 0) rfl (fun K hK => (xdap_h K hK).mono (by omega)) xdap_w xdap_l xdap_r rfl (hl_S1 g0 g1 hC ⟨by omega, hkr.2⟩) (fun s s' h1 h2 => hq_F.to h1 h2) (fun s hfin => hq_fin hfin (fun r w' hC' hF' hP' => ?_)) (fun s' q ρ' hq => absurd hq (by simp [xdap_G]))
      exact ⟨hC', Or.inl ⟨hk, hF'⟩⟩
/-! image -/
def hi_N2 (kk : Nat) : af_M := [(61, 0, 1), (76, 411 * kk, 411 * kk + 411), (77, 27 * kk, 27 * kk + 27), (78, kk, kk + 1)]
theorem hi_cN2 {kk c j : Nat} : af_cov (hi_N2 kk) c j j = true ↔ (c = 61 ∧ j = 0) ∨ (c = 76 ∧ 411 * kk ≤ j ∧ j < 411 * kk + 411) ∨ (c = 77 ∧ 27 * kk ≤ j ∧ j < 27 * kk + 27) ∨ (c = 78 ∧ j = kk) := by
  unfold af_cov hi_N2
  simp only [List.any_cons, List.any_nil, Bool.or_false, Bool.or_eq_true, Bool.and_eq_true, beq_iff_eq, Nat.ble_eq, Nat.blt_eq]
  omega
def sq_I2 (k : Int32) (w : pi_W) (r : Option Value) (w' : pi_W) : Prop := af_Conf aw_Sh w' ∧ ((¬ (0 ≤ k.toInt ∧ k.toInt ≤ 1) ∧ r = some (.int 0) ∧ af_Fr [(61, 0, 1)] w w') ∨ ((0 ≤ k.toInt ∧ k.toInt ≤ 1) ∧ r = some (.int 1) ∧ ∃ kk, kk < 2 ∧ k = Int32.ofNat kk ∧ af_Fr (hi_N2 kk) w w' ∧ af_wloc w' 78 kk = some (.int 1) ∧ ∀ j, j < 411 → af_wloc w' 76 (411 * kk + j) = af_wloc w 63 j))
theorem hs_image2 {d : Nat} {k : Int32} {w : pi_W} (hd : 1 ≤ d) (hC : af_Conf aw_Sh w) : hq_F (d + 1) hm282 (sq_I2 k w) (0, lv_args 0 [.ref 61, .int k], [], w) := by
  have hkr : (-2147483648 : Int) ≤ k.toInt ∧ k.toInt ≤ 2147483647 := af_i32 k
  have g0 : pi_get (lv_args 0 [.ref 61, .int k]) 0 = some (.ref 61) := rfl
  have g1 : pi_get (lv_args 0 [.ref 61, .int k]) 1 = some (.int k) := rfl
  revert g0 g1
  generalize lv_args 0 [.ref 61, .int k] = lv
  intro g0 g1
  by_cases hk : 0 ≤ k.toInt ∧ k.toInt ≤ 1
  · refine ax_seg (Φ := hq_F _ _ _) (G := ia_G) (d := d) (mi := hm282) (nl := 0) rfl (fun K hK => (ia_h K hK).mono (by omega)) ia_w ia_l ia_r rfl (hl_S1 g0 g1 hC hk) (fun s s' h1 h2 => hq_F.to h1 h2) (fun s hfin => hq_fin hfin (fun r w' hC' hF' hP' => ?_)) (fun s' q ρ' hq hpc hS hag hF => ?_)
    · obtain ⟨P, hPm, -⟩ := hP'
      simp [ia_G] at hPm
    · obtain ⟨pc', lv2, st', w2⟩ := s'
      have a0 : ρ' 0 = k.toInt := hag 0 (by decide)
      simp only [ia_G, List.drop, List.mem_singleton] at hq
      subst hq
      dsimp only at hpc hS
      subst hpc
      obtain ⟨hL, hst, hC2, hT, hK⟩ := hS
      replace hC2 : af_Conf aw_Sh w2 := hC2
      dsimp only at hL hst hT hK
      have hstn := af_St.nil hst
      subst hstn
      obtain ⟨y1, q1, f1⟩ := hl_int hL (i := 1) (f := (0, [0])) (by simp)
      obtain ⟨y2, q2, f2⟩ := hl_int hL (i := 2) (f := (0, [])) (by simp)
      rw [af_ev_1] at f1
      rw [af_ev_c] at f2
      have e1 : y1 = Int32.ofNat k.toInt.toNat := hn_e (by omega) (by omega)
      have e2 : y2 = Int32.ofNat 0 := hn_e (by omega) (by omega)
      have ek : k = Int32.ofNat k.toInt.toNat := hn_i hk.1
      obtain ⟨kk, hkk⟩ : ∃ kk, kk = k.toInt.toNat := ⟨_, rfl⟩
      rw [← hkk] at e1 ek
      subst e1 e2
      have hF61 : af_Fr [(61, 0, 1)] w w2 := hF
      refine hi_l1 (kk := kk) (by omega) ?_ 411 0 (by omega) hC2 (hq_fr hF61 (fun c j hc => hi_c.mpr (by
        have := hq_cov1.mp hc
        omega))) (fun j hj => by omega) (hl_ref hL (by simp)) q1 q2
      intro w3 lv3 hC3 hF3 hcp p0 p1
      have hc2 : kk = 0 ∨ kk = 1 := by omega
      rcases hc2 with rfl | rfl
      · refine ax_seg (Φ := hq_F _ _ _) (G := xib0_G) (d := d) (mi := hm282) (nl := 1) rfl (fun K hK => (xib0_h K hK).mono (by omega)) xib0_w xib0_l xib0_r rfl (hl_S1 p0 p1 hC3 (by decide)) (fun s s' h1 h2 => hq_F.to h1 h2) (fun s hfin => hq_fin hfin (fun r w' hC' hF' hP' => ?_)) (fun s' q ρ' hq => absurd hq (by simp [xib0_G]))
        obtain ⟨P, hPm, ρ2, -, hst, hT2, -⟩ := hP'
        simp only [xib0_G, List.mem_singleton] at hPm
        subst hPm
        obtain ⟨x, rfl, hx⟩ := hl_res hst
        obtain ⟨y, hy, fy⟩ := hl_loc hT2 (c := 78) (i := 0) (f := (1, [])) (by simp) (by decide)
        rw [af_ev_c] at hx fy
        rw [hn_1e fy] at hy
        refine ⟨hC', Or.inr ⟨hk, by rw [hn_1e hx], 0, by omega, ek, ?_, hy, fun j hj => ?_⟩⟩
        · refine (hq_fr hF3 (fun c j hc => hi_cN2.mpr ?_)).tr (hq_fr (M := [(77, 0, 27), (78, 0, 1)]) hF' (fun c j hc => hi_cN2.mpr ?_))
          · have := hi_c.mp hc
            omega
          · unfold af_cov at hc
            simp only [List.any_cons, List.any_nil, Bool.or_false, Bool.or_eq_true, Bool.and_eq_true, beq_iff_eq, Nat.ble_eq, Nat.blt_eq] at hc
            omega
        · rw [hq_cell (c := 76) hF' (by decide)]
          rw [hcp j hj]
      · refine ax_seg (Φ := hq_F _ _ _) (G := xib1_G) (d := d) (mi := hm282) (nl := 1) rfl (fun K hK => (xib1_h K hK).mono (by omega)) xib1_w xib1_l xib1_r rfl (hl_S1 p0 p1 hC3 (by decide)) (fun s s' h1 h2 => hq_F.to h1 h2) (fun s hfin => hq_fin hfin (fun r w' hC' hF' hP' => ?_)) (fun s' q ρ' hq => absurd hq (by simp [xib1_G]))
        obtain ⟨P, hPm, ρ2, -, hst, hT2, -⟩ := hP'
        simp only [xib1_G, List.mem_singleton] at hPm
        subst hPm
        obtain ⟨x, rfl, hx⟩ := hl_res hst
        obtain ⟨y, hy, fy⟩ := hl_loc hT2 (c := 78) (i := 1) (f := (1, [])) (by simp) (by decide)
        rw [af_ev_c] at hx fy
        rw [hn_1e fy] at hy
        refine ⟨hC', Or.inr ⟨hk, by rw [hn_1e hx], 1, by omega, ek, ?_, hy, fun j hj => ?_⟩⟩
        · refine (hq_fr hF3 (fun c j hc => hi_cN2.mpr ?_)).tr (hq_fr (M := [(77, 27, 54), (78, 1, 2)]) hF' (fun c j hc => hi_cN2.mpr ?_))
          · have := hi_c.mp hc
            omega
          · unfold af_cov at hc
            simp only [List.any_cons, List.any_nil, Bool.or_false, Bool.or_eq_true, Bool.and_eq_true, beq_iff_eq, Nat.ble_eq, Nat.blt_eq] at hc
            omega
        · rw [hq_cell (c := 76) hF' (by decide)]
          rw [hcp j hj]
  · by_cases hk0 : k.toInt ≤ -1
    · refine ax_seg (Φ := hq_F _ _ _) (G := ian_G) (d := d) (mi := hm282) (nl := 0) rfl (fun K hK => (ian_h K hK).mono (by omega)) ian_w ian_l ian_r rfl (hl_S1 g0 g1 hC ⟨hkr.1, hk0⟩) (fun s s' h1 h2 => hq_F.to h1 h2) (fun s hfin => hq_fin hfin (fun r w' hC' hF' hP' => ?_)) (fun s' q ρ' hq => absurd hq (by simp [ian_G]))
      obtain ⟨P, hPm, ρ2, -, hst, -⟩ := hP'
      simp only [ian_G, List.mem_singleton] at hPm
      subst hPm
      obtain ⟨x, rfl, hx⟩ := hl_res hst
      rw [af_ev_c] at hx
      exact ⟨hC', Or.inl ⟨hk, by rw [hn_0 hx], hF'⟩⟩
    · refine ax_seg (Φ := hq_F _ _ _) (G := iap_G) (d := d) (mi := hm282) (nl := 0) rfl (fun K hK => (iap_h K hK).mono (by omega)) iap_w iap_l iap_r rfl (hl_S1 g0 g1 hC ⟨by omega, hkr.2⟩) (fun s s' h1 h2 => hq_F.to h1 h2) (fun s hfin => hq_fin hfin (fun r w' hC' hF' hP' => ?_)) (fun s' q ρ' hq => absurd hq (by simp [iap_G]))
      obtain ⟨P, hPm, ρ2, -, hst, -⟩ := hP'
      simp only [iap_G, List.mem_singleton] at hPm
      subst hPm
      obtain ⟨x, rfl, hx⟩ := hl_res hst
      rw [af_ev_c] at hx
      exact ⟨hC', Or.inl ⟨hk, by rw [hn_0 hx], hF'⟩⟩
/-! restore -/
def sq_RA (k : Int32) (w : pi_W) (r : Option Value) : Prop := (¬ (0 ≤ k.toInt ∧ k.toInt ≤ 1) ∧ r = some (.int 0)) ∨ ∃ kk, kk < 2 ∧ k = Int32.ofNat kk ∧ ∃ v : Int32, af_wloc w 78 kk = some (.int v) ∧ ((v.toInt = 0 ∧ r = some (.int 0)) ∨ (v.toInt = 1 ∧ r = some (.int 1)))
def sq_R2 (k : Int32) (w : pi_W) (r : Option Value) (w' : pi_W) : Prop := (af_Conf aw_Sh w' ∧ af_Fr hr_N w w' ∧ ((∀ j, af_wloc w' 63 j = af_wloc w 63 j) ∨ ∃ kk, kk < 2 ∧ ∀ j, j < 411 → af_wloc w' 63 j = af_wloc w 76 (411 * kk + j))) ∧ sq_RA k w r
theorem hs_restore2 {d : Nat} {k : Int32} {w : pi_W} (hd : 1 ≤ d) (hC : af_Conf aw_Sh w) : hq_F (d + 1) hm283 (sq_R2 k w) (0, lv_args 0 [.ref 61, .int k], [], w) := by
  have hkr : (-2147483648 : Int) ≤ k.toInt ∧ k.toInt ≤ 2147483647 := af_i32 k
  have g0 : pi_get (lv_args 0 [.ref 61, .int k]) 0 = some (.ref 61) := rfl
  have g1 : pi_get (lv_args 0 [.ref 61, .int k]) 1 = some (.int k) := rfl
  revert g0 g1
  generalize lv_args 0 [.ref 61, .int k] = lv
  intro g0 g1
  by_cases hk : 0 ≤ k.toInt ∧ k.toInt ≤ 1
  · have hkc : k.toInt = 0 ∨ k.toInt = 1 := by omega
    rcases hkc with hk0 | hk0
    · have ek : k = Int32.ofNat 0 := hn_e hk0 (by decide)
      obtain ⟨v, hv, hv1⟩ := hq_int hC (c := 78) (i := 0) (lo := 0) (hi := 1) (by decide) rfl
      have hSat : af_Sat aw_Sh (fun x => if x = 0 then k.toInt else v.toInt) xra0_s (0, lv, [], w) := by
        refine ⟨?_, trivial, hC, ?_, ?_, (fun e he => by cases he), (fun e he => by cases he)⟩
        · intro e he
          simp only [xra0_s, List.mem_cons, List.not_mem_nil, or_false] at he
          rcases he with rfl | rfl
          · exact ⟨_, g0, rfl⟩
          · exact ⟨_, g1, (fun v hv => by simp at hv; subst hv; decide), _, rfl, by simp [af_ev]⟩
        · intro e he
          simp only [xra0_s, List.mem_singleton] at he
          subst he
          exact hl_sl (by intro v hv; simp at hv; subst hv; decide) hv (by decide) (by simp [af_ev])
        · intro e he
          simp only [xra0_s, List.mem_cons, List.not_mem_nil, or_false] at he
          rcases he with rfl | rfl <;> refine ⟨by decide, ?_⟩ <;> simp <;> omega
      refine ax_seg (Φ := hq_F _ _ _) (G := xra0_G) (d := d) (mi := hm283) (nl := 0) rfl (fun K hK => (xra0_h K hK).mono (by omega)) xra0_w xra0_l xra0_r rfl hSat (fun s s' h1 h2 => hq_F.to h1 h2) (fun s hfin => hq_fin hfin (fun r w' hC' hF' hP' => ?_)) (fun s' q ρ' hq hpc hS hag hF => ?_)
      · obtain ⟨P, hPm, ρ2, hag, hst, -, hK⟩ := hP'
        have a1 : ρ2 1 = v.toInt := hag 1 (by decide)
        simp only [xra0_G, List.mem_singleton] at hPm
        subst hPm
        obtain ⟨x, rfl, hx⟩ := hl_res hst
        rw [af_ev_c] at hx
        have hb := (hK.1 (1, 0, 0) (by simp)).2
        dsimp only at hb
        exact ⟨⟨hC', hF'.cov (by decide), Or.inl (fun j => hq_cell hF' (by decide))⟩, Or.inr ⟨0, by decide, ek, v, hv, Or.inl ⟨by omega, by rw [hn_0 hx]⟩⟩⟩
      · obtain ⟨pc', lv2, st', w2⟩ := s'
        have a0 : ρ' 0 = k.toInt := hag 0 (by decide)
        have a1 : ρ' 1 = v.toInt := hag 1 (by decide)
        simp only [xra0_G, List.drop, List.mem_singleton] at hq
        subst hq
        dsimp only at hpc hS
        subst hpc
        obtain ⟨hL, hst, hC2, hT, hK⟩ := hS
        replace hC2 : af_Conf aw_Sh w2 := hC2
        dsimp only at hL hst hT hK
        have hstn := af_St.nil hst
        subst hstn
        have hb := (hK.1 (1, 1, 1) (by simp)).2
        dsimp only at hb
        obtain ⟨y1, q1, f1⟩ := hl_int hL (i := 1) (f := (0, [0])) (by simp)
        obtain ⟨y2, q2, f2⟩ := hl_int hL (i := 2) (f := (0, [])) (by simp)
        rw [af_ev_1] at f1
        rw [af_ev_c] at f2
        have e1 : y1 = Int32.ofNat 0 := hn_e (by omega) (by omega)
        have e2 : y2 = Int32.ofNat 0 := hn_e (by omega) (by omega)
        subst e1 e2
        have h76 : ∀ j, af_wloc w2 76 j = af_wloc w 76 j := fun j => hq_cell hF (by decide)
        refine hr_l1 (kk := 0) (by omega) ?_ 411 0 (by omega) hC2 (hF.cov (by decide)) (fun j hj => by omega) (hl_ref hL (by simp)) q1 q2
        intro w3 lv3 hC3 hF3 hcp p0 p1
        refine ax_seg (Φ := hq_F _ _ _) (G := rb_G) (d := d) (mi := hm283) (nl := 1) rfl (fun K hK => (rb_h K hK).mono (by omega)) rb_w rb_l rb_r rfl (hl_S1 p0 p1 hC3 (by rw [hn_t (by omega)]; omega)) (fun s s' h1 h2 => hq_F.to h1 h2) (fun s hfin => hq_fin hfin (fun r w' hC' hF' hP' => ?_)) (fun s' q ρ' hq => absurd hq (by simp [rb_G]))
        obtain ⟨P, hPm, ρ2, -, hst, -⟩ := hP'
        simp only [rb_G, List.mem_singleton] at hPm
        subst hPm
        obtain ⟨x, rfl, hx⟩ := hl_res hst
        rw [af_ev_c] at hx
        exact ⟨⟨hC', (hF3.cov (by decide)).tr (hF'.cov (by decide)), Or.inr ⟨0, by omega, fun j hj => by rw [hq_cell (c := 63) hF' (by decide), hcp j hj]⟩⟩, Or.inr ⟨0, by decide, ek, v, hv, Or.inr ⟨by omega, by rw [hn_1e hx]⟩⟩⟩
    · have ek : k = Int32.ofNat 1 := hn_e hk0 (by decide)
      obtain ⟨v, hv, hv1⟩ := hq_int hC (c := 78) (i := 1) (lo := 0) (hi := 1) (by decide) rfl
      have hSat : af_Sat aw_Sh (fun x => if x = 0 then k.toInt else v.toInt) xra1_s (0, lv, [], w) := by
        refine ⟨?_, trivial, hC, ?_, ?_, (fun e he => by cases he), (fun e he => by cases he)⟩
        · intro e he
          simp only [xra1_s, List.mem_cons, List.not_mem_nil, or_false] at he
          rcases he with rfl | rfl
          · exact ⟨_, g0, rfl⟩
          · exact ⟨_, g1, (fun v hv => by simp at hv; subst hv; decide), _, rfl, by simp [af_ev]⟩
        · intro e he
          simp only [xra1_s, List.mem_singleton] at he
          subst he
          exact hl_sl (by intro v hv; simp at hv; subst hv; decide) hv (by decide) (by simp [af_ev])
        · intro e he
          simp only [xra1_s, List.mem_cons, List.not_mem_nil, or_false] at he
          rcases he with rfl | rfl <;> refine ⟨by decide, ?_⟩ <;> simp <;> omega
      refine ax_seg (Φ := hq_F _ _ _) (G := xra1_G) (d := d) (mi := hm283) (nl := 0) rfl (fun K hK => (xra1_h K hK).mono (by omega)) xra1_w xra1_l xra1_r rfl hSat (fun s s' h1 h2 => hq_F.to h1 h2) (fun s hfin => hq_fin hfin (fun r w' hC' hF' hP' => ?_)) (fun s' q ρ' hq hpc hS hag hF => ?_)
      · obtain ⟨P, hPm, ρ2, hag, hst, -, hK⟩ := hP'
        have a1 : ρ2 1 = v.toInt := hag 1 (by decide)
        simp only [xra1_G, List.mem_singleton] at hPm
        subst hPm
        obtain ⟨x, rfl, hx⟩ := hl_res hst
        rw [af_ev_c] at hx
        have hb := (hK.1 (1, 0, 0) (by simp)).2
        dsimp only at hb
        exact ⟨⟨hC', hF'.cov (by decide), Or.inl (fun j => hq_cell hF' (by decide))⟩, Or.inr ⟨1, by decide, ek, v, hv, Or.inl ⟨by omega, by rw [hn_0 hx]⟩⟩⟩
      · obtain ⟨pc', lv2, st', w2⟩ := s'
        have a0 : ρ' 0 = k.toInt := hag 0 (by decide)
        have a1 : ρ' 1 = v.toInt := hag 1 (by decide)
        simp only [xra1_G, List.drop, List.mem_singleton] at hq
        subst hq
        dsimp only at hpc hS
        subst hpc
        obtain ⟨hL, hst, hC2, hT, hK⟩ := hS
        replace hC2 : af_Conf aw_Sh w2 := hC2
        dsimp only at hL hst hT hK
        have hstn := af_St.nil hst
        subst hstn
        have hb := (hK.1 (1, 1, 1) (by simp)).2
        dsimp only at hb
        obtain ⟨y1, q1, f1⟩ := hl_int hL (i := 1) (f := (0, [0])) (by simp)
        obtain ⟨y2, q2, f2⟩ := hl_int hL (i := 2) (f := (0, [])) (by simp)
        rw [af_ev_1] at f1
        rw [af_ev_c] at f2
        have e1 : y1 = Int32.ofNat 1 := hn_e (by omega) (by omega)
        have e2 : y2 = Int32.ofNat 0 := hn_e (by omega) (by omega)
        subst e1 e2
        have h76 : ∀ j, af_wloc w2 76 j = af_wloc w 76 j := fun j => hq_cell hF (by decide)
        refine hr_l1 (kk := 1) (by omega) ?_ 411 0 (by omega) hC2 (hF.cov (by decide)) (fun j hj => by omega) (hl_ref hL (by simp)) q1 q2
        intro w3 lv3 hC3 hF3 hcp p0 p1
        refine ax_seg (Φ := hq_F _ _ _) (G := rb_G) (d := d) (mi := hm283) (nl := 1) rfl (fun K hK => (rb_h K hK).mono (by omega)) rb_w rb_l rb_r rfl (hl_S1 p0 p1 hC3 (by rw [hn_t (by omega)]; omega)) (fun s s' h1 h2 => hq_F.to h1 h2) (fun s hfin => hq_fin hfin (fun r w' hC' hF' hP' => ?_)) (fun s' q ρ' hq => absurd hq (by simp [rb_G]))
        obtain ⟨P, hPm, ρ2, -, hst, -⟩ := hP'
        simp only [rb_G, List.mem_singleton] at hPm
        subst hPm
        obtain ⟨x, rfl, hx⟩ := hl_res hst
        rw [af_ev_c] at hx
        exact ⟨⟨hC', (hF3.cov (by decide)).tr (hF'.cov (by decide)), Or.inr ⟨1, by omega, fun j hj => by rw [hq_cell (c := 63) hF' (by decide), hcp j hj]⟩⟩, Or.inr ⟨1, by decide, ek, v, hv, Or.inr ⟨by omega, by rw [hn_1e hx]⟩⟩⟩
  · by_cases hk0 : k.toInt ≤ -1
    · refine ax_seg (Φ := hq_F _ _ _) (G := xran_G) (d := d) (mi := hm283) (nl := 0) rfl (fun K hK => (xran_h K hK).mono (by omega)) xran_w xran_l xran_r rfl (hl_S1 g0 g1 hC ⟨hkr.1, hk0⟩) (fun s s' h1 h2 => hq_F.to h1 h2) (fun s hfin => hq_fin hfin (fun r w' hC' hF' hP' => ?_)) (fun s' q ρ' hq => absurd hq (by simp [xran_G]))
      obtain ⟨P, hPm, ρ2, -, hst, -⟩ := hP'
      simp only [xran_G, List.mem_singleton] at hPm
      subst hPm
      obtain ⟨x, rfl, hx⟩ := hl_res hst
      rw [af_ev_c] at hx
      exact ⟨⟨hC', hF'.cov (by decide), Or.inl (fun j => hq_cell hF' (by decide))⟩, Or.inl ⟨hk, by rw [hn_0 hx]⟩⟩
    · refine ax_seg (Φ := hq_F _ _ _) (G := xrap_G) (d := d) (mi := hm283) (nl := 0) rfl (fun K hK => (xrap_h K hK).mono (by omega)) xrap_w xrap_l xrap_r rfl (hl_S1 g0 g1 hC ⟨by omega, hkr.2⟩) (fun s s' h1 h2 => hq_F.to h1 h2) (fun s hfin => hq_fin hfin (fun r w' hC' hF' hP' => ?_)) (fun s' q ρ' hq => absurd hq (by simp [xrap_G]))
      obtain ⟨P, hPm, ρ2, -, hst, -⟩ := hP'
      simp only [xrap_G, List.mem_singleton] at hPm
      subst hPm
      obtain ⟨x, rfl, hx⟩ := hl_res hst
      rw [af_ev_c] at hx
      exact ⟨⟨hC', hF'.cov (by decide), Or.inl (fun j => hq_cell hF' (by decide))⟩, Or.inl ⟨hk, by rw [hn_0 hx]⟩⟩
