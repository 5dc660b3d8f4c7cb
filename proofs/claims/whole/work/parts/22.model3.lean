/-! the reference: fault, court -/
theorem rdz {pg : Nat → Nat} : ∀ k s, wpre pg k = some s → ∀ d, (s.1 < d ∨ (d = s.1 ∧ s.2.1 = 0)) → (rdc pg k).2.1.getD d 0 = 0
  | 0, s, h, d, _ => by
    show [0, 0, 0, 0, 0].getD d 0 = 0
    rw [List.getD_eq_getElem?_getD]
    rcases d with _ | _ | _ | _ | _ | d <;> simp
  | k + 1, s', h, d, hd => by
    cases e : wpre pg k with
    | none =>
      rw [wpre_n e] at h
      cases h
    | some s =>
      rw [wpre_s e] at h
      have ih := rdz k s e
      obtain ⟨o, r1, r2, r3, r4, r5, r6⟩ := RV_of k s e
      by_cases hl : 97 ≤ pg k ∧ pg k < 105
      · obtain ⟨hp, rfl⟩ := wstep_l h hl
        simp only at hd
        have hd2 : s.1 < d := by omega
        by_cases h4 : (rdc pg k).1 < 4
        · rw [rdc_l hl h4]
          show ((rdc pg k).2.1.set _ _).getD d 0 = 0
          rw [getD_set, if_neg (by omega)]
          exact ih d (Or.inl hd2)
        · rw [rdc_r hl h4]
          exact ih d (Or.inl hd2)
      · obtain ⟨h4, hm, hc, rfl⟩ := wstep_o h hl
        rw [rdc_o hl]
        simp only at hd
        exact ih d (Or.inl (by omega))
/-- what the reference has read so far -/
def RQ (pg : Nat → Nat) (k : Nat) (s : Nat × Nat × Nat) (rn rs : List Nat) : Prop := (∀ d, d < 4 → (d < s.1 ∨ (d = s.1 ∧ 0 < s.2.1)) → rn.getD d 0 = (rdc pg k).2.1.getD d 0) ∧ (s.1 = 4 → ∀ j, j < s.2.1 → rs.getD j 0 = (rdc pg k).2.2.getD j 0)
theorem RQ_s {pg : Nat → Nat} {k : Nat} {s s' : Nat × Nat × Nat} {rn rs : List Nat} (h : RQ pg k s rn rs) (hs : wpre pg k = some s) (hst : wstep s (pg k) = some s') (lrn : rn.length = 5) (lrs : rs.length = 10) : RQ pg (k + 1) s' (rnE s (pg k) rn) (rsE s (pg k) rs) := by
  obtain ⟨q1, q2⟩ := h
  obtain ⟨o, r1, r2, r3, r4, r5, r6⟩ := RV_of k s hs
  have hz := rdz k s hs
  by_cases hl : 97 ≤ pg k ∧ pg k < 105
  · obtain ⟨hp, rfl⟩ := wstep_l hst hl
    by_cases h4 : (rdc pg k).1 < 4
    · unfold RQ
      rw [rdc_l hl h4, ← rsE_a (c := pg k) (show s.1 < 4 by omega)]
      refine ⟨fun d hd4 hd => ?_, fun z => absurd z (by simp only; omega)⟩
      simp only at hd
      show _ = ((rdc pg k).2.1.set _ _).getD d 0
      by_cases h0 : s.2.1 = 0
      · rw [← rnE_a hl (show s.1 < 4 by omega) h0, getD_set, getD_set, r1]
        by_cases hds : s.1 = d
        · rw [if_pos ⟨hds, by omega⟩, if_pos ⟨hds, by omega⟩, hz s.1 (Or.inr ⟨rfl, h0⟩), Nat.one_mul, Nat.zero_or]
        · rw [if_neg (fun z => hds z.1), if_neg (fun z => hds z.1)]
          exact q1 d hd4 (Or.inl (by omega))
      · rw [← rnE_b hl (show s.1 < 4 by omega) h0, getD_set, getD_set, r1]
        by_cases hds : s.1 = d
        · rw [if_pos ⟨hds, by omega⟩, if_pos ⟨hds, by omega⟩, q1 s.1 (by omega) (Or.inr ⟨rfl, by omega⟩), Nat.one_mul]
        · rw [if_neg (fun z => hds z.1), if_neg (fun z => hds z.1)]
          exact q1 d hd4 (Or.inl (by omega))
    · have hm := pw_4 hp (by omega)
      have h5 : s.1 = 4 := by have := o.1; omega
      rw [if_pos h5] at r2
      unfold RQ
      rw [rdc_r hl h4, ← rnE_c (c := pg k) (show 4 ≤ s.1 by omega), ← rsE_b hl (show 4 ≤ s.1 by omega)]
      refine ⟨fun d hd4 hd => q1 d hd4 (Or.inl (by omega)), fun _ j hj => ?_⟩
      simp only at hj
      show _ = ((rdc pg k).2.2 ++ _).getD j 0
      rw [getD_set, getD_app]
      by_cases hjm : s.2.1 = j
      · rw [if_pos ⟨hjm, by omega⟩, if_neg (by omega), if_pos (by omega)]
      · rw [if_neg (fun z => hjm z.1), if_pos (by omega)]
        exact q2 h5 j (by omega)
  · obtain ⟨h4, hm, hc, rfl⟩ := wstep_o hst hl
    have e1 : rnE s (pg k) rn = rn := by
      unfold rnE
      rw [if_neg hl]
    have e2 : rsE s (pg k) rs = rs := by
      unfold rsE
      rw [if_neg hl]
    unfold RQ
    rw [rdc_o hl, e1, e2]
    refine ⟨fun d hd4 hd => q1 d hd4 ?_, fun _ j hj => absurd hj (Nat.not_lt_zero j)⟩
    simp only at hd
    omega
set_option maxRecDepth 20000 in
theorem c_faultOf {σ : aH} {p : Nat → Nat} {pn lm wd ch ct ac br hm : Nat} {x2 x3 x4 sd kc kl ka kg kd : Int32} {ha : Int64} (e25 : σ[25]? = some (mob pn x2 x3 x4 lm wd ch ct ac br hm sd kc kl ka kg kd ha)) {pg rn rs : List Nat} (e26 : σ[26]? = some (aA pg)) (e27 : σ[27]? = some (aA rn)) (e28 : σ[28]? = some (aA rs)) (lpg : pg.length = 28) (lrn : rn.length = 5) (lrs : rs.length = 10) (hn : pn ≤ 28) (hpg : ∀ k, k < pn → pg.getD k 0 = p k) (hp : ∀ k, p k < 127) : MX12_faultOf 2 0 0 [.ref 25] σ (fun v σ' => ∃ (y2 y3 y4 : Int32) (rn' rs' : List Nat), EqO [25, 27, 28] σ σ' ∧ σ'[25]? = some (mob pn (y2) (y3) (y4) lm wd ch ct ac br hm sd kc kl ka kg kd ha) ∧ σ'[27]? = some (aA rn') ∧ σ'[28]? = some (aA rs') ∧ rn'.length = 5 ∧ rs'.length = 10 ∧ v = some (.int (nI (wfa p pn 0 (0, 0, 0)).1)) ∧ ((wfa p pn 0 (0, 0, 0)).1 = pn → ∃ s, wpre p pn = some s ∧ y2 = nI s.1 ∧ y3 = nI s.2.1 ∧ RQ p pn s rn' rs')) := by
  refine sX12_faultOf (Nat.le_of_ble_eq_true rfl) ?_
  have key : ∀ d k τ s rn rs, k + d = pn → EqO [25, 27, 28] σ τ → τ[25]? = some (mob pn (nI s.1) (nI s.2.1) (lwI s.2.2) lm wd ch ct ac br hm sd kc kl ka kg kd ha) → τ[27]? = some (aA rn) → τ[28]? = some (aA rs) → rn.length = 5 → rs.length = 10 → wpre p k = some s → RQ p k s rn rs → (wfa p pn 0 (0, 0, 0)) = wfa p d k s → GX12_faultOf 2 0 0 (fun v σ' => ∃ (y2 y3 y4 : Int32) (rn' rs' : List Nat), EqO [25, 27, 28] σ σ' ∧ σ'[25]? = some (mob pn (y2) (y3) (y4) lm wd ch ct ac br hm sd kc kl ka kg kd ha) ∧ σ'[27]? = some (aA rn') ∧ σ'[28]? = some (aA rs') ∧ rn'.length = 5 ∧ rs'.length = 10 ∧ v = some (.int (nI (wfa p pn 0 (0, 0, 0)).1)) ∧ ((wfa p pn 0 (0, 0, 0)).1 = pn → ∃ s, wpre p pn = some s ∧ y2 = nI s.1 ∧ y3 = nI s.2.1 ∧ RQ p pn s rn' rs')) 0 0 17 [some (.ref 25), some (.int (nI k))] [] τ := by
    intro d
    induction d with
    | zero =>
      intro k τ s rn rs hk hE q25 q27 q28 lrn lrs hs hq hw
      obtain rfl : k = pn := by omega
      refine g_iload eX12_faultOf_17 rfl ?_
      refine g_aload eX12_faultOf_18 rfl ?_
      refine g_get eX12_faultOf_19 fX12_62_X12 q25 (by rfl) ?_
      refine g_icmp_geN eX12_faultOf_22 (by omega) (by omega) (fun c22 => ?_) (fun c22 => by exfalso; omega)
      refine g_iload eX12_faultOf_44 rfl ?_
      exact g_ret (eX12_faultOf_45 _) (Nat.le_refl _) (Nat.le_refl _) ⟨_, _, _, rn, rs, hE, q25, q27, q28, lrn, lrs, by rw [hw]; rfl, fun _ => ⟨s, hs, rfl, rfl, hq⟩⟩
    | succ d ih =>
      intro k τ s rn rs hk hE q25 q27 q28 lrn lrs hs hq hw
      have q26 := hE.at (by decide) e26
      refine g_iload eX12_faultOf_17 rfl ?_
      refine g_aload eX12_faultOf_18 rfl ?_
      refine g_get eX12_faultOf_19 fX12_62_X12 q25 (by rfl) ?_
      refine g_icmp_geN eX12_faultOf_22 (by omega) (by omega) (fun c22 => by exfalso; omega) (fun c22 => ?_)
      refine g_aload eX12_faultOf_25 rfl ?_
      refine g_aload eX12_faultOf_26 rfl ?_
      refine g_get eX12_faultOf_27 fX12_7_X12 q25 (by rfl) ?_
      refine g_iload eX12_faultOf_30 rfl ?_
      refine g_ialdN eX12_faultOf_31 q26 (by omega) (by omega) ?_
      rw [hpg k (by omega)]
      refine g_callV0 (r := (RX12, TX12, 32)) eX12_faultOf_32 kX12_76 q25 (by rfl) (c_go (c := p k) q25 q27 q28 lrn lrs (RV_of k s hs).1 (wok3_of k s hs) (hp k)) (by rfl) (by rfl) (by exact Nat.le_of_ble_eq_true rfl) (by exact Nat.le_of_ble_eq_true rfl) (by exact Nat.le_of_ble_eq_true rfl) (Nat.le_refl _) (Nat.le_refl _) (fun v32 σ32 hp32 hn32 => ?_)
      obtain ⟨y2, y3, y4, rn2, rs2, hE2, g25, g27, g28, l1, l2, hh⟩ := hp32
      rcases hh with ⟨s', hst, rfl, rfl, rfl, rfl, rfl, rfl⟩ | ⟨hst, rfl⟩
      · refine g_if_eqN eX12_faultOf_35 (by omega) (fun c35 => absurd c35 (by decide)) (fun c35 => ?_)
        refine g_iincN eX12_faultOf_38 rfl rfl ?_
        refine g_goto eX12_faultOf_41 ?_
        exact ih (k + 1) _ s' _ _ (by omega) (hE.tr hE2) g25 g27 g28 l1 l2 ((wpre_s hs).trans hst) (RQ_s hq hs hst lrn lrs) (hw.trans (wfa_some hst))
      · refine g_if_eqN eX12_faultOf_35 (by omega) (fun c35 => ?_) (fun c35 => absurd rfl c35)
        refine g_iload eX12_faultOf_44 rfl ?_
        exact g_ret (eX12_faultOf_45 _) (Nat.le_refl _) (Nat.le_refl _) ⟨_, _, _, rn2, rs2, hE.tr hE2, g25, g27, g28, l1, l2, by rw [hw, wfa_none hst], fun z => by rw [hw, wfa_none hst] at z; simp only at z; omega⟩
  refine g_aload eX12_faultOf_0 rfl ?_
  refine g_push eX12_faultOf_1 ?_
  refine g_putI eX12_faultOf_2 fX12_65_X12 pX12_2 e25 (by exact Nat.le_of_ble_eq_true rfl) ?_
  refine g_aload eX12_faultOf_5 rfl ?_
  refine g_push eX12_faultOf_6 ?_
  refine g_putI eX12_faultOf_7 fX12_68_X12 pX12_3 (at_eq e25) (by exact Nat.le_of_ble_eq_true rfl) ?_
  refine g_aload eX12_faultOf_10 rfl ?_
  refine g_push (v := -1) eX12_faultOf_11 ?_
  refine g_putI eX12_faultOf_12 fX12_71_X12 pX12_4 (at_eq (at_eq e25)) (by exact Nat.le_of_ble_eq_true rfl) ?_
  refine g_push eX12_faultOf_15 ?_
  refine g_istore eX12_faultOf_16 rfl ?_
  exact key pn 0 _ (0, 0, 0) rn rs (by omega) (((EqO.rf.st (by decide)).st (by decide)).st (by decide)) (at_eq (at_eq (at_eq e25))) (at_ne (by decide) (at_ne (by decide) (at_ne (by decide) e27))) (at_ne (by decide) (at_ne (by decide) (at_ne (by decide) e28))) lrn lrs rfl ⟨fun d _ hd => by exfalso; simp only at hd; omega, fun z => by cases z⟩ rfl
set_option maxRecDepth 20000 in
theorem m_fault {σ : aH} {t : St} (hI : IM t σ) (hwf : WF t)  : MX12_fault 3 0 0 [.ref 25] σ (fun v σ' => v = some (.int (oFault t)) ∧ IM t σ' ∧ FrM σ σ') := by
  refine sX12_fault (Nat.le_of_ble_eq_true rfl) ?_
  have hI' := hI
  have hwf' := hwf
  have hSs := hwf.hS
  obtain ⟨pg, rn, rs, nr, sh, rw, ro, he, hs, th, dr, ks, kr, kh, x2, x3, x4, sd, kc, kl, ka, kg, kd, ha, e25, e26, e27, e28, e29, e30, e31, e32, e33, e34, e35, e36, e37, e38, e39, lpg, lrn, lrs, lnr, lro, lhe, lth, ldr, lks, lkr, lkh, hpg, hnr, ⟨lsh, lrw, lhs, hsh, hrw, hhs⟩, hk0, hk1⟩ := hI
  obtain ⟨w1, w2, w3, w4, w5, ⟨w6, w7, w8, w9, w10, w11, w12⟩, w13, w14, w15, w16, w17⟩ := hwf
  refine g_aload eX12_fault_0 rfl ?_
  refine g_callV0 (r := (RX12, TX12, 32)) eX12_fault_1 kX12_80 e25 (by rfl) (c_faultOf (p := shW (pgO t)) e25 e26 e27 e28 lpg lrn lrs w1 hpg w2) (by rfl) (by rfl) (by exact Nat.le_of_ble_eq_true rfl) (by exact Nat.le_of_ble_eq_true rfl) (by exact Nat.le_of_ble_eq_true rfl) (Nat.le_refl _) (Nat.le_refl _) (fun v1 σ1 hp1 hn1 => ?_)
  obtain ⟨y2, y3, y4, rn', rs', hE, g25, g27, g28, l1, l2, rfl, hh⟩ := hp1
  exact g_ret (eX12_fault_4 _) (Nat.le_refl _) (Nat.le_refl _) ⟨rfl, ⟨_, _, _, _, _, _, _, _, _, _, _, _, _, _, _, _, _, _, _, _, _, _, _, _, g25, hE.at (by decide) e26, g27, g28, hE.at (by decide) e29, hE.at (by decide) e30, hE.at (by decide) e31, hE.at (by decide) e32, hE.at (by decide) e33, hE.at (by decide) e34, hE.at (by decide) e35, hE.at (by decide) e36, hE.at (by decide) e37, hE.at (by decide) e38, hE.at (by decide) e39, lpg, l1, l2, lnr, lro, lhe, lth, ldr, lks, lkr, lkh, hpg, hnr, ⟨lsh, lrw, lhs, hsh, hrw, hhs⟩, hk0, hk1⟩, hE.mono (by decide)⟩
set_option maxRecDepth 20000 in
theorem m_court {σ : aH} {t : St} (hI : IM t σ) (hwf : WF t)  : MX12_court 3 0 0 [.ref 25] σ (fun v σ' => v = some (.int (oCourt t).1) ∧ IM (oCourt t).2 σ' ∧ FrM σ σ') := by
  refine sX12_court (Nat.le_of_ble_eq_true rfl) ?_
  have hI' := hI
  have hwf' := hwf
  have hSs := hwf.hS
  obtain ⟨pg, rn, rs, nr, sh, rw, ro, he, hs, th, dr, ks, kr, kh, x2, x3, x4, sd, kc, kl, ka, kg, kd, ha, e25, e26, e27, e28, e29, e30, e31, e32, e33, e34, e35, e36, e37, e38, e39, lpg, lrn, lrs, lnr, lro, lhe, lth, ldr, lks, lkr, lkh, hpg, hnr, ⟨lsh, lrw, lhs, hsh, hrw, hhs⟩, hk0, hk1⟩ := hI
  obtain ⟨w1, w2, w3, w4, w5, ⟨w6, w7, w8, w9, w10, w11, w12⟩, w13, w14, w15, w16, w17⟩ := hwf
  unfold oCourt
  refine g_aload eX12_court_0 rfl ?_
  refine g_callV0 (r := (RX12, TX12, 32)) eX12_court_1 kX12_80 e25 (by rfl) (c_faultOf (p := shW (pgO t)) e25 e26 e27 e28 lpg lrn lrs w1 hpg w2) (by rfl) (by rfl) (by exact Nat.le_of_ble_eq_true rfl) (by exact Nat.le_of_ble_eq_true rfl) (by exact Nat.le_of_ble_eq_true rfl) (Nat.le_refl _) (Nat.le_refl _) (fun v1 σ1 hp1 hn1 => ?_)
  obtain ⟨y2, y3, y4, rn', rs', hE, g25, g27, g28, l1, l2, rfl, hh⟩ := hp1
  have g26 := hE.at (by decide) e26
  have g29 := hE.at (by decide) e29
  have g30 := hE.at (by decide) e30
  have g31 := hE.at (by decide) e31
  have g32 := hE.at (by decide) e32
  have g33 := hE.at (by decide) e33
  have g34 := hE.at (by decide) e34
  have g35 := hE.at (by decide) e35
  have g36 := hE.at (by decide) e36
  have g37 := hE.at (by decide) e37
  have g38 := hE.at (by decide) e38
  have g39 := hE.at (by decide) e39
  have hM : IM t σ1 := ⟨_, _, _, _, _, _, _, _, _, _, _, _, _, _, _, _, _, _, _, _, _, _, _, _, g25, g26, g27, g28, g29, g30, g31, g32, g33, g34, g35, g36, g37, g38, g39, lpg, l1, l2, lnr, lro, lhe, lth, ldr, lks, lkr, lkh, hpg, hnr, ⟨lsh, lrw, lhs, hsh, hrw, hhs⟩, hk0, hk1⟩
  have hFM : FrM σ σ1 := hE.mono (by decide)
  have hwl : (wfa (shW (pgO t)) (pgO t).length 0 (0, 0, 0)).1 ≤ (pgO t).length := by
    have := (wfa_ok (shW (pgO t)) (pgO t).length 0 (0, 0, 0) ⟨by decide, by decide, by decide⟩).2.2
    omega
  refine g_aload eX12_court_4 rfl ?_
  refine g_get eX12_court_5 fX12_62_X12 g25 (by rfl) ?_
  by_cases hful : (wfa (shW (pgO t)) (pgO t).length 0 (0, 0, 0)).1 = (pgO t).length
  · obtain ⟨s, hs, rfl, rfl, hq⟩ := hh hful
    obtain ⟨o, r1, r2, r3, r4, r5, r6⟩ := RV_of _ s hs
    obtain ⟨o1, o2, o3⟩ := o
    have hwp : (wfa (shW (pgO t)) (pgO t).length 0 (0, 0, 0)).2 = s := by
      have := wfa_pre (pg := (shW (pgO t))) (pgO t).length 0 (0, 0, 0) rfl (by omega)
      rw [Nat.zero_add, hs] at this
      exact (Option.some.inj this).symm
    rw [hful]
    refine g_icmp_ltN eX12_court_8 (by omega) (by omega) (fun c8 => by exfalso; omega) (fun c8 => ?_)
    refine g_aload eX12_court_11 rfl ?_
    refine g_get eX12_court_12 fX12_65_X12 g25 (by rfl) ?_
    refine g_push eX12_court_15 ?_
    refine g_icmp_ltN eX12_court_16 (by omega) (by omega) (fun c16 => ?_) (fun c16 => ?_)
    · refine g_push eX12_court_26 ?_
      exact g_ret (eX12_court_28 _) (Nat.le_refl _) (Nat.le_refl _) (by
        rw [if_neg (show ¬ wcourt (shW (pgO t)) (pgO t).length = true from fun z => by
          unfold wcourt at z
          have z2 := of_decide_eq_true z
          rw [hwp] at z2
          omega)]
        exact ⟨rfl, hM, hFM⟩)
    · refine g_aload eX12_court_19 rfl ?_
      refine g_get eX12_court_20 fX12_68_X12 g25 (by rfl) ?_
      refine g_if_neN eX12_court_23 (by omega) (fun c23 => ?_) (fun c23 => ?_)
      · refine g_aload eX12_court_29 rfl ?_
        refine g_aload eX12_court_30 rfl ?_
        refine g_get eX12_court_31 fX12_68_X12 g25 (by rfl) ?_
        refine g_putI eX12_court_34 fX12_84_X12 pX12_8 g25 (by exact Nat.le_of_ble_eq_true rfl) ?_
        refine g_aload eX12_court_37 rfl ?_
        refine g_get eX12_court_38 fX12_13_X12 (at_eq g25) (by rfl) ?_
        refine g_aload eX12_court_41 rfl ?_
        refine g_get eX12_court_42 fX12_19_X12 (at_eq g25) (by rfl) ?_
        refine g_callSp eX12_court_45 kX12_87 (c_copy (by decide) (at_ne (by decide) g27) (at_ne (by decide) g29) (by omega) (by omega)) (by rfl) (by rfl) (by exact Nat.le_of_ble_eq_true rfl) (by exact Nat.le_of_ble_eq_true rfl) (by exact Nat.le_of_ble_eq_true rfl) (Nat.le_refl _) (Nat.le_refl _) ?_
        refine g_aload eX12_court_48 rfl ?_
        refine g_get eX12_court_49 fX12_16_X12 (at_ne (by decide) (at_eq g25)) (by rfl) ?_
        refine g_aload eX12_court_52 rfl ?_
        refine g_get eX12_court_53 fX12_22_X12 (at_ne (by decide) (at_eq g25)) (by rfl) ?_
        refine g_callSp eX12_court_56 kX12_87 (c_copy (by decide) (at_ne (by decide) (at_ne (by decide) g28)) (at_ne (by decide) (at_ne (by decide) g30)) (by omega) (by omega)) (by rfl) (by rfl) (by exact Nat.le_of_ble_eq_true rfl) (by exact Nat.le_of_ble_eq_true rfl) (by exact Nat.le_of_ble_eq_true rfl) (Nat.le_refl _) (Nat.le_refl _) ?_
        refine g_aload eX12_court_59 rfl ?_
        refine g_get eX12_court_60 fX12_19_X12 (at_ne (by decide) (at_ne (by decide) (at_eq g25))) (by rfl) ?_
        refine g_push eX12_court_63 ?_
        refine g_push eX12_court_64 ?_
        refine g_iastN eX12_court_65 (at_ne (by decide) (at_eq (at_ne (by decide) g29))) (by omega) (by omega) ?_
        refine g_aload eX12_court_66 rfl ?_
        refine g_push eX12_court_67 ?_
        refine g_putI eX12_court_68 fX12_91_X12 pX12_7 (at_ne (by decide) (at_ne (by decide) (at_ne (by decide) (at_eq g25)))) (by exact Nat.le_of_ble_eq_true rfl) ?_
        refine g_aload eX12_court_71 rfl ?_
        refine g_push eX12_court_72 ?_
        refine g_putI eX12_court_73 fX12_94_X12 pX12_9 (at_eq (at_ne (by decide) (at_ne (by decide) (at_ne (by decide) (at_eq g25))))) (by exact Nat.le_of_ble_eq_true rfl) ?_
        refine g_aload eX12_court_76 rfl ?_
        refine g_push eX12_court_77 ?_
        refine g_putI eX12_court_78 fX12_97_X12 pX12_13 (at_eq (at_eq (at_ne (by decide) (at_ne (by decide) (at_ne (by decide) (at_eq g25)))))) (by exact Nat.le_of_ble_eq_true rfl) ?_
        refine g_aload eX12_court_81 rfl ?_
        refine g_push eX12_court_82 ?_
        refine g_putI eX12_court_83 fX12_100_X12 pX12_18 (at_eq (at_eq (at_eq (at_ne (by decide) (at_ne (by decide) (at_ne (by decide) (at_eq g25))))))) (by exact Nat.le_of_ble_eq_true rfl) ?_
        refine g_aload eX12_court_86 rfl ?_
        refine g_dup eX12_court_87 rfl ?_
        refine g_get eX12_court_88 fX12_103_X12 (at_eq (at_eq (at_eq (at_eq (at_ne (by decide) (at_ne (by decide) (at_ne (by decide) (at_eq g25)))))))) (by rfl) ?_
        refine g_push eX12_court_91 ?_
        refine g_iaddN eX12_court_92 ?_
        refine g_putI eX12_court_93 fX12_103_X12 pX12_10 (at_eq (at_eq (at_eq (at_eq (at_ne (by decide) (at_ne (by decide) (at_ne (by decide) (at_eq g25)))))))) (by exact Nat.le_of_ble_eq_true rfl) ?_
        refine g_aload eX12_court_96 rfl ?_
        refine g_push eX12_court_97 ?_
        refine g_putI eX12_court_98 fX12_62_X12 pX12_1 (at_eq (at_eq (at_eq (at_eq (at_eq (at_ne (by decide) (at_ne (by decide) (at_ne (by decide) (at_eq g25))))))))) (by exact Nat.le_of_ble_eq_true rfl) ?_
        refine g_aload eX12_court_101 rfl ?_
        refine g_get eX12_court_102 fX12_84_X12 (at_eq (at_eq (at_eq (at_eq (at_eq (at_eq (at_ne (by decide) (at_ne (by decide) (at_ne (by decide) (at_eq g25)))))))))) (by rfl) ?_
        exact g_ret (eX12_court_105 _) (Nat.le_refl _) (Nat.le_refl _) (by
          have h4 : s.1 = 4 := by omega
          rw [if_pos h4] at r2
          rw [if_pos (show wcourt (shW (pgO t)) (pgO t).length = true by
            unfold wcourt
            rw [hwp]
            exact decide_eq_true ⟨hful, h4, by omega⟩)]
          refine ⟨by rw [r2], ⟨_, _, _, _, _, _, _, _, _, _, _, _, _, _, _, _, _, _, _, _, _, _, _, _, (by show _ = some (mob 0 _ _ _ 2 (rdc (shW (pgO t)) (pgO t).length).2.2.length 0 (ctO t + 1) 0 (brO t) 0 _ _ _ _ _ _ _); rw [r2]; exact (at_eq (at_eq (at_eq (at_eq (at_eq (at_eq (at_ne (by decide) (at_ne (by decide) (at_ne (by decide) (at_eq g25))))))))))), (at_ne (by decide) (at_ne (by decide) (at_ne (by decide) (at_ne (by decide) (at_ne (by decide) (at_ne (by decide) (at_ne (by decide) (at_ne (by decide) (at_ne (by decide) (at_ne (by decide) g26)))))))))), (at_ne (by decide) (at_ne (by decide) (at_ne (by decide) (at_ne (by decide) (at_ne (by decide) (at_ne (by decide) (at_ne (by decide) (at_ne (by decide) (at_ne (by decide) (at_ne (by decide) g27)))))))))), (at_ne (by decide) (at_ne (by decide) (at_ne (by decide) (at_ne (by decide) (at_ne (by decide) (at_ne (by decide) (at_ne (by decide) (at_ne (by decide) (at_ne (by decide) (at_ne (by decide) g28)))))))))), (at_ne (by decide) (at_ne (by decide) (at_ne (by decide) (at_ne (by decide) (at_ne (by decide) (at_ne (by decide) (at_eq (at_ne (by decide) (at_eq (at_ne (by decide) g29)))))))))), (at_ne (by decide) (at_ne (by decide) (at_ne (by decide) (at_ne (by decide) (at_ne (by decide) (at_ne (by decide) (at_ne (by decide) (at_eq (at_ne (by decide) (at_ne (by decide) g30)))))))))), (at_ne (by decide) (at_ne (by decide) (at_ne (by decide) (at_ne (by decide) (at_ne (by decide) (at_ne (by decide) (at_ne (by decide) (at_ne (by decide) (at_ne (by decide) (at_ne (by decide) g31)))))))))), (at_ne (by decide) (at_ne (by decide) (at_ne (by decide) (at_ne (by decide) (at_ne (by decide) (at_ne (by decide) (at_ne (by decide) (at_ne (by decide) (at_ne (by decide) (at_ne (by decide) g32)))))))))), (at_ne (by decide) (at_ne (by decide) (at_ne (by decide) (at_ne (by decide) (at_ne (by decide) (at_ne (by decide) (at_ne (by decide) (at_ne (by decide) (at_ne (by decide) (at_ne (by decide) g33)))))))))), (at_ne (by decide) (at_ne (by decide) (at_ne (by decide) (at_ne (by decide) (at_ne (by decide) (at_ne (by decide) (at_ne (by decide) (at_ne (by decide) (at_ne (by decide) (at_ne (by decide) g34)))))))))), (at_ne (by decide) (at_ne (by decide) (at_ne (by decide) (at_ne (by decide) (at_ne (by decide) (at_ne (by decide) (at_ne (by decide) (at_ne (by decide) (at_ne (by decide) (at_ne (by decide) g35)))))))))), (at_ne (by decide) (at_ne (by decide) (at_ne (by decide) (at_ne (by decide) (at_ne (by decide) (at_ne (by decide) (at_ne (by decide) (at_ne (by decide) (at_ne (by decide) (at_ne (by decide) g36)))))))))), (at_ne (by decide) (at_ne (by decide) (at_ne (by decide) (at_ne (by decide) (at_ne (by decide) (at_ne (by decide) (at_ne (by decide) (at_ne (by decide) (at_ne (by decide) (at_ne (by decide) g37)))))))))), (at_ne (by decide) (at_ne (by decide) (at_ne (by decide) (at_ne (by decide) (at_ne (by decide) (at_ne (by decide) (at_ne (by decide) (at_ne (by decide) (at_ne (by decide) (at_ne (by decide) g38)))))))))), (at_ne (by decide) (at_ne (by decide) (at_ne (by decide) (at_ne (by decide) (at_ne (by decide) (at_ne (by decide) (at_ne (by decide) (at_ne (by decide) (at_ne (by decide) (at_ne (by decide) g39)))))))))), lpg, l1, l2, (by rw [List.length_set]; exact l1), lro, lhe, lth, ldr, lks, lkr, lkh, fun k hk => absurd hk (Nat.not_lt_zero k), fun d hd => ?_, ⟨l2, lrw, lhs, fun k hk => ?_, fun i hi => absurd hi (Nat.not_lt_zero i), fun i hi => absurd hi (Nat.not_lt_zero i)⟩, fun _ => ?_, fun c hc => (nomatch (show (none : Option Cr) = some c from hc))⟩, hFM.tr ((((((((((EqO.rf.st (by decide)).st (by decide)).st (by decide)).st (by decide)).st (by decide)).st (by decide)).st (by decide)).st (by decide)).st (by decide)).st (by decide))⟩
          · show (rn'.set 4 0).getD d 0 = (rdc (shW (pgO t)) (pgO t).length).2.1.getD d 0
            rw [getD_set]
            by_cases hd4 : 4 = d
            · rw [if_pos ⟨hd4, by omega⟩, ← hd4, r5]
            · rw [if_neg (fun z => hd4 z.1)]
              exact hq.1 d (by omega) (Or.inl (by omega))
          · have hk2 : k < (rdc (shW (pgO t)) (pgO t).length).2.2.length := hk
            exact hq.2 h4 k (by omega)
          · show kc.toInt < ((ctO t + 1 : Nat) : Int)
            cases hi : imO t with
            | none =>
              have := hk0 hi
              omega
            | some c =>
              rw [(hk1 c hi).1, nI_toInt (by omega)]
              omega)
      · refine g_push eX12_court_26 ?_
        exact g_ret (eX12_court_28 _) (Nat.le_refl _) (Nat.le_refl _) (by
          rw [if_neg (show ¬ wcourt (shW (pgO t)) (pgO t).length = true from fun z => by
            unfold wcourt at z
            have z2 := of_decide_eq_true z
            rw [hwp] at z2
            omega)]
          exact ⟨rfl, hM, hFM⟩)
  · have hno : ¬ wcourt (shW (pgO t)) (pgO t).length = true := fun z => by
      unfold wcourt at z
      exact hful (of_decide_eq_true z).1
    rw [if_neg hno]
    refine g_icmp_ltN eX12_court_8 (by omega) (by omega) (fun c8 => ?_) (fun c8 => by exfalso; omega)
    refine g_push eX12_court_26 ?_
    exact g_ret (eX12_court_28 _) (Nat.le_refl _) (Nat.le_refl _) ⟨rfl, hM, hFM⟩

