/-! the reference: accuse, as, lesson, unlearn -/
theorem isK_iff {of kd : Nat} : isK of kd = true ↔ kd = 0 ∨ kd = of ∨ (kd = 1 ∧ of = 4) := by simp [isK, or_assoc]
theorem rows_set {c : Cr} {rw : List Nat} {a h : Nat} (ha : a < (mnO c).length) (lrw : rw.length = 12) (h4 : (mnO c).length ≤ 4) (hrw : ∀ i, i < (mnO c).length → rw.getD (3 * i) 0 = (manO c i).1 ∧ rw.getD (3 * i + 1) 0 = (manO c i).2.1 ∧ rw.getD (3 * i + 2) 0 = (manO c i).2.2) (i : Nat) (hi : i < ((mnO c).set a ((manO c a).1, (manO c a).2.1, h)).length) : (rw.set (3 * a + 2) h).getD (3 * i) 0 = (((mnO c).set a ((manO c a).1, (manO c a).2.1, h)).getD i m0).1 ∧ (rw.set (3 * a + 2) h).getD (3 * i + 1) 0 = (((mnO c).set a ((manO c a).1, (manO c a).2.1, h)).getD i m0).2.1 ∧ (rw.set (3 * a + 2) h).getD (3 * i + 2) 0 = (((mnO c).set a ((manO c a).1, (manO c a).2.1, h)).getD i m0).2.2 := by
  rw [List.length_set] at hi
  have e1 : (rw.set (3 * a + 2) h).getD (3 * i) 0 = rw.getD (3 * i) 0 := by rw [getD_set, if_neg (by omega)]
  have e2 : (rw.set (3 * a + 2) h).getD (3 * i + 1) 0 = rw.getD (3 * i + 1) 0 := by rw [getD_set, if_neg (by omega)]
  have hri := hrw i hi
  by_cases hai : a = i
  · subst hai
    have e3 : (rw.set (3 * a + 2) h).getD (3 * a + 2) 0 = h := by
      rw [getD_set]
      exact if_pos ⟨rfl, by omega⟩
    have e4 : ((mnO c).set a ((manO c a).1, (manO c a).2.1, h)).getD a m0 = ((manO c a).1, (manO c a).2.1, h) := by
      rw [getD_set]
      exact if_pos ⟨rfl, ha⟩
    rw [e1, e2, e3, e4]
    exact ⟨hri.1, hri.2.1, rfl⟩
  · have e3 : (rw.set (3 * a + 2) h).getD (3 * i + 2) 0 = rw.getD (3 * i + 2) 0 := by rw [getD_set, if_neg (by omega)]
    have e4 : ((mnO c).set a ((manO c a).1, (manO c a).2.1, h)).getD i m0 = manO c i := by
      rw [getD_set, if_neg (fun z => hai z.1)]
    rw [e1, e2, e3, e4]
    exact hri
set_option maxRecDepth 20000 in
theorem m_accuse {σ : aH} {t : St} (hI : IM t σ) (hwf : WF t) {x y : Int32} : MX12_accuse 1 0 0 [.ref 25, .int x, .int y] σ (fun v σ' => v = some (.int (oAccuse t x y).1) ∧ IM (oAccuse t x y).2 σ' ∧ FrM σ σ') := by
  refine sX12_accuse (Nat.le_of_ble_eq_true rfl) ?_
  have hI' := hI
  have hwf' := hwf
  have hSs := hwf.hS
  obtain ⟨pg, rn, rs, nr, sh, rw, ro, he, hs, th, dr, ks, kr, kh, x2, x3, x4, sd, kc, kl, ka, kg, kd, ha, e25, e26, e27, e28, e29, e30, e31, e32, e33, e34, e35, e36, e37, e38, e39, lpg, lrn, lrs, lnr, lro, lhe, lth, ldr, lks, lkr, lkh, hpg, hnr, ⟨lsh, lrw, lhs, hsh, hrw, hhs⟩, hk0, hk1⟩ := hI
  obtain ⟨w1, w2, w3, w4, w5, ⟨w6, w7, w8, w9, w10, w11, w12⟩, w13, w14, w15, w16, w17⟩ := hwf
  unfold oAccuse
  cases e : rg x 0 5 with
  | none =>
    dsimp only
    refine g_iload eX12_accuse_0 rfl ?_
    refine g_i2l eX12_accuse_1 ?_
    refine g_lconst eX12_accuse_2 rfl ?_
    refine g_ldc2 eX12_accuse_3 lX12_110 ?_
    refine g_callSp eX12_accuse_6 kX12_58 (c_inN e rfl rfl) (by rfl) (by rfl) (by exact Nat.le_of_ble_eq_true rfl) (by exact Nat.le_of_ble_eq_true rfl) (by exact Nat.le_of_ble_eq_true rfl) (Nat.le_refl _) (Nat.le_refl _) ?_
    refine g_if_eqN eX12_accuse_9 (by omega) (fun c9 => ?_) (fun c9 => absurd rfl c9)
    refine g_push eX12_accuse_24 ?_
    exact g_ret (eX12_accuse_26 _) (Nat.le_refl _) (Nat.le_refl _) ⟨rfl, hI', EqO.rf⟩
  | some kd =>
    dsimp only
    have e' := e
    obtain ⟨rfl, -, hkd⟩ := rg_some e
    cases f : rg y 0 5 with
    | none =>
      dsimp only
      refine g_iload eX12_accuse_0 rfl ?_
      refine g_i2l eX12_accuse_1 ?_
      refine g_lconst eX12_accuse_2 rfl ?_
      refine g_ldc2 eX12_accuse_3 lX12_110 ?_
      refine g_callSp eX12_accuse_6 kX12_58 (c_inT e' rfl rfl) (by rfl) (by rfl) (by exact Nat.le_of_ble_eq_true rfl) (by exact Nat.le_of_ble_eq_true rfl) (by exact Nat.le_of_ble_eq_true rfl) (Nat.le_refl _) (Nat.le_refl _) ?_
      refine g_if_eqN eX12_accuse_9 (by omega) (fun c9 => absurd c9 (by decide)) (fun c9 => ?_)
      refine g_iload eX12_accuse_12 rfl ?_
      refine g_i2l eX12_accuse_13 ?_
      refine g_lconst eX12_accuse_14 rfl ?_
      refine g_ldc2 eX12_accuse_15 lX12_110 ?_
      refine g_callSp eX12_accuse_18 kX12_58 (c_inN f rfl rfl) (by rfl) (by rfl) (by exact Nat.le_of_ble_eq_true rfl) (by exact Nat.le_of_ble_eq_true rfl) (by exact Nat.le_of_ble_eq_true rfl) (Nat.le_refl _) (Nat.le_refl _) ?_
      refine g_if_neN eX12_accuse_21 (by omega) (fun c21 => absurd rfl c21) (fun c21 => ?_)
      refine g_push eX12_accuse_24 ?_
      exact g_ret (eX12_accuse_26 _) (Nat.le_refl _) (Nat.le_refl _) ⟨rfl, hI', EqO.rf⟩
    | some d =>
      dsimp only
      have f' := f
      obtain ⟨rfl, -, hd5⟩ := rg_some f
      have hll : ((mnO (crO t)) ++ [(kd, d, 0)]).length = (mnO (crO t)).length + 1 := by simp
      refine g_iload eX12_accuse_0 rfl ?_
      refine g_i2l eX12_accuse_1 ?_
      refine g_lconst eX12_accuse_2 rfl ?_
      refine g_ldc2 eX12_accuse_3 lX12_110 ?_
      refine g_callSp eX12_accuse_6 kX12_58 (c_inT e' rfl rfl) (by rfl) (by rfl) (by exact Nat.le_of_ble_eq_true rfl) (by exact Nat.le_of_ble_eq_true rfl) (by exact Nat.le_of_ble_eq_true rfl) (Nat.le_refl _) (Nat.le_refl _) ?_
      refine g_if_eqN eX12_accuse_9 (by omega) (fun c9 => absurd c9 (by decide)) (fun c9 => ?_)
      refine g_iload eX12_accuse_12 rfl ?_
      refine g_i2l eX12_accuse_13 ?_
      refine g_lconst eX12_accuse_14 rfl ?_
      refine g_ldc2 eX12_accuse_15 lX12_110 ?_
      refine g_callSp eX12_accuse_18 kX12_58 (c_inT f' rfl rfl) (by rfl) (by rfl) (by exact Nat.le_of_ble_eq_true rfl) (by exact Nat.le_of_ble_eq_true rfl) (by exact Nat.le_of_ble_eq_true rfl) (Nat.le_refl _) (Nat.le_refl _) ?_
      refine g_if_neN eX12_accuse_21 (by omega) (fun c21 => ?_) (fun c21 => absurd c21 (by decide))
      refine g_aload eX12_accuse_27 rfl ?_
      refine g_callVp (r := (RX12, TX12, 32)) eX12_accuse_28 kX12_106 e25 (by rfl) (c_mlacks e25 w6) (by rfl) (by rfl) (by exact Nat.le_of_ble_eq_true rfl) (by exact Nat.le_of_ble_eq_true rfl) (by exact Nat.le_of_ble_eq_true rfl) (Nat.le_refl _) (Nat.le_refl _) ?_
      refine g_if_eqN eX12_accuse_31 (bt_lt _) (fun c31 => ?_) (fun c31 => ?_)
      · have hyes := bt_0 c31
        refine g_aload eX12_accuse_37 rfl ?_
        refine g_get eX12_accuse_38 fX12_97_X12 e25 (by rfl) ?_
        refine g_push eX12_accuse_41 ?_
        refine g_icmp_neN eX12_accuse_42 (by omega) (by omega) (fun c42 => ?_) (fun c42 => ?_)
        · refine g_aload eX12_accuse_48 rfl ?_
          refine g_get eX12_accuse_49 fX12_25_X12 e25 (by rfl) ?_
          refine g_push eX12_accuse_52 ?_
          refine g_aload eX12_accuse_53 rfl ?_
          refine g_get eX12_accuse_54 fX12_97_X12 e25 (by rfl) ?_
          refine g_imulN eX12_accuse_57 ?_
          refine g_iload eX12_accuse_58 rfl ?_
          refine g_iastN eX12_accuse_59 e31 (by omega) (by omega) ?_
          refine g_aload eX12_accuse_60 rfl ?_
          refine g_get eX12_accuse_61 fX12_25_X12 (at_ne (by decide) e25) (by rfl) ?_
          refine g_push eX12_accuse_64 ?_
          refine g_aload eX12_accuse_65 rfl ?_
          refine g_get eX12_accuse_66 fX12_97_X12 (at_ne (by decide) e25) (by rfl) ?_
          refine g_imulN eX12_accuse_69 ?_
          refine g_push eX12_accuse_70 ?_
          refine g_iaddN eX12_accuse_71 ?_
          refine g_iload eX12_accuse_72 rfl ?_
          refine g_iastN eX12_accuse_73 (at_eq e31) (by simp only [List.length_set]; omega) (by simp only [List.length_set]; omega) ?_
          refine g_aload eX12_accuse_74 rfl ?_
          refine g_get eX12_accuse_75 fX12_25_X12 (at_ne (by decide) (at_ne (by decide) e25)) (by rfl) ?_
          refine g_push eX12_accuse_78 ?_
          refine g_aload eX12_accuse_79 rfl ?_
          refine g_get eX12_accuse_80 fX12_97_X12 (at_ne (by decide) (at_ne (by decide) e25)) (by rfl) ?_
          refine g_imulN eX12_accuse_83 ?_
          refine g_push eX12_accuse_84 ?_
          refine g_iaddN eX12_accuse_85 ?_
          refine g_push eX12_accuse_86 ?_
          refine g_iastN eX12_accuse_87 (at_eq (at_eq e31)) (by simp only [List.length_set]; omega) (by simp only [List.length_set]; omega) ?_
          refine g_aload eX12_accuse_88 rfl ?_
          refine g_dup eX12_accuse_89 rfl ?_
          refine g_get eX12_accuse_90 fX12_97_X12 (at_ne (by decide) (at_ne (by decide) (at_ne (by decide) e25))) (by rfl) ?_
          refine g_push eX12_accuse_93 ?_
          refine g_iaddN eX12_accuse_94 ?_
          refine g_putI eX12_accuse_95 fX12_97_X12 pX12_13 (at_ne (by decide) (at_ne (by decide) (at_ne (by decide) e25))) (by exact Nat.le_of_ble_eq_true rfl) ?_
          refine g_aload eX12_accuse_98 rfl ?_
          refine g_get eX12_accuse_99 fX12_97_X12 (at_eq (at_ne (by decide) (at_ne (by decide) (at_ne (by decide) e25)))) (by rfl) ?_
          refine g_push eX12_accuse_102 ?_
          refine g_isubN eX12_accuse_103 (by omega) ?_
          exact g_ret (eX12_accuse_104 _) (Nat.le_refl _) (Nat.le_refl _) (by
            rw [if_pos (show hasC t from hSs.mpr (by omega)), if_pos (show (mnO (crO t)).length < 4 by omega), Nat.add_sub_cancel]
            refine ⟨rfl, ⟨_, _, _, _, _, _, _, _, _, _, _, _, _, _, _, _, _, _, _, _, _, _, _, _, (by show _ = some (mob _ _ _ _ _ _ _ _ ((mnO (crO t)) ++ [(kd, d, 0)]).length _ _ _ _ _ _ _ _ _); rw [hll]; exact (at_eq (at_ne (by decide) (at_ne (by decide) (at_ne (by decide) e25))))), (at_ne (by decide) (at_ne (by decide) (at_ne (by decide) (at_ne (by decide) e26)))), (at_ne (by decide) (at_ne (by decide) (at_ne (by decide) (at_ne (by decide) e27)))), (at_ne (by decide) (at_ne (by decide) (at_ne (by decide) (at_ne (by decide) e28)))), (at_ne (by decide) (at_ne (by decide) (at_ne (by decide) (at_ne (by decide) e29)))), (at_ne (by decide) (at_ne (by decide) (at_ne (by decide) (at_ne (by decide) e30)))), (at_ne (by decide) (at_eq (at_eq (at_eq e31)))), (at_ne (by decide) (at_ne (by decide) (at_ne (by decide) (at_ne (by decide) e32)))), (at_ne (by decide) (at_ne (by decide) (at_ne (by decide) (at_ne (by decide) e33)))), (at_ne (by decide) (at_ne (by decide) (at_ne (by decide) (at_ne (by decide) e34)))), (at_ne (by decide) (at_ne (by decide) (at_ne (by decide) (at_ne (by decide) e35)))), (at_ne (by decide) (at_ne (by decide) (at_ne (by decide) (at_ne (by decide) e36)))), (at_ne (by decide) (at_ne (by decide) (at_ne (by decide) (at_ne (by decide) e37)))), (at_ne (by decide) (at_ne (by decide) (at_ne (by decide) (at_ne (by decide) e38)))), (at_ne (by decide) (at_ne (by decide) (at_ne (by decide) (at_ne (by decide) e39)))), lpg, lrn, lrs, lnr, lro, lhe, lth, ldr, lks, lkr, lkh, hpg, hnr, ⟨lsh, by rw [List.length_set, List.length_set, List.length_set]; exact lrw, lhs, hsh, fun i hi => ?_, hhs⟩, hk0, hk1⟩, ((((EqO.rf.st (by decide)).st (by decide)).st (by decide)).st (by decide))⟩
            have hi2 : i < (mnO (crO t)).length + 1 := hll ▸ hi
            show _ = (((mnO (crO t)) ++ [(kd, d, 0)]).getD i m0).1 ∧ _ = (((mnO (crO t)) ++ [(kd, d, 0)]).getD i m0).2.1 ∧ _ = (((mnO (crO t)) ++ [(kd, d, 0)]).getD i m0).2.2
            rw [getD_app]
            by_cases h : i < (mnO (crO t)).length
            · rw [if_pos h, getD_set, getD_set, getD_set, getD_set, getD_set, getD_set, getD_set, getD_set, getD_set, if_neg (by omega), if_neg (by omega), if_neg (by omega), if_neg (by omega), if_neg (by omega), if_neg (by omega), if_neg (by omega), if_neg (by omega), if_neg (by omega)]
              exact hrw i h
            · obtain rfl : i = (mnO (crO t)).length := by omega
              rw [if_neg h, if_pos rfl]
              refine ⟨?_, ?_, ?_⟩
              · rw [getD_set, getD_set, getD_set, if_neg (by omega), if_neg (by omega), if_pos ⟨rfl, by omega⟩]
              · rw [getD_set, getD_set, if_neg (by omega), if_pos ⟨rfl, by rw [List.length_set]; omega⟩]
              · rw [getD_set, if_pos ⟨rfl, by rw [List.length_set, List.length_set]; omega⟩])
        · refine g_push eX12_accuse_45 ?_
          exact g_ret (eX12_accuse_47 _) (Nat.le_refl _) (Nat.le_refl _) (by rw [if_pos (show hasC t from hSs.mpr (by omega)), if_neg (show ¬ (mnO (crO t)).length < 4 by omega)]; exact ⟨rfl, hI', EqO.rf⟩)
      · have hno := bt_1 c31
        refine g_push eX12_accuse_34 ?_
        exact g_ret (eX12_accuse_36 _) (Nat.le_refl _) (Nat.le_refl _) (by rw [if_neg (show ¬ hasC t from fun h => by have := hSs.mp h; omega)]; exact ⟨rfl, hI', EqO.rf⟩)
set_option maxRecDepth 20000 in
theorem m_as {σ : aH} {t : St} (hI : IM t σ) (hwf : WF t) {x y : Int32} : MX12_as 2 0 0 [.ref 25, .int x, .int y] σ (aPu (some (.int (oAs t x y))) σ) := by
  refine sX12_as (Nat.le_of_ble_eq_true rfl) ?_
  have hI' := hI
  have hwf' := hwf
  have hSs := hwf.hS
  obtain ⟨pg, rn, rs, nr, sh, rw, ro, he, hs, th, dr, ks, kr, kh, x2, x3, x4, sd, kc, kl, ka, kg, kd, ha, e25, e26, e27, e28, e29, e30, e31, e32, e33, e34, e35, e36, e37, e38, e39, lpg, lrn, lrs, lnr, lro, lhe, lth, ldr, lks, lkr, lkh, hpg, hnr, ⟨lsh, lrw, lhs, hsh, hrw, hhs⟩, hk0, hk1⟩ := hI
  obtain ⟨w1, w2, w3, w4, w5, ⟨w6, w7, w8, w9, w10, w11, w12⟩, w13, w14, w15, w16, w17⟩ := hwf
  unfold oAs
  cases e : rg x 0 (mnO (crO t)).length with
  | none =>
    dsimp only
    refine g_aload eX12_as_0 rfl ?_
    refine g_iload eX12_as_1 rfl ?_
    refine g_callVp (r := (RX12, TX12, 32)) eX12_as_2 kX12_149 e25 (by rfl) (c_isAccN e25 (by omega) e) (by rfl) (by rfl) (by exact Nat.le_of_ble_eq_true rfl) (by exact Nat.le_of_ble_eq_true rfl) (by exact Nat.le_of_ble_eq_true rfl) (Nat.le_refl _) (Nat.le_refl _) ?_
    refine g_if_neN eX12_as_5 (by omega) (fun c5 => absurd rfl c5) (fun c5 => ?_)
    refine g_push eX12_as_8 ?_
    exact g_ret (eX12_as_10 _) (Nat.le_refl _) (Nat.le_refl _) ⟨rfl, rfl⟩
  | some a =>
    dsimp only
    have e' := e
    obtain ⟨rfl, -, ha⟩ := rg_some e (by omega)
    have hr := (hrw a ha).1
    have hm := (w10 a).1
    cases f : rg y 0 5 with
    | none =>
      dsimp only
      refine g_aload eX12_as_0 rfl ?_
      refine g_iload eX12_as_1 rfl ?_
      refine g_callVp (r := (RX12, TX12, 32)) eX12_as_2 kX12_149 e25 (by rfl) (c_isAccT e25 (by omega) e') (by rfl) (by rfl) (by exact Nat.le_of_ble_eq_true rfl) (by exact Nat.le_of_ble_eq_true rfl) (by exact Nat.le_of_ble_eq_true rfl) (Nat.le_refl _) (Nat.le_refl _) ?_
      refine g_if_neN eX12_as_5 (by omega) (fun c5 => ?_) (fun c5 => absurd c5 (by decide))
      refine g_iload eX12_as_11 rfl ?_
      refine g_i2l eX12_as_12 ?_
      refine g_lconst eX12_as_13 rfl ?_
      refine g_ldc2 eX12_as_14 lX12_110 ?_
      refine g_callSp eX12_as_17 kX12_58 (c_inN f rfl rfl) (by rfl) (by rfl) (by exact Nat.le_of_ble_eq_true rfl) (by exact Nat.le_of_ble_eq_true rfl) (by exact Nat.le_of_ble_eq_true rfl) (Nat.le_refl _) (Nat.le_refl _) ?_
      refine g_if_neN eX12_as_20 (by omega) (fun c20 => absurd rfl c20) (fun c20 => ?_)
      refine g_push eX12_as_23 ?_
      exact g_ret (eX12_as_25 _) (Nat.le_refl _) (Nat.le_refl _) ⟨rfl, rfl⟩
    | some k =>
      dsimp only
      have f' := f
      obtain ⟨rfl, -, hk⟩ := rg_some f
      refine g_aload eX12_as_0 rfl ?_
      refine g_iload eX12_as_1 rfl ?_
      refine g_callVp (r := (RX12, TX12, 32)) eX12_as_2 kX12_149 e25 (by rfl) (c_isAccT e25 (by omega) e') (by rfl) (by rfl) (by exact Nat.le_of_ble_eq_true rfl) (by exact Nat.le_of_ble_eq_true rfl) (by exact Nat.le_of_ble_eq_true rfl) (Nat.le_refl _) (Nat.le_refl _) ?_
      refine g_if_neN eX12_as_5 (by omega) (fun c5 => ?_) (fun c5 => absurd c5 (by decide))
      refine g_iload eX12_as_11 rfl ?_
      refine g_i2l eX12_as_12 ?_
      refine g_lconst eX12_as_13 rfl ?_
      refine g_ldc2 eX12_as_14 lX12_110 ?_
      refine g_callSp eX12_as_17 kX12_58 (c_inT f' rfl rfl) (by rfl) (by rfl) (by exact Nat.le_of_ble_eq_true rfl) (by exact Nat.le_of_ble_eq_true rfl) (by exact Nat.le_of_ble_eq_true rfl) (Nat.le_refl _) (Nat.le_refl _) ?_
      refine g_if_neN eX12_as_20 (by omega) (fun c20 => ?_) (fun c20 => absurd c20 (by decide))
      refine g_aload eX12_as_26 rfl ?_
      refine g_get eX12_as_27 fX12_25_X12 e25 (by rfl) ?_
      refine g_push eX12_as_30 ?_
      refine g_iload eX12_as_31 rfl ?_
      refine g_imulN eX12_as_32 ?_
      refine g_ialdN eX12_as_33 e31 (by omega) (by omega) ?_
      rw [hr]
      refine g_istore eX12_as_34 rfl ?_
      refine g_iload eX12_as_35 rfl ?_
      refine g_if_eqN eX12_as_36 (by omega) (fun c36 => ?_) (fun c36 => ?_)
      · refine g_push eX12_as_54 ?_
        refine g_goto eX12_as_55 ?_
        refine g_istore eX12_as_59 rfl ?_
        refine g_iload eX12_as_61 rfl ?_
        refine g_if_eqN eX12_as_63 (by omega) (fun c63 => ?_) (fun c63 => ?_)
        · refine g_push (v := -1) eX12_as_70 ?_
          exact g_ret (eX12_as_71 _) (Nat.le_refl _) (Nat.le_refl _) (by first | (exfalso; omega) | (rw [if_pos (isK_iff.mpr (by omega))]; exact ⟨rfl, rfl⟩) | (rw [if_neg (fun z => by have := isK_iff.mp z; omega)]; exact ⟨rfl, rfl⟩))
        · refine g_iload eX12_as_66 rfl ?_
          refine g_goto eX12_as_67 ?_
          exact g_ret (eX12_as_71 _) (Nat.le_refl _) (Nat.le_refl _) (by first | (exfalso; omega) | (rw [if_pos (isK_iff.mpr (by omega))]; exact ⟨rfl, rfl⟩) | (rw [if_neg (fun z => by have := isK_iff.mp z; omega)]; exact ⟨rfl, rfl⟩))
      · refine g_iload eX12_as_39 rfl ?_
        refine g_iload eX12_as_40 rfl ?_
        refine g_icmp_eqN eX12_as_41 (by omega) (by omega) (fun c41 => ?_) (fun c41 => ?_)
        · refine g_push eX12_as_54 ?_
          refine g_goto eX12_as_55 ?_
          refine g_istore eX12_as_59 rfl ?_
          refine g_iload eX12_as_61 rfl ?_
          refine g_if_eqN eX12_as_63 (by omega) (fun c63 => ?_) (fun c63 => ?_)
          · refine g_push (v := -1) eX12_as_70 ?_
            exact g_ret (eX12_as_71 _) (Nat.le_refl _) (Nat.le_refl _) (by first | (exfalso; omega) | (rw [if_pos (isK_iff.mpr (by omega))]; exact ⟨rfl, rfl⟩) | (rw [if_neg (fun z => by have := isK_iff.mp z; omega)]; exact ⟨rfl, rfl⟩))
          · refine g_iload eX12_as_66 rfl ?_
            refine g_goto eX12_as_67 ?_
            exact g_ret (eX12_as_71 _) (Nat.le_refl _) (Nat.le_refl _) (by first | (exfalso; omega) | (rw [if_pos (isK_iff.mpr (by omega))]; exact ⟨rfl, rfl⟩) | (rw [if_neg (fun z => by have := isK_iff.mp z; omega)]; exact ⟨rfl, rfl⟩))
        · refine g_iload eX12_as_44 rfl ?_
          refine g_push eX12_as_45 ?_
          refine g_icmp_neN eX12_as_46 (by omega) (by omega) (fun c46 => ?_) (fun c46 => ?_)
          · refine g_push eX12_as_58 ?_
            refine g_istore eX12_as_59 rfl ?_
            refine g_iload eX12_as_61 rfl ?_
            refine g_if_eqN eX12_as_63 (by omega) (fun c63 => ?_) (fun c63 => ?_)
            · refine g_push (v := -1) eX12_as_70 ?_
              exact g_ret (eX12_as_71 _) (Nat.le_refl _) (Nat.le_refl _) (by first | (exfalso; omega) | (rw [if_pos (isK_iff.mpr (by omega))]; exact ⟨rfl, rfl⟩) | (rw [if_neg (fun z => by have := isK_iff.mp z; omega)]; exact ⟨rfl, rfl⟩))
            · refine g_iload eX12_as_66 rfl ?_
              refine g_goto eX12_as_67 ?_
              exact g_ret (eX12_as_71 _) (Nat.le_refl _) (Nat.le_refl _) (by first | (exfalso; omega) | (rw [if_pos (isK_iff.mpr (by omega))]; exact ⟨rfl, rfl⟩) | (rw [if_neg (fun z => by have := isK_iff.mp z; omega)]; exact ⟨rfl, rfl⟩))
          · refine g_iload eX12_as_49 rfl ?_
            refine g_push eX12_as_50 ?_
            refine g_icmp_neN eX12_as_51 (by omega) (by omega) (fun c51 => ?_) (fun c51 => ?_)
            · refine g_push eX12_as_58 ?_
              refine g_istore eX12_as_59 rfl ?_
              refine g_iload eX12_as_61 rfl ?_
              refine g_if_eqN eX12_as_63 (by omega) (fun c63 => ?_) (fun c63 => ?_)
              · refine g_push (v := -1) eX12_as_70 ?_
                exact g_ret (eX12_as_71 _) (Nat.le_refl _) (Nat.le_refl _) (by first | (exfalso; omega) | (rw [if_pos (isK_iff.mpr (by omega))]; exact ⟨rfl, rfl⟩) | (rw [if_neg (fun z => by have := isK_iff.mp z; omega)]; exact ⟨rfl, rfl⟩))
              · refine g_iload eX12_as_66 rfl ?_
                refine g_goto eX12_as_67 ?_
                exact g_ret (eX12_as_71 _) (Nat.le_refl _) (Nat.le_refl _) (by first | (exfalso; omega) | (rw [if_pos (isK_iff.mpr (by omega))]; exact ⟨rfl, rfl⟩) | (rw [if_neg (fun z => by have := isK_iff.mp z; omega)]; exact ⟨rfl, rfl⟩))
            · refine g_push eX12_as_54 ?_
              refine g_goto eX12_as_55 ?_
              refine g_istore eX12_as_59 rfl ?_
              refine g_iload eX12_as_61 rfl ?_
              refine g_if_eqN eX12_as_63 (by omega) (fun c63 => ?_) (fun c63 => ?_)
              · refine g_push (v := -1) eX12_as_70 ?_
                exact g_ret (eX12_as_71 _) (Nat.le_refl _) (Nat.le_refl _) (by first | (exfalso; omega) | (rw [if_pos (isK_iff.mpr (by omega))]; exact ⟨rfl, rfl⟩) | (rw [if_neg (fun z => by have := isK_iff.mp z; omega)]; exact ⟨rfl, rfl⟩))
              · refine g_iload eX12_as_66 rfl ?_
                refine g_goto eX12_as_67 ?_
                exact g_ret (eX12_as_71 _) (Nat.le_refl _) (Nat.le_refl _) (by first | (exfalso; omega) | (rw [if_pos (isK_iff.mpr (by omega))]; exact ⟨rfl, rfl⟩) | (rw [if_neg (fun z => by have := isK_iff.mp z; omega)]; exact ⟨rfl, rfl⟩))
set_option maxRecDepth 20000 in
theorem m_lesson {σ : aH} {t : St} (hI : IM t σ) (hwf : WF t) {x y : Int32} : MX12_lesson 2 0 0 [.ref 25, .int x, .int y] σ (fun v σ' => v = some (.int (oLesson t x y).1) ∧ IM (oLesson t x y).2 σ' ∧ FrM σ σ') := by
  refine sX12_lesson (Nat.le_of_ble_eq_true rfl) ?_
  have hI' := hI
  have hwf' := hwf
  have hSs := hwf.hS
  obtain ⟨pg, rn, rs, nr, sh, rw, ro, he, hs, th, dr, ks, kr, kh, x2, x3, x4, sd, kc, kl, ka, kg, kd, ha, e25, e26, e27, e28, e29, e30, e31, e32, e33, e34, e35, e36, e37, e38, e39, lpg, lrn, lrs, lnr, lro, lhe, lth, ldr, lks, lkr, lkh, hpg, hnr, ⟨lsh, lrw, lhs, hsh, hrw, hhs⟩, hk0, hk1⟩ := hI
  obtain ⟨w1, w2, w3, w4, w5, ⟨w6, w7, w8, w9, w10, w11, w12⟩, w13, w14, w15, w16, w17⟩ := hwf
  unfold oLesson setH
  cases e : rg x 0 (mnO (crO t)).length with
  | none =>
    dsimp only
    refine g_aload eX12_lesson_0 rfl ?_
    refine g_iload eX12_lesson_1 rfl ?_
    refine g_callVp (r := (RX12, TX12, 32)) eX12_lesson_2 kX12_149 e25 (by rfl) (c_isAccN e25 (by omega) e) (by rfl) (by rfl) (by exact Nat.le_of_ble_eq_true rfl) (by exact Nat.le_of_ble_eq_true rfl) (by exact Nat.le_of_ble_eq_true rfl) (Nat.le_refl _) (Nat.le_refl _) ?_
    refine g_if_neN eX12_lesson_5 (by omega) (fun c5 => absurd rfl c5) (fun c5 => ?_)
    refine g_push eX12_lesson_8 ?_
    exact g_ret (eX12_lesson_10 _) (Nat.le_refl _) (Nat.le_refl _) ⟨rfl, hI', EqO.rf⟩
  | some a =>
    dsimp only
    have e' := e
    obtain ⟨rfl, -, ha⟩ := rg_some e (by omega)
    have hr := (hrw a ha).2.2
    have hm := (w10 a).2.2
    cases f : rg y 0 8 with
    | none =>
      dsimp only
      refine g_aload eX12_lesson_0 rfl ?_
      refine g_iload eX12_lesson_1 rfl ?_
      refine g_callVp (r := (RX12, TX12, 32)) eX12_lesson_2 kX12_149 e25 (by rfl) (c_isAccT e25 (by omega) e') (by rfl) (by rfl) (by exact Nat.le_of_ble_eq_true rfl) (by exact Nat.le_of_ble_eq_true rfl) (by exact Nat.le_of_ble_eq_true rfl) (Nat.le_refl _) (Nat.le_refl _) ?_
      refine g_if_neN eX12_lesson_5 (by omega) (fun c5 => ?_) (fun c5 => absurd c5 (by decide))
      refine g_iload eX12_lesson_11 rfl ?_
      refine g_i2l eX12_lesson_12 ?_
      refine g_lconst eX12_lesson_13 rfl ?_
      refine g_ldc2 eX12_lesson_14 lX12_74 ?_
      refine g_callSp eX12_lesson_17 kX12_58 (c_inN f rfl rfl) (by rfl) (by rfl) (by exact Nat.le_of_ble_eq_true rfl) (by exact Nat.le_of_ble_eq_true rfl) (by exact Nat.le_of_ble_eq_true rfl) (Nat.le_refl _) (Nat.le_refl _) ?_
      refine g_if_neN eX12_lesson_20 (by omega) (fun c20 => absurd rfl c20) (fun c20 => ?_)
      refine g_push eX12_lesson_23 ?_
      exact g_ret (eX12_lesson_25 _) (Nat.le_refl _) (Nat.le_refl _) ⟨rfl, hI', EqO.rf⟩
    | some k =>
      dsimp only
      have f' := f
      obtain ⟨rfl, -, hk⟩ := rg_some f
      have hor : (manO (crO t) a).2.2 ||| 2 ^ k < 256 := Nat.or_lt_two_pow (n := 8) hm (pow_lt8 hk)
      refine g_aload eX12_lesson_0 rfl ?_
      refine g_iload eX12_lesson_1 rfl ?_
      refine g_callVp (r := (RX12, TX12, 32)) eX12_lesson_2 kX12_149 e25 (by rfl) (c_isAccT e25 (by omega) e') (by rfl) (by rfl) (by exact Nat.le_of_ble_eq_true rfl) (by exact Nat.le_of_ble_eq_true rfl) (by exact Nat.le_of_ble_eq_true rfl) (Nat.le_refl _) (Nat.le_refl _) ?_
      refine g_if_neN eX12_lesson_5 (by omega) (fun c5 => ?_) (fun c5 => absurd c5 (by decide))
      refine g_iload eX12_lesson_11 rfl ?_
      refine g_i2l eX12_lesson_12 ?_
      refine g_lconst eX12_lesson_13 rfl ?_
      refine g_ldc2 eX12_lesson_14 lX12_74 ?_
      refine g_callSp eX12_lesson_17 kX12_58 (c_inT f' rfl rfl) (by rfl) (by rfl) (by exact Nat.le_of_ble_eq_true rfl) (by exact Nat.le_of_ble_eq_true rfl) (by exact Nat.le_of_ble_eq_true rfl) (Nat.le_refl _) (Nat.le_refl _) ?_
      refine g_if_neN eX12_lesson_20 (by omega) (fun c20 => ?_) (fun c20 => absurd c20 (by decide))
      refine g_aload eX12_lesson_26 rfl ?_
      refine g_get eX12_lesson_27 fX12_25_X12 e25 (by rfl) ?_
      refine g_push eX12_lesson_30 ?_
      refine g_iload eX12_lesson_31 rfl ?_
      refine g_imulN eX12_lesson_32 ?_
      refine g_push eX12_lesson_33 ?_
      refine g_iaddN eX12_lesson_34 ?_
      refine g_ialdN eX12_lesson_35 e31 (by omega) (by omega) ?_
      rw [hr]
      refine g_iload eX12_lesson_36 rfl ?_
      refine g_ishrN eX12_lesson_37 (by omega) (by omega) ?_
      refine g_push eX12_lesson_38 ?_
      refine g_iandN eX12_lesson_39 ?_
      rw [nbit]
      refine g_push eX12_lesson_40 ?_
      refine g_icmp_neN eX12_lesson_41 (bt_lt _) (by omega) (fun c41 => ?_) (fun c41 => ?_)
      · refine g_aload eX12_lesson_47 rfl ?_
        refine g_get eX12_lesson_48 fX12_25_X12 e25 (by rfl) ?_
        refine g_push eX12_lesson_51 ?_
        refine g_iload eX12_lesson_52 rfl ?_
        refine g_imulN eX12_lesson_53 ?_
        refine g_push eX12_lesson_54 ?_
        refine g_iaddN eX12_lesson_55 ?_
        refine g_dup2 eX12_lesson_56 rfl rfl ?_
        refine g_ialdN eX12_lesson_57 e31 (by omega) (by omega) ?_
        rw [hr]
        refine g_push eX12_lesson_58 ?_
        refine g_iload eX12_lesson_59 rfl ?_
        refine g_ishlN eX12_lesson_60 (by omega) (one_shl _ (by omega)) ?_
        rw [Nat.one_mul]
        refine g_iorN eX12_lesson_61 ?_
        refine g_iastN eX12_lesson_62 e31 (by omega) (by omega) ?_
        refine g_aload eX12_lesson_63 rfl ?_
        refine g_dup eX12_lesson_64 rfl ?_
        refine g_get eX12_lesson_65 fX12_94_X12 (at_ne (by decide) e25) (by rfl) ?_
        refine g_push eX12_lesson_68 ?_
        refine g_iaddN eX12_lesson_69 ?_
        refine g_putI eX12_lesson_70 fX12_94_X12 pX12_9 (at_ne (by decide) e25) (by exact Nat.le_of_ble_eq_true rfl) ?_
        refine g_aload eX12_lesson_73 rfl ?_
        refine g_get eX12_lesson_74 fX12_25_X12 (at_eq (at_ne (by decide) e25)) (by rfl) ?_
        refine g_push eX12_lesson_77 ?_
        refine g_iload eX12_lesson_78 rfl ?_
        refine g_imulN eX12_lesson_79 ?_
        refine g_push eX12_lesson_80 ?_
        refine g_iaddN eX12_lesson_81 ?_
        refine g_ialdN eX12_lesson_82 (at_ne (by decide) (at_eq e31)) (by simp only [List.length_set]; omega) (by simp only [List.length_set]; omega) ?_
        rw [show (rw.set (3 * a + 2) ((manO (crO t) a).2.2 ||| 2 ^ k)).getD (3 * a + 2) 0 = (manO (crO t) a).2.2 ||| 2 ^ k by rw [getD_set]; exact if_pos ⟨rfl, by omega⟩]
        refine g_callSp eX12_lesson_83 kX12_137 (c_ones (m := (manO (crO t) a).2.2 ||| 2 ^ k) (by omega)) (by rfl) (by rfl) (by exact Nat.le_of_ble_eq_true rfl) (by exact Nat.le_of_ble_eq_true rfl) (by exact Nat.le_of_ble_eq_true rfl) (Nat.le_refl _) (Nat.le_refl _) ?_
        exact g_ret (eX12_lesson_86 _) (Nat.le_refl _) (Nat.le_refl _) (by
          rw [if_neg (show ¬ (manO (crO t) a).2.2.testBit k = true from fun z => c41 (by rw [z]; rfl))]
          exact ⟨rfl, ⟨_, _, _, _, _, _, _, _, _, _, _, _, _, _, _, _, _, _, _, _, _, _, _, _, (by show _ = some (mob _ _ _ _ _ _ _ _ (List.set (mnO (crO t)) a _).length _ _ _ _ _ _ _ _ _); rw [List.length_set]; exact (at_eq (at_ne (by decide) e25))), (at_ne (by decide) (at_ne (by decide) e26)), (at_ne (by decide) (at_ne (by decide) e27)), (at_ne (by decide) (at_ne (by decide) e28)), (at_ne (by decide) (at_ne (by decide) e29)), (at_ne (by decide) (at_ne (by decide) e30)), (at_ne (by decide) (at_eq e31)), (at_ne (by decide) (at_ne (by decide) e32)), (at_ne (by decide) (at_ne (by decide) e33)), (at_ne (by decide) (at_ne (by decide) e34)), (at_ne (by decide) (at_ne (by decide) e35)), (at_ne (by decide) (at_ne (by decide) e36)), (at_ne (by decide) (at_ne (by decide) e37)), (at_ne (by decide) (at_ne (by decide) e38)), (at_ne (by decide) (at_ne (by decide) e39)), lpg, lrn, lrs, lnr, lro, lhe, lth, ldr, lks, lkr, lkh, hpg, hnr, ⟨lsh, by rw [List.length_set]; exact lrw, lhs, hsh, rows_set ha lrw w9 hrw, hhs⟩, hk0, hk1⟩, ((EqO.rf.st (by decide)).st (by decide))⟩)
      · refine g_push eX12_lesson_44 ?_
        exact g_ret (eX12_lesson_46 _) (Nat.le_refl _) (Nat.le_refl _) (by rw [if_pos (b_1 c41)]; exact ⟨rfl, hI', EqO.rf⟩)
set_option maxRecDepth 20000 in
theorem m_unlearn {σ : aH} {t : St} (hI : IM t σ) (hwf : WF t) {x : Int32} : MX12_unlearn 2 0 0 [.ref 25, .int x] σ (fun v σ' => v = some (.int (oUnlearn t x).1) ∧ IM (oUnlearn t x).2 σ' ∧ FrM σ σ') := by
  refine sX12_unlearn (Nat.le_of_ble_eq_true rfl) ?_
  have hI' := hI
  have hwf' := hwf
  have hSs := hwf.hS
  obtain ⟨pg, rn, rs, nr, sh, rw, ro, he, hs, th, dr, ks, kr, kh, x2, x3, x4, sd, kc, kl, ka, kg, kd, ha, e25, e26, e27, e28, e29, e30, e31, e32, e33, e34, e35, e36, e37, e38, e39, lpg, lrn, lrs, lnr, lro, lhe, lth, ldr, lks, lkr, lkh, hpg, hnr, ⟨lsh, lrw, lhs, hsh, hrw, hhs⟩, hk0, hk1⟩ := hI
  obtain ⟨w1, w2, w3, w4, w5, ⟨w6, w7, w8, w9, w10, w11, w12⟩, w13, w14, w15, w16, w17⟩ := hwf
  unfold oUnlearn setH
  cases e : rg x 0 (mnO (crO t)).length with
  | none =>
    dsimp only
    refine g_aload eX12_unlearn_0 rfl ?_
    refine g_iload eX12_unlearn_1 rfl ?_
    refine g_callVp (r := (RX12, TX12, 32)) eX12_unlearn_2 kX12_149 e25 (by rfl) (c_isAccN e25 (by omega) e) (by rfl) (by rfl) (by exact Nat.le_of_ble_eq_true rfl) (by exact Nat.le_of_ble_eq_true rfl) (by exact Nat.le_of_ble_eq_true rfl) (Nat.le_refl _) (Nat.le_refl _) ?_
    refine g_if_neN eX12_unlearn_5 (by omega) (fun c5 => absurd rfl c5) (fun c5 => ?_)
    refine g_push eX12_unlearn_8 ?_
    exact g_ret (eX12_unlearn_10 _) (Nat.le_refl _) (Nat.le_refl _) ⟨rfl, hI', EqO.rf⟩
  | some a =>
    dsimp only
    have e' := e
    obtain ⟨rfl, -, ha⟩ := rg_some e (by omega)
    have hr := (hrw a ha).2.2
    have hm := (w10 a).2.2
    refine g_aload eX12_unlearn_0 rfl ?_
    refine g_iload eX12_unlearn_1 rfl ?_
    refine g_callVp (r := (RX12, TX12, 32)) eX12_unlearn_2 kX12_149 e25 (by rfl) (c_isAccT e25 (by omega) e') (by rfl) (by rfl) (by exact Nat.le_of_ble_eq_true rfl) (by exact Nat.le_of_ble_eq_true rfl) (by exact Nat.le_of_ble_eq_true rfl) (Nat.le_refl _) (Nat.le_refl _) ?_
    refine g_if_neN eX12_unlearn_5 (by omega) (fun c5 => ?_) (fun c5 => absurd c5 (by decide))
    refine g_aload eX12_unlearn_11 rfl ?_
    refine g_get eX12_unlearn_12 fX12_25_X12 e25 (by rfl) ?_
    refine g_push eX12_unlearn_15 ?_
    refine g_iload eX12_unlearn_16 rfl ?_
    refine g_imulN eX12_unlearn_17 ?_
    refine g_push eX12_unlearn_18 ?_
    refine g_iaddN eX12_unlearn_19 ?_
    refine g_ialdN eX12_unlearn_20 e31 (by omega) (by omega) ?_
    rw [hr]
    refine g_callSp eX12_unlearn_21 kX12_137 (c_ones (m := (manO (crO t) a).2.2) (by omega)) (by rfl) (by rfl) (by exact Nat.le_of_ble_eq_true rfl) (by exact Nat.le_of_ble_eq_true rfl) (by exact Nat.le_of_ble_eq_true rfl) (Nat.le_refl _) (Nat.le_refl _) ?_
    refine g_istore eX12_unlearn_24 rfl ?_
    refine g_aload eX12_unlearn_25 rfl ?_
    refine g_get eX12_unlearn_26 fX12_25_X12 e25 (by rfl) ?_
    refine g_push eX12_unlearn_29 ?_
    refine g_iload eX12_unlearn_30 rfl ?_
    refine g_imulN eX12_unlearn_31 ?_
    refine g_push eX12_unlearn_32 ?_
    refine g_iaddN eX12_unlearn_33 ?_
    refine g_push eX12_unlearn_34 ?_
    refine g_iastN eX12_unlearn_35 e31 (by omega) (by omega) ?_
    refine g_aload eX12_unlearn_36 rfl ?_
    refine g_dup eX12_unlearn_37 rfl ?_
    refine g_get eX12_unlearn_38 fX12_94_X12 (at_ne (by decide) e25) (by rfl) ?_
    refine g_push eX12_unlearn_41 ?_
    refine g_iaddN eX12_unlearn_42 ?_
    refine g_putI eX12_unlearn_43 fX12_94_X12 pX12_9 (at_ne (by decide) e25) (by exact Nat.le_of_ble_eq_true rfl) ?_
    refine g_iload eX12_unlearn_46 rfl ?_
    exact g_ret (eX12_unlearn_47 _) (Nat.le_refl _) (Nat.le_refl _) (by
      exact ⟨rfl, ⟨_, _, _, _, _, _, _, _, _, _, _, _, _, _, _, _, _, _, _, _, _, _, _, _, (by show _ = some (mob _ _ _ _ _ _ _ _ (List.set (mnO (crO t)) a _).length _ _ _ _ _ _ _ _ _); rw [List.length_set]; exact (at_eq (at_ne (by decide) e25))), (at_ne (by decide) (at_ne (by decide) e26)), (at_ne (by decide) (at_ne (by decide) e27)), (at_ne (by decide) (at_ne (by decide) e28)), (at_ne (by decide) (at_ne (by decide) e29)), (at_ne (by decide) (at_ne (by decide) e30)), (at_ne (by decide) (at_eq e31)), (at_ne (by decide) (at_ne (by decide) e32)), (at_ne (by decide) (at_ne (by decide) e33)), (at_ne (by decide) (at_ne (by decide) e34)), (at_ne (by decide) (at_ne (by decide) e35)), (at_ne (by decide) (at_ne (by decide) e36)), (at_ne (by decide) (at_ne (by decide) e37)), (at_ne (by decide) (at_ne (by decide) e38)), (at_ne (by decide) (at_ne (by decide) e39)), lpg, lrn, lrs, lnr, lro, lhe, lth, ldr, lks, lkr, lkh, hpg, hnr, ⟨lsh, by rw [List.length_set]; exact lrw, lhs, hsh, rows_set ha lrw w9 hrw, hhs⟩, hk0, hk1⟩, ((EqO.rf.st (by decide)).st (by decide))⟩)
