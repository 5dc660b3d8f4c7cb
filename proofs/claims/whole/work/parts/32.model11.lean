/-! the reference: trials -/
theorem lcg_long {x : Nat} (hx : x < 2147483648) : (((1103515245 : Int64) * (nI x).toInt64 + 12345) &&& 2147483647).toInt32 = nI (lcg x) := by
  rw [nI_l (by omega)]
  apply Int32.toBitVec_inj.1
  apply BitVec.eq_of_toNat_eq
  show (BitVec.signExtend 32 ((1103515245#64 * BitVec.ofNat 64 x + 12345#64) &&& 2147483647#64)).toNat = (BitVec.ofNat 32 (lcg x)).toNat
  rw [BitVec.signExtend_eq_setWidth_of_le _ (by decide)]
  simp only [BitVec.toNat_setWidth, BitVec.toNat_and, BitVec.toNat_add, BitVec.toNat_mul, BitVec.toNat_ofNat]
  rw [show 1103515245 % 2 ^ 64 = 1103515245 by decide, Nat.mod_eq_of_lt (show x < 2 ^ 64 by omega), Nat.mod_eq_of_lt (show 1103515245 * x < 2 ^ 64 by omega), show 12345 % 2 ^ 64 = 12345 by decide, Nat.mod_eq_of_lt (show 1103515245 * x + 12345 < 2 ^ 64 by omega), show 2147483647 % 2 ^ 64 = 2 ^ 31 - 1 by decide, Nat.and_two_pow_sub_one_eq_mod]
  rfl
set_option maxRecDepth 20000 in
theorem c_draw {σ : aH} {x : Nat} {pn lm wd ch ct ac br hm : Nat} {x2 x3 x4 kc kl ka kg kd : Int32} {ha : Int64} (e25 : σ[25]? = some (mob pn x2 x3 x4 lm wd ch ct ac br hm (nI x) kc kl ka kg kd ha)) (hx : x < 2147483648) : MX12_draw 0 0 0 [.ref 25, .int (nI 8)] σ (aPu (some (.int (nI (lcg x / 65536 % 8)))) (σ.set 25 (mob pn x2 x3 x4 lm wd ch ct ac br hm (nI (lcg x)) kc kl ka kg kd ha))) := by
  refine sX12_draw (Nat.le_of_ble_eq_true rfl) ?_
  have hl : lcg x < 2147483648 := Nat.mod_lt _ (by decide)
  have hq : lcg x / 65536 < 2147483648 := by omega
  refine g_aload eX12_draw_0 rfl ?_
  refine g_ldc2 eX12_draw_1 lX12_177 ?_
  refine g_aload eX12_draw_4 rfl ?_
  refine g_get eX12_draw_5 fX12_179_X12 e25 (by rfl) ?_
  refine g_i2l eX12_draw_8 ?_
  refine g_lmul eX12_draw_9 ?_
  refine g_ldc2 eX12_draw_10 lX12_182 ?_
  refine g_ladd eX12_draw_13 ?_
  refine g_ldc2 eX12_draw_14 lX12_184 ?_
  refine g_land eX12_draw_17 ?_
  refine g_l2i eX12_draw_18 ?_
  rw [lcg_long hx]
  refine g_putI eX12_draw_19 fX12_179_X12 pX12_21 e25 (by exact Nat.le_of_ble_eq_true rfl) ?_
  refine g_aload eX12_draw_22 rfl ?_
  refine g_get eX12_draw_23 fX12_179_X12 (at_eq e25) (by rfl) ?_
  refine g_ldc (v := nI 65536) eX12_draw_26 lX12_186 ?_
  refine g_idivN eX12_draw_28 (by omega) (by omega) (by omega) ?_
  refine g_iload eX12_draw_29 rfl ?_
  refine g_iremN eX12_draw_30 (by omega) (by omega) (by omega) ?_
  exact g_ret (eX12_draw_31 _) (Nat.le_refl _) (Nat.le_refl _) ⟨rfl, rfl⟩
set_option maxRecDepth 20000 in
theorem m_trials {σ : aH} {t : St} (hI : IM t σ) (hwf : WF t) {x y z : Int32} : MX12_trials 3 0 0 [.ref 25, .int x, .int y, .int z] σ (fun v σ' => v = some (.int (oTrials t x y z)) ∧ IM t σ' ∧ FrM σ σ') := by
  refine sX12_trials (Nat.le_of_ble_eq_true rfl) ?_
  have hI' := hI
  have hwf' := hwf
  have hSs := hwf.hS
  obtain ⟨pg, rn, rs, nr, sh, rw, ro, he, hs, th, dr, ks, kr, kh, x2, x3, x4, sd, kc, kl, ka, kg, kd, ha, e25, e26, e27, e28, e29, e30, e31, e32, e33, e34, e35, e36, e37, e38, e39, lpg, lrn, lrs, lnr, lro, lhe, lth, ldr, lks, lkr, lkh, hpg, hnr, ⟨lsh, lrw, lhs, hsh, hrw, hhs⟩, hk0, hk1⟩ := hI
  obtain ⟨w1, w2, w3, w4, w5, ⟨w6, w7, w8, w9, w10, w11, w12⟩, w13, w14, w15, w16, w17⟩ := hwf
  unfold oTrials
  cases e : rg x 1 41 with
  | none =>
    dsimp only
    refine g_iload eX12_trials_0 rfl ?_
    refine g_i2l eX12_trials_1 ?_
    refine g_lconst eX12_trials_2 rfl ?_
    refine g_ldc2 eX12_trials_3 lX12_187 ?_
    refine g_callSp eX12_trials_6 kX12_58 (c_inN e rfl rfl) (by rfl) (by rfl) (by exact Nat.le_of_ble_eq_true rfl) (by exact Nat.le_of_ble_eq_true rfl) (by exact Nat.le_of_ble_eq_true rfl) (Nat.le_refl _) (Nat.le_refl _) ?_
    refine g_if_eqN eX12_trials_9 (by omega) (fun c9 => ?_) (fun c9 => absurd rfl c9)
    refine g_push eX12_trials_28 ?_
    exact g_ret (eX12_trials_30 _) (Nat.le_refl _) (Nat.le_refl _) ⟨rfl, hI', EqO.rf⟩
  | some m =>
    dsimp only
    have e' := e
    obtain ⟨rfl, hm1, hm2⟩ := rg_some e
    cases f : rg y 0 2147483648 with
    | none =>
      dsimp only
      have hr := rg_none f
      have hym := Int32.toInt_lt y
      refine g_iload eX12_trials_0 rfl ?_
      refine g_i2l eX12_trials_1 ?_
      refine g_lconst eX12_trials_2 rfl ?_
      refine g_ldc2 eX12_trials_3 lX12_187 ?_
      refine g_callSp eX12_trials_6 kX12_58 (c_inT e' rfl rfl) (by rfl) (by rfl) (by exact Nat.le_of_ble_eq_true rfl) (by exact Nat.le_of_ble_eq_true rfl) (by exact Nat.le_of_ble_eq_true rfl) (Nat.le_refl _) (Nat.le_refl _) ?_
      refine g_if_eqN eX12_trials_9 (by omega) (fun c9 => absurd c9 (by decide)) (fun c9 => ?_)
      refine g_iload eX12_trials_12 rfl ?_
      refine g_if_ltI eX12_trials_13 (fun c13 => ?_) (fun c13 => by exfalso; omega)
      refine g_push eX12_trials_28 ?_
      exact g_ret (eX12_trials_30 _) (Nat.le_refl _) (Nat.le_refl _) ⟨rfl, hI', EqO.rf⟩
    | some s0 =>
      dsimp only
      obtain ⟨rfl, -, hsd⟩ := rg_some f
      cases g : rg z 0 3 with
      | none =>
        dsimp only
        refine g_iload eX12_trials_0 rfl ?_
        refine g_i2l eX12_trials_1 ?_
        refine g_lconst eX12_trials_2 rfl ?_
        refine g_ldc2 eX12_trials_3 lX12_187 ?_
        refine g_callSp eX12_trials_6 kX12_58 (c_inT e' rfl rfl) (by rfl) (by rfl) (by exact Nat.le_of_ble_eq_true rfl) (by exact Nat.le_of_ble_eq_true rfl) (by exact Nat.le_of_ble_eq_true rfl) (Nat.le_refl _) (Nat.le_refl _) ?_
        refine g_if_eqN eX12_trials_9 (by omega) (fun c9 => absurd c9 (by decide)) (fun c9 => ?_)
        refine g_iload eX12_trials_12 rfl ?_
        refine g_if_ltN eX12_trials_13 (by omega) ?_
        refine g_iload eX12_trials_16 rfl ?_
        refine g_i2l eX12_trials_17 ?_
        refine g_lconst eX12_trials_18 rfl ?_
        refine g_ldc2 eX12_trials_19 lX12_189 ?_
        refine g_callSp eX12_trials_22 kX12_58 (c_inN g rfl rfl) (by rfl) (by rfl) (by exact Nat.le_of_ble_eq_true rfl) (by exact Nat.le_of_ble_eq_true rfl) (by exact Nat.le_of_ble_eq_true rfl) (Nat.le_refl _) (Nat.le_refl _) ?_
        refine g_if_neN eX12_trials_25 (by omega) (fun c25 => absurd rfl c25) (fun c25 => ?_)
        refine g_push eX12_trials_28 ?_
        exact g_ret (eX12_trials_30 _) (Nat.le_refl _) (Nat.le_refl _) ⟨rfl, hI', EqO.rf⟩
      | some w =>
        dsimp only
        have g' := g
        obtain ⟨rfl, -, hw3⟩ := rg_some g
        have outer : ∀ n j τ dr o7 o8, j + n = m → EqO [25, 36] σ τ → τ[25]? = some (mob (pgO t).length x2 x3 x4 (lmO (crO t)) (shO (crO t)).length (chO (crO t)) (ctO t) (mnO (crO t)).length (brO t) (hdO (crO t)).length (nI (trl t s0 j).2.2) kc kl ka kg kd ha) → τ[36]? = some (aA dr) → dr.length = 10 → hasC t → GX12_trials 3 0 0 (fun v σ' => v = some (.int (trW w (trl t s0 m))) ∧ IM t σ' ∧ FrM σ σ') 0 0 55 [some (.ref 25), some (.int (nI m)), some (.int (nI s0)), some (.int (nI w)), some (.int (nI ((trl t s0 j).1))), some (.int (nI ((trl t s0 j).2.1))), some (.int (nI j)), o7, o8] [] τ := by
          intro n
          induction n with
          | zero =>
            intro j τ dr o7 o8 hj hE q25 q36 ldr hyes
            obtain rfl : j = m := by omega
            rcases (show w = 0 ∨ w = 1 ∨ w = 2 by omega) with rfl | rfl | rfl
            · refine g_iload eX12_trials_55 rfl ?_
              refine g_iload eX12_trials_57 rfl ?_
              refine g_icmp_geN eX12_trials_58 (by omega) (by omega) (fun c58 => ?_) (fun c58 => by exfalso; omega)
              refine g_iload eX12_trials_190 rfl ?_
              refine g_if_neN eX12_trials_191 (by omega) (fun c191 => absurd rfl c191) (fun c191 => ?_)
              refine g_iload eX12_trials_194 rfl ?_
              refine g_goto eX12_trials_196 ?_
              exact g_ret (eX12_trials_213 _) (Nat.le_refl _) (Nat.le_refl _) ⟨rfl, ⟨_, _, _, _, _, _, _, _, _, _, _, _, _, _, _, _, _, _, _, _, _, _, _, _, q25, hE.at (by decide) e26, hE.at (by decide) e27, hE.at (by decide) e28, hE.at (by decide) e29, hE.at (by decide) e30, hE.at (by decide) e31, hE.at (by decide) e32, hE.at (by decide) e33, hE.at (by decide) e34, hE.at (by decide) e35, q36, hE.at (by decide) e37, hE.at (by decide) e38, hE.at (by decide) e39, lpg, lrn, lrs, lnr, lro, lhe, lth, ldr, lks, lkr, lkh, hpg, hnr, ⟨lsh, lrw, lhs, hsh, hrw, hhs⟩, hk0, hk1⟩, hE.mono (by decide)⟩
            · refine g_iload eX12_trials_55 rfl ?_
              refine g_iload eX12_trials_57 rfl ?_
              refine g_icmp_geN eX12_trials_58 (by omega) (by omega) (fun c58 => ?_) (fun c58 => by exfalso; omega)
              refine g_iload eX12_trials_190 rfl ?_
              refine g_if_neN eX12_trials_191 (by omega) (fun c191 => ?_) (fun c191 => absurd c191 (by decide))
              refine g_iload eX12_trials_199 rfl ?_
              refine g_push eX12_trials_200 ?_
              refine g_icmp_neN eX12_trials_201 (by omega) (by omega) (fun c201 => by exfalso; omega) (fun c201 => ?_)
              refine g_iload eX12_trials_204 rfl ?_
              refine g_goto eX12_trials_206 ?_
              exact g_ret (eX12_trials_213 _) (Nat.le_refl _) (Nat.le_refl _) ⟨rfl, ⟨_, _, _, _, _, _, _, _, _, _, _, _, _, _, _, _, _, _, _, _, _, _, _, _, q25, hE.at (by decide) e26, hE.at (by decide) e27, hE.at (by decide) e28, hE.at (by decide) e29, hE.at (by decide) e30, hE.at (by decide) e31, hE.at (by decide) e32, hE.at (by decide) e33, hE.at (by decide) e34, hE.at (by decide) e35, q36, hE.at (by decide) e37, hE.at (by decide) e38, hE.at (by decide) e39, lpg, lrn, lrs, lnr, lro, lhe, lth, ldr, lks, lkr, lkh, hpg, hnr, ⟨lsh, lrw, lhs, hsh, hrw, hhs⟩, hk0, hk1⟩, hE.mono (by decide)⟩
            · refine g_iload eX12_trials_55 rfl ?_
              refine g_iload eX12_trials_57 rfl ?_
              refine g_icmp_geN eX12_trials_58 (by omega) (by omega) (fun c58 => ?_) (fun c58 => by exfalso; omega)
              refine g_iload eX12_trials_190 rfl ?_
              refine g_if_neN eX12_trials_191 (by omega) (fun c191 => ?_) (fun c191 => absurd c191 (by decide))
              refine g_iload eX12_trials_199 rfl ?_
              refine g_push eX12_trials_200 ?_
              refine g_icmp_neN eX12_trials_201 (by omega) (by omega) (fun c201 => ?_) (fun c201 => by exfalso; omega)
              refine g_aload eX12_trials_209 rfl ?_
              refine g_get eX12_trials_210 fX12_179_X12 q25 (by rfl) ?_
              exact g_ret (eX12_trials_213 _) (Nat.le_refl _) (Nat.le_refl _) ⟨rfl, ⟨_, _, _, _, _, _, _, _, _, _, _, _, _, _, _, _, _, _, _, _, _, _, _, _, q25, hE.at (by decide) e26, hE.at (by decide) e27, hE.at (by decide) e28, hE.at (by decide) e29, hE.at (by decide) e30, hE.at (by decide) e31, hE.at (by decide) e32, hE.at (by decide) e33, hE.at (by decide) e34, hE.at (by decide) e35, q36, hE.at (by decide) e37, hE.at (by decide) e38, hE.at (by decide) e39, lpg, lrn, lrs, lnr, lro, lhe, lth, ldr, lks, lkr, lkh, hpg, hnr, ⟨lsh, lrw, lhs, hsh, hrw, hhs⟩, hk0, hk1⟩, hE.mono (by decide)⟩
          | succ n ih =>
            intro j τ dr o7 o8 hj hE q25 q36 ldr hyes
            have hsj := trl_sd t s0 hsd j
            have inner : ∀ n2 a τ dr o8, a + n2 = (mnO (crO t)).length → EqO [25, 36] σ τ → τ[25]? = some (mob (pgO t).length x2 x3 x4 (lmO (crO t)) (shO (crO t)).length (chO (crO t)) (ctO t) (mnO (crO t)).length (brO t) (hdO (crO t)).length (nI (sdN (trl t s0 j).2.2 (shO (crO t)).length)) kc kl ka kg kd ha) → τ[36]? = some (aA dr) → dr.length = 10 → (∀ i, i < (shO (crO t)).length → dr.getD i 0 = (drw (trl t s0 j).2.2) i) → GX12_trials 3 0 0 (fun v σ' => v = some (.int (trW w (trl t s0 m))) ∧ IM t σ' ∧ FrM σ σ') 0 0 95 [some (.ref 25), some (.int (nI m)), some (.int (nI s0)), some (.int (nI w)), some (.int (nI ((trl t s0 j).1 + cnt (hangB t (drw (trl t s0 j).2.2) (shO (crO t)).length) a))), some (.int (nI ((trl t s0 j).2.1 + sumN (fun i => popc (manM t i (drw (trl t s0 j).2.2) (shO (crO t)).length)) a))), some (.int (nI j)), some (.int (nI a)), o8] [] τ := by
              intro n2
              induction n2 with
              | zero =>
                intro a τ dr o8 ha hE q25 q36 ldr hdr
                obtain rfl : a = (mnO (crO t)).length := by omega
                refine g_iload eX12_trials_95 rfl ?_
                refine g_aload eX12_trials_97 rfl ?_
                refine g_get eX12_trials_98 fX12_97_X12 (by assumption) (by rfl) ?_
                refine g_icmp_geN eX12_trials_101 (by omega) (by omega) (fun c101 => ?_) (fun c101 => by exfalso; omega)
                refine g_iincN eX12_trials_184 rfl rfl ?_
                refine g_goto eX12_trials_187 ?_
                exact ih (j + 1) τ dr _ _ (by omega) hE q25 q36 ldr hyes
              | succ n2 ih2 =>
                intro a τ dr o8 ha hE q25 q36 ldr hdr
                have q29 := hE.at (by decide) e29
                have q31 := hE.at (by decide) e31
                have hr := hrw a (by omega)
                have hm := w10 a
                have hb : nr.getD (manO (crO t) a).2.1 0 < 256 := by rw [hnr _ (by omega)]; exact w4 _
                have hlt := manM_lt t a (drw (trl t s0 j).2.2) w6
                have hpc := popc_le (manM t a (drw (trl t s0 j).2.2) (shO (crO t)).length)
                have hal : msk (altA (manO (crO t) a).1 (nr.getD (manO (crO t) a).2.1 0) (manO (crO t) a).2.2 (shW dr)) (shO (crO t)).length = manM t a (drw (trl t s0 j).2.2) (shO (crO t)).length := by
                  rw [hnr _ (by omega)]
                  exact mskA_congr hdr
                have hq : hangB t (drw (trl t s0 j).2.2) (shO (crO t)).length a = decide (lmO (crO t) ≤ popc (manM t a (drw (trl t s0 j).2.2) (shO (crO t)).length)) := rfl
                refine g_iload eX12_trials_95 rfl ?_
                refine g_aload eX12_trials_97 rfl ?_
                refine g_get eX12_trials_98 fX12_97_X12 (by assumption) (by rfl) ?_
                refine g_icmp_geN eX12_trials_101 (by omega) (by omega) (fun c101 => by exfalso; omega) (fun c101 => ?_)
                refine g_aload eX12_trials_104 rfl ?_
                refine g_aload eX12_trials_105 rfl ?_
                refine g_get eX12_trials_106 fX12_25_X12 q25 (by rfl) ?_
                refine g_push eX12_trials_109 ?_
                refine g_iload eX12_trials_110 rfl ?_
                refine g_imulN eX12_trials_112 ?_
                refine g_ialdN eX12_trials_113 q31 (by omega) (by omega) ?_
                rw [hr.1]
                refine g_aload eX12_trials_114 rfl ?_
                refine g_get eX12_trials_115 fX12_25_X12 q25 (by rfl) ?_
                refine g_push eX12_trials_118 ?_
                refine g_iload eX12_trials_119 rfl ?_
                refine g_imulN eX12_trials_121 ?_
                refine g_push eX12_trials_122 ?_
                refine g_iaddN eX12_trials_123 ?_
                refine g_ialdN eX12_trials_124 q31 (by omega) (by omega) ?_
                rw [hr.2.1]
                refine g_aload eX12_trials_125 rfl ?_
                refine g_get eX12_trials_126 fX12_25_X12 q25 (by rfl) ?_
                refine g_push eX12_trials_129 ?_
                refine g_iload eX12_trials_130 rfl ?_
                refine g_imulN eX12_trials_132 ?_
                refine g_push eX12_trials_133 ?_
                refine g_iaddN eX12_trials_134 ?_
                refine g_ialdN eX12_trials_135 q31 (by omega) (by omega) ?_
                rw [hr.2.2]
                refine g_aload eX12_trials_136 rfl ?_
                refine g_get eX12_trials_137 fX12_40_X12 q25 (by rfl) ?_
                refine g_aload eX12_trials_140 rfl ?_
                refine g_get eX12_trials_141 fX12_84_X12 q25 (by rfl) ?_
                refine g_callVp (r := (RX12, TX12, 32)) eX12_trials_144 kX12_129 q25 (by rfl) (c_altersOn (kind := (manO (crO t) a).1) (d := (manO (crO t) a).2.1) (hides := (manO (crO t) a).2.2) (many := (shO (crO t)).length) q25 q29 lnr q36 (by omega) hm.1 (by omega) hb (by omega) (by omega) (fun i hi => by rw [hdr i hi]; exact drw_lt _ _)) (by rfl) (by rfl) (by exact Nat.le_of_ble_eq_true rfl) (by exact Nat.le_of_ble_eq_true rfl) (by exact Nat.le_of_ble_eq_true rfl) (Nat.le_refl _) (Nat.le_refl _) ?_
                rw [hal]
                refine g_callSp eX12_trials_147 kX12_137 (c_ones (Nat.lt_trans hlt (by decide))) (by rfl) (by rfl) (by exact Nat.le_of_ble_eq_true rfl) (by exact Nat.le_of_ble_eq_true rfl) (by exact Nat.le_of_ble_eq_true rfl) (Nat.le_refl _) (Nat.le_refl _) ?_
                refine g_istore eX12_trials_150 rfl ?_
                refine g_iload eX12_trials_152 rfl ?_
                refine g_iload eX12_trials_154 rfl ?_
                refine g_iaddN eX12_trials_156 ?_
                refine g_istore eX12_trials_157 rfl ?_
                refine g_iload eX12_trials_159 rfl ?_
                refine g_iload eX12_trials_161 rfl ?_
                refine g_aload eX12_trials_163 rfl ?_
                refine g_get eX12_trials_164 fX12_91_X12 q25 (by rfl) ?_
                refine g_icmp_ltN eX12_trials_167 (by omega) (by omega) (fun c167 => ?_) (fun c167 => ?_)
                · refine g_push eX12_trials_174 ?_
                  refine g_iaddN eX12_trials_175 ?_
                  refine g_istore eX12_trials_176 rfl ?_
                  refine g_iincN eX12_trials_178 rfl rfl ?_
                  refine g_goto eX12_trials_181 ?_
                  have := ih2 (a + 1) τ dr (some (.int (nI (popc (manM t a (drw (trl t s0 j).2.2) (shO (crO t)).length))))) (by omega) hE q25 q36 ldr hdr
                  rw [show (trl t s0 j).1 + cnt (hangB t (drw (trl t s0 j).2.2) (shO (crO t)).length) (a + 1) = (trl t s0 j).1 + cnt (hangB t (drw (trl t s0 j).2.2) (shO (crO t)).length) a + (hangB t (drw (trl t s0 j).2.2) (shO (crO t)).length a).toNat from (Nat.add_assoc _ _ _).symm, hq, show (trl t s0 j).2.1 + sumN (fun i => popc (manM t i (drw (trl t s0 j).2.2) (shO (crO t)).length)) (a + 1) = (trl t s0 j).2.1 + sumN (fun i => popc (manM t i (drw (trl t s0 j).2.2) (shO (crO t)).length)) a + popc (manM t a (drw (trl t s0 j).2.2) (shO (crO t)).length) from (Nat.add_assoc _ _ _).symm] at this
                  first
                    | (rw [decide_eq_false (show ¬ lmO (crO t) ≤ popc (manM t a (drw (trl t s0 j).2.2) (shO (crO t)).length) by omega)] at this; exact this)
                    | (rw [decide_eq_true (show lmO (crO t) ≤ popc (manM t a (drw (trl t s0 j).2.2) (shO (crO t)).length) by omega)] at this; exact this)
                · refine g_push eX12_trials_170 ?_
                  refine g_goto eX12_trials_171 ?_
                  refine g_iaddN eX12_trials_175 ?_
                  refine g_istore eX12_trials_176 rfl ?_
                  refine g_iincN eX12_trials_178 rfl rfl ?_
                  refine g_goto eX12_trials_181 ?_
                  have := ih2 (a + 1) τ dr (some (.int (nI (popc (manM t a (drw (trl t s0 j).2.2) (shO (crO t)).length))))) (by omega) hE q25 q36 ldr hdr
                  rw [show (trl t s0 j).1 + cnt (hangB t (drw (trl t s0 j).2.2) (shO (crO t)).length) (a + 1) = (trl t s0 j).1 + cnt (hangB t (drw (trl t s0 j).2.2) (shO (crO t)).length) a + (hangB t (drw (trl t s0 j).2.2) (shO (crO t)).length a).toNat from (Nat.add_assoc _ _ _).symm, hq, show (trl t s0 j).2.1 + sumN (fun i => popc (manM t i (drw (trl t s0 j).2.2) (shO (crO t)).length)) (a + 1) = (trl t s0 j).2.1 + sumN (fun i => popc (manM t i (drw (trl t s0 j).2.2) (shO (crO t)).length)) a + popc (manM t a (drw (trl t s0 j).2.2) (shO (crO t)).length) from (Nat.add_assoc _ _ _).symm] at this
                  first
                    | (rw [decide_eq_false (show ¬ lmO (crO t) ≤ popc (manM t a (drw (trl t s0 j).2.2) (shO (crO t)).length) by omega)] at this; exact this)
                    | (rw [decide_eq_true (show lmO (crO t) ≤ popc (manM t a (drw (trl t s0 j).2.2) (shO (crO t)).length) by omega)] at this; exact this)
            have draws : ∀ n2 k τ dr, k + n2 = (shO (crO t)).length → EqO [25, 36] σ τ → τ[25]? = some (mob (pgO t).length x2 x3 x4 (lmO (crO t)) (shO (crO t)).length (chO (crO t)) (ctO t) (mnO (crO t)).length (brO t) (hdO (crO t)).length (nI (sdN (trl t s0 j).2.2 k)) kc kl ka kg kd ha) → τ[36]? = some (aA dr) → dr.length = 10 → (∀ i, i < k → dr.getD i 0 = (drw (trl t s0 j).2.2) i) → GX12_trials 3 0 0 (fun v σ' => v = some (.int (trW w (trl t s0 m))) ∧ IM t σ' ∧ FrM σ σ') 0 0 64 [some (.ref 25), some (.int (nI m)), some (.int (nI s0)), some (.int (nI w)), some (.int (nI ((trl t s0 j).1))), some (.int (nI ((trl t s0 j).2.1))), some (.int (nI j)), some (.int (nI k)), o8] [] τ := by
              intro n2
              induction n2 with
              | zero =>
                intro k τ dr hk hE q25 q36 ldr hdr
                obtain rfl : k = (shO (crO t)).length := by omega
                refine g_iload eX12_trials_64 rfl ?_
                refine g_aload eX12_trials_66 rfl ?_
                refine g_get eX12_trials_67 fX12_84_X12 q25 (by rfl) ?_
                refine g_icmp_geN eX12_trials_70 (by omega) (by omega) (fun c70 => ?_) (fun c70 => by exfalso; omega)
                refine g_push eX12_trials_92 ?_
                refine g_istore eX12_trials_93 rfl ?_
                exact inner (mnO (crO t)).length 0 τ dr _ (by omega) hE q25 q36 ldr hdr
              | succ n2 ih2 =>
                intro k τ dr hk hE q25 q36 ldr hdr
                have hsk := sdN_lt hsj k
                refine g_iload eX12_trials_64 rfl ?_
                refine g_aload eX12_trials_66 rfl ?_
                refine g_get eX12_trials_67 fX12_84_X12 q25 (by rfl) ?_
                refine g_icmp_geN eX12_trials_70 (by omega) (by omega) (fun c70 => by exfalso; omega) (fun c70 => ?_)
                refine g_aload eX12_trials_73 rfl ?_
                refine g_get eX12_trials_74 fX12_40_X12 q25 (by rfl) ?_
                refine g_iload eX12_trials_77 rfl ?_
                refine g_aload eX12_trials_79 rfl ?_
                refine g_push eX12_trials_80 ?_
                refine g_callVp (r := (RX12, TX12, 32)) eX12_trials_82 kX12_191 q25 (by rfl) (c_draw q25 hsk) (by rfl) (by rfl) (by exact Nat.le_of_ble_eq_true rfl) (by exact Nat.le_of_ble_eq_true rfl) (by exact Nat.le_of_ble_eq_true rfl) (Nat.le_refl _) (Nat.le_refl _) ?_
                refine g_iastN eX12_trials_85 (at_ne (by decide) q36) (by omega) (by omega) ?_
                refine g_iincN eX12_trials_86 rfl rfl ?_
                refine g_goto eX12_trials_89 ?_
                refine ih2 (k + 1) _ _ (by omega) ((hE.st (by decide)).st (by decide)) (at_ne (by decide) (at_eq q25)) (at_eq (at_ne (by decide) q36)) (by rw [List.length_set]; exact ldr) (fun i hi => ?_)
                rw [getD_set]
                by_cases hki : k = i
                · rw [if_pos ⟨hki, by omega⟩, ← hki]
                  rfl
                · rw [if_neg (fun z => hki z.1)]
                  exact hdr i (by omega)
            refine g_iload eX12_trials_55 rfl ?_
            refine g_iload eX12_trials_57 rfl ?_
            refine g_icmp_geN eX12_trials_58 (by omega) (by omega) (fun c58 => by exfalso; omega) (fun c58 => ?_)
            refine g_push eX12_trials_61 ?_
            refine g_istore eX12_trials_62 rfl ?_
            exact draws (shO (crO t)).length 0 τ dr (by omega) hE q25 q36 ldr (fun i hi => absurd hi (Nat.not_lt_zero i))
        refine g_iload eX12_trials_0 rfl ?_
        refine g_i2l eX12_trials_1 ?_
        refine g_lconst eX12_trials_2 rfl ?_
        refine g_ldc2 eX12_trials_3 lX12_187 ?_
        refine g_callSp eX12_trials_6 kX12_58 (c_inT e' rfl rfl) (by rfl) (by rfl) (by exact Nat.le_of_ble_eq_true rfl) (by exact Nat.le_of_ble_eq_true rfl) (by exact Nat.le_of_ble_eq_true rfl) (Nat.le_refl _) (Nat.le_refl _) ?_
        refine g_if_eqN eX12_trials_9 (by omega) (fun c9 => absurd c9 (by decide)) (fun c9 => ?_)
        refine g_iload eX12_trials_12 rfl ?_
        refine g_if_ltN eX12_trials_13 (by omega) ?_
        refine g_iload eX12_trials_16 rfl ?_
        refine g_i2l eX12_trials_17 ?_
        refine g_lconst eX12_trials_18 rfl ?_
        refine g_ldc2 eX12_trials_19 lX12_189 ?_
        refine g_callSp eX12_trials_22 kX12_58 (c_inT g' rfl rfl) (by rfl) (by rfl) (by exact Nat.le_of_ble_eq_true rfl) (by exact Nat.le_of_ble_eq_true rfl) (by exact Nat.le_of_ble_eq_true rfl) (Nat.le_refl _) (Nat.le_refl _) ?_
        refine g_if_neN eX12_trials_25 (by omega) (fun c25 => ?_) (fun c25 => absurd c25 (by decide))
        refine g_aload eX12_trials_31 rfl ?_
        refine g_callVp (r := (RX12, TX12, 32)) eX12_trials_32 kX12_106 e25 (by rfl) (c_mlacks e25 w6) (by rfl) (by rfl) (by exact Nat.le_of_ble_eq_true rfl) (by exact Nat.le_of_ble_eq_true rfl) (by exact Nat.le_of_ble_eq_true rfl) (Nat.le_refl _) (Nat.le_refl _) ?_
        refine g_if_eqN eX12_trials_35 (bt_lt _) (fun c35 => ?_) (fun c35 => ?_)
        · have hyes := bt_0 c35
          refine g_aload eX12_trials_41 rfl ?_
          refine g_iload eX12_trials_42 rfl ?_
          refine g_putI eX12_trials_43 fX12_179_X12 pX12_21 e25 (by exact Nat.le_of_ble_eq_true rfl) ?_
          refine g_push eX12_trials_46 ?_
          refine g_istore eX12_trials_47 rfl ?_
          refine g_push eX12_trials_49 ?_
          refine g_istore eX12_trials_50 rfl ?_
          refine g_push eX12_trials_52 ?_
          refine g_istore eX12_trials_53 rfl ?_
          rw [if_pos (show hasC t from hSs.mpr (by omega))]
          exact outer m 0 _ dr _ _ (by omega) (EqO.rf.st (by decide)) (at_eq e25) (at_ne (by decide) e36) ldr (show hasC t from hSs.mpr (by omega))
        · have hno := bt_1 c35
          refine g_push eX12_trials_38 ?_
          exact g_ret (eX12_trials_40 _) (Nat.le_refl _) (Nat.le_refl _) (by rw [if_neg (show ¬ hasC t from fun h => by have := hSs.mp h; omega)]; exact ⟨rfl, hI', EqO.rf⟩)
