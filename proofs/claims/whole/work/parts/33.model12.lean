/-! the reference: digest -/
set_option maxRecDepth 20000 in
theorem c_say {σ : aH} {pn lm wd ch ct ac br hm : Nat} {x2 x3 x4 sd kc kl ka kg kd : Int32} {ha : Int64} (e25 : σ[25]? = some (mob pn x2 x3 x4 lm wd ch ct ac br hm sd kc kl ka kg kd ha)) {v : Int64} : MX12_say 0 0 0 [.ref 25, .long v] σ (aPu none (σ.set 25 (mob pn x2 x3 x4 lm wd ch ct ac br hm sd kc kl ka kg kd (31 * ha + v)))) := by
  refine sX12_say (Nat.le_of_ble_eq_true rfl) ?_
  refine g_aload eX12_say_0 rfl ?_
  refine g_ldc2 eX12_say_1 lX12_215 ?_
  refine g_aload eX12_say_4 rfl ?_
  refine g_get eX12_say_5 fX12_217_X12 e25 (by rfl) ?_
  refine g_lmul eX12_say_8 ?_
  refine g_lload eX12_say_9 rfl ?_
  refine g_ladd eX12_say_10 ?_
  refine g_putJ eX12_say_11 fX12_217_X12 pX12_31 e25 (by exact Nat.le_of_ble_eq_true rfl) ?_
  exact g_ret eX12_say_14 (Nat.le_refl _) (Nat.le_refl _) ⟨rfl, rfl⟩
set_option maxRecDepth 20000 in
theorem c_tellE {σ : aH} {t : St} (hI : IM t σ) (hwf : WF t) {a : Nat} (hia : a < (mnO (crO t)).length) {w : Nat} (hw : w < 8) : MX12_tell 5 0 0 [.ref 25, .int (nI a), .int (nI w)] σ (fun v σ' => v = some (.int (oTell t a w)) ∧ EqO [35] σ σ' ∧ ∃ th', th'.length = 10 ∧ σ'[35]? = some (aA th')) := by
  refine sX12_tell (Nat.le_of_ble_eq_true rfl) ?_
  have hI' := hI
  have hwf' := hwf
  have hSs := hwf.hS
  obtain ⟨pg, rn, rs, nr, sh, rw, ro, he, hs, th, dr, ks, kr, kh, x2, x3, x4, sd, kc, kl, ka, kg, kd, ha, e25, e26, e27, e28, e29, e30, e31, e32, e33, e34, e35, e36, e37, e38, e39, lpg, lrn, lrs, lnr, lro, lhe, lth, ldr, lks, lkr, lkh, hpg, hnr, ⟨lsh, lrw, lhs, hsh, hrw, hhs⟩, hk0, hk1⟩ := hI
  obtain ⟨w1, w2, w3, w4, w5, ⟨w6, w7, w8, w9, w10, w11, w12⟩, w13, w14, w15, w16, w17⟩ := hwf
  have hr := hrw a hia
  have hm := w10 a
  have hlt := manM_lt t a (shW (shO (crO t))) w6
  rcases (show w = 0 ∨ w = 1 ∨ w = 2 ∨ w = 3 ∨ w = 4 ∨ w = 5 ∨ w = 6 ∨ w = 7 by omega) with rfl | rfl | rfl | rfl | rfl | rfl | rfl | rfl
  · refine g_iload eX12_tell_0 rfl ?_
    refine g_tswIn (off := 47) (tgt := 48) eX12_tell_1 (by decide +kernel) (by decide +kernel) (by decide +kernel) (by decide) ?_
    refine g_aload eX12_tell_48 rfl ?_
    refine g_get eX12_tell_49 fX12_25_X12 e25 (by rfl) ?_
    refine g_push eX12_tell_52 ?_
    refine g_iload eX12_tell_53 rfl ?_
    refine g_imulN eX12_tell_54 ?_
    refine g_iload eX12_tell_55 rfl ?_
    refine g_iaddN eX12_tell_56 ?_
    refine g_ialdN eX12_tell_57 e31 (by omega) (by omega) ?_
    rw [Nat.add_zero, hr.1]
    exact g_ret (eX12_tell_58 _) (Nat.le_refl _) (Nat.le_refl _) ⟨rfl, EqO.rf, th, lth, e35⟩
  · refine g_iload eX12_tell_0 rfl ?_
    refine g_tswIn (off := 47) (tgt := 48) eX12_tell_1 (by decide +kernel) (by decide +kernel) (by decide +kernel) (by decide) ?_
    refine g_aload eX12_tell_48 rfl ?_
    refine g_get eX12_tell_49 fX12_25_X12 e25 (by rfl) ?_
    refine g_push eX12_tell_52 ?_
    refine g_iload eX12_tell_53 rfl ?_
    refine g_imulN eX12_tell_54 ?_
    refine g_iload eX12_tell_55 rfl ?_
    refine g_iaddN eX12_tell_56 ?_
    refine g_ialdN eX12_tell_57 e31 (by omega) (by omega) ?_
    rw [hr.2.1]
    exact g_ret (eX12_tell_58 _) (Nat.le_refl _) (Nat.le_refl _) ⟨rfl, EqO.rf, th, lth, e35⟩
  · refine g_iload eX12_tell_0 rfl ?_
    refine g_tswIn (off := 58) (tgt := 59) eX12_tell_1 (by decide +kernel) (by decide +kernel) (by decide +kernel) (by decide) ?_
    refine g_aload eX12_tell_59 rfl ?_
    refine g_iload eX12_tell_60 rfl ?_
    refine g_callVp (r := (RX12, TX12, 32)) eX12_tell_61 kX12_133 e25 (by rfl) (c_altersOf hI' hwf' hia) (by rfl) (by rfl) (by exact Nat.le_of_ble_eq_true rfl) (by exact Nat.le_of_ble_eq_true rfl) (by exact Nat.le_of_ble_eq_true rfl) (Nat.le_refl _) (Nat.le_refl _) ?_
    exact g_ret (eX12_tell_64 _) (Nat.le_refl _) (Nat.le_refl _) ⟨rfl, EqO.rf, th, lth, e35⟩
  · refine g_iload eX12_tell_0 rfl ?_
    refine g_tswIn (off := 64) (tgt := 65) eX12_tell_1 (by decide +kernel) (by decide +kernel) (by decide +kernel) (by decide) ?_
    refine g_aload eX12_tell_65 rfl ?_
    refine g_iload eX12_tell_66 rfl ?_
    refine g_callVp (r := (RX12, TX12, 32)) eX12_tell_67 kX12_133 e25 (by rfl) (c_altersOf hI' hwf' hia) (by rfl) (by rfl) (by exact Nat.le_of_ble_eq_true rfl) (by exact Nat.le_of_ble_eq_true rfl) (by exact Nat.le_of_ble_eq_true rfl) (Nat.le_refl _) (Nat.le_refl _) ?_
    refine g_callSp eX12_tell_70 kX12_137 (c_ones (Nat.lt_trans hlt (by decide))) (by rfl) (by rfl) (by exact Nat.le_of_ble_eq_true rfl) (by exact Nat.le_of_ble_eq_true rfl) (by exact Nat.le_of_ble_eq_true rfl) (Nat.le_refl _) (Nat.le_refl _) ?_
    exact g_ret (eX12_tell_73 _) (Nat.le_refl _) (Nat.le_refl _) ⟨rfl, EqO.rf, th, lth, e35⟩
  · refine g_iload eX12_tell_0 rfl ?_
    refine g_tswIn (off := 73) (tgt := 74) eX12_tell_1 (by decide +kernel) (by decide +kernel) (by decide +kernel) (by decide) ?_
    refine g_aload eX12_tell_74 rfl ?_
    refine g_iload eX12_tell_75 rfl ?_
    refine g_callVp (r := (RX12, TX12, 32)) eX12_tell_76 kX12_140 e25 (by rfl) (c_hangs hI' hwf' hia) (by rfl) (by rfl) (by exact Nat.le_of_ble_eq_true rfl) (by exact Nat.le_of_ble_eq_true rfl) (by exact Nat.le_of_ble_eq_true rfl) (Nat.le_refl _) (Nat.le_refl _) ?_
    refine g_if_eqN eX12_tell_79 (bt_lt _) (fun c79 => ?_) (fun c79 => ?_)
    · refine g_push eX12_tell_86 ?_
      exact g_ret (eX12_tell_87 _) (Nat.le_refl _) (Nat.le_refl _) (by first | (refine ⟨?_, EqO.rf, th, lth, e35⟩; show _ = some (Value.int (nI (decide (lmO (crO t) ≤ popc (altM t a))).toNat)); rw [b_n0 c79]; rfl) | (refine ⟨?_, EqO.rf, th, lth, e35⟩; show _ = some (Value.int (nI (decide (lmO (crO t) ≤ popc (altM t a))).toNat)); rw [b_0 c79]; rfl))
    · refine g_push eX12_tell_82 ?_
      refine g_goto eX12_tell_83 ?_
      exact g_ret (eX12_tell_87 _) (Nat.le_refl _) (Nat.le_refl _) (by first | (refine ⟨?_, EqO.rf, th, lth, e35⟩; show _ = some (Value.int (nI (decide (lmO (crO t) ≤ popc (altM t a))).toNat)); rw [b_n0 c79]; rfl) | (refine ⟨?_, EqO.rf, th, lth, e35⟩; show _ = some (Value.int (nI (decide (lmO (crO t) ≤ popc (altM t a))).toNat)); rw [b_0 c79]; rfl))
  · refine g_iload eX12_tell_0 rfl ?_
    refine g_tswIn (off := 87) (tgt := 88) eX12_tell_1 (by decide +kernel) (by decide +kernel) (by decide +kernel) (by decide) ?_
    refine g_aload eX12_tell_88 rfl ?_
    refine g_get eX12_tell_89 fX12_25_X12 e25 (by rfl) ?_
    refine g_push eX12_tell_92 ?_
    refine g_iload eX12_tell_93 rfl ?_
    refine g_imulN eX12_tell_94 ?_
    refine g_push eX12_tell_95 ?_
    refine g_iaddN eX12_tell_96 ?_
    refine g_ialdN eX12_tell_97 e31 (by omega) (by omega) ?_
    rw [hr.2.2]
    exact g_ret (eX12_tell_98 _) (Nat.le_refl _) (Nat.le_refl _) ⟨rfl, EqO.rf, th, lth, e35⟩
  · refine g_iload eX12_tell_0 rfl ?_
    refine g_tswIn (off := 98) (tgt := 99) eX12_tell_1 (by decide +kernel) (by decide +kernel) (by decide +kernel) (by decide) ?_
    refine g_aload eX12_tell_99 rfl ?_
    refine g_iload eX12_tell_100 rfl ?_
    refine g_callV0 (r := (RX12, TX12, 32)) eX12_tell_101 kX12_143 e25 (by rfl) (c_whichOf hI' hwf' hia) (by rfl) (by rfl) (by exact Nat.le_of_ble_eq_true rfl) (by exact Nat.le_of_ble_eq_true rfl) (by exact Nat.le_of_ble_eq_true rfl) (Nat.le_refl _) (Nat.le_refl _) (fun v101 σ101 hp101 hn101 => ?_)
    obtain ⟨rfl, hE, th2, hl2, q35⟩ := hp101
    exact g_ret (eX12_tell_104 _) (Nat.le_refl _) (Nat.le_refl _) ⟨rfl, hE, th2, hl2, q35⟩
  · refine g_iload eX12_tell_0 rfl ?_
    refine g_tswIn (off := 104) (tgt := 105) eX12_tell_1 (by decide +kernel) (by decide +kernel) (by decide +kernel) (by decide) ?_
    refine g_aload eX12_tell_105 rfl ?_
    refine g_iload eX12_tell_106 rfl ?_
    refine g_callV0 (r := (RX12, TX12, 32)) eX12_tell_107 kX12_146 e25 (by rfl) (c_listenOf hI' hwf' hia) (by rfl) (by rfl) (by exact Nat.le_of_ble_eq_true rfl) (by exact Nat.le_of_ble_eq_true rfl) (by exact Nat.le_of_ble_eq_true rfl) (Nat.le_refl _) (Nat.le_refl _) (fun v107 σ107 hp107 hn107 => ?_)
    obtain ⟨rfl, hE, th2, hl2, q35⟩ := hp107
    exact g_ret (eX12_tell_110 _) (Nat.le_refl _) (Nat.le_refl _) ⟨rfl, hE, th2, hl2, q35⟩
set_option maxRecDepth 20000 in
theorem m_digest {σ : aH} {t : St} (hI : IM t σ) (hwf : WF t)  : MX12_digest 7 0 0 [.ref 25] σ (fun v σ' => v = some (.long (oDigest t)) ∧ IM t σ' ∧ FrM σ σ') := by
  refine sX12_digest (Nat.le_of_ble_eq_true rfl) ?_
  have hI' := hI
  have hwf' := hwf
  have hSs := hwf.hS
  obtain ⟨pg, rn, rs, nr, sh, rw, ro, he, hs, th, dr, ks, kr, kh, x2, x3, x4, sd, kc, kl, ka, kg, kd, ha, e25, e26, e27, e28, e29, e30, e31, e32, e33, e34, e35, e36, e37, e38, e39, lpg, lrn, lrs, lnr, lro, lhe, lth, ldr, lks, lkr, lkh, hpg, hnr, ⟨lsh, lrw, lhs, hsh, hrw, hhs⟩, hk0, hk1⟩ := hI
  obtain ⟨w1, w2, w3, w4, w5, ⟨w6, w7, w8, w9, w10, w11, w12⟩, w13, w14, w15, w16, w17⟩ := hwf
  have k159 : ∀ d j τ th' o, j + d = 10 → EqO [25, 35] σ τ → τ[25]? = some (mob (pgO t).length x2 x3 x4 (lmO (crO t)) (shO (crO t)).length (chO (crO t)) (ctO t) (mnO (crO t)).length (brO t) (hdO (crO t)).length sd kc kl ka kg kd (sayL (fun w => oCnt t w) (dgD t) j)) → τ[35]? = some (aA th') → th'.length = 10 → GX12_digest 7 0 0 (fun v σ' => v = some (.long (oDigest t)) ∧ IM t σ' ∧ FrM σ σ') 0 0 159 [some (.ref 25), some (.int (nI j)), o] [] τ := by
    intro d
    induction d with
    | zero =>
      intro j τ th' o hj hE q25 q35 hl
      obtain rfl : j = 10 := by omega
      refine g_iload eX12_digest_159 rfl ?_
      refine g_push eX12_digest_160 ?_
      refine g_icmp_geN eX12_digest_162 (by omega) (by omega) (fun c162 => ?_) (fun c162 => by exfalso; omega)
      refine g_aload eX12_digest_181 rfl ?_
      refine g_get eX12_digest_182 fX12_217_X12 q25 (by rfl) ?_
      exact g_ret (eX12_digest_185 _) (Nat.le_refl _) (Nat.le_refl _) ⟨rfl, ⟨_, _, _, _, _, _, _, _, _, _, _, _, _, _, _, _, _, _, _, _, _, _, _, _, q25, hE.at (by decide) e26, hE.at (by decide) e27, hE.at (by decide) e28, hE.at (by decide) e29, hE.at (by decide) e30, hE.at (by decide) e31, hE.at (by decide) e32, hE.at (by decide) e33, hE.at (by decide) e34, q35, hE.at (by decide) e36, hE.at (by decide) e37, hE.at (by decide) e38, hE.at (by decide) e39, lpg, lrn, lrs, lnr, lro, lhe, hl, ldr, lks, lkr, lkh, hpg, hnr, ⟨lsh, lrw, lhs, hsh, hrw, hhs⟩, hk0, hk1⟩, hE.mono (by decide)⟩
    | succ d ih =>
      intro j τ th' o hj hE q25 q35 hl
      have hT : IM t τ := ⟨_, _, _, _, _, _, _, _, _, _, _, _, _, _, _, _, _, _, _, _, _, _, _, _, q25, hE.at (by decide) e26, hE.at (by decide) e27, hE.at (by decide) e28, hE.at (by decide) e29, hE.at (by decide) e30, hE.at (by decide) e31, hE.at (by decide) e32, hE.at (by decide) e33, hE.at (by decide) e34, q35, hE.at (by decide) e36, hE.at (by decide) e37, hE.at (by decide) e38, hE.at (by decide) e39, lpg, lrn, lrs, lnr, lro, lhe, hl, ldr, lks, lkr, lkh, hpg, hnr, ⟨lsh, lrw, lhs, hsh, hrw, hhs⟩, hk0, hk1⟩
      refine g_iload eX12_digest_159 rfl ?_
      refine g_push eX12_digest_160 ?_
      refine g_icmp_geN eX12_digest_162 (by omega) (by omega) (fun c162 => by exfalso; omega) (fun c162 => ?_)
      refine g_aload eX12_digest_165 rfl ?_
      refine g_aload eX12_digest_166 rfl ?_
      refine g_iload eX12_digest_167 rfl ?_
      refine g_callVp (r := (RX12, TX12, 32)) eX12_digest_168 kX12_212 q25 (by rfl) (c_countOf hT hwf' (w := j) (by omega)) (by rfl) (by rfl) (by exact Nat.le_of_ble_eq_true rfl) (by exact Nat.le_of_ble_eq_true rfl) (by exact Nat.le_of_ble_eq_true rfl) (Nat.le_refl _) (Nat.le_refl _) ?_
      refine g_i2l eX12_digest_171 ?_
      refine g_callVp (r := (RX12, TX12, 32)) eX12_digest_172 kX12_223 q25 (by rfl) (c_say q25) (by rfl) (by rfl) (by exact Nat.le_of_ble_eq_true rfl) (by exact Nat.le_of_ble_eq_true rfl) (by exact Nat.le_of_ble_eq_true rfl) (Nat.le_refl _) (Nat.le_refl _) ?_
      refine g_iincN eX12_digest_175 rfl rfl ?_
      refine g_goto eX12_digest_178 ?_
      exact ih (j + 1) _ th' _ (by omega) (hE.st (by decide)) (at_eq q25) (at_ne (by decide) q35) hl
  have k132 : ∀ d j τ th' o, j + d = (pgO t).length → EqO [25, 35] σ τ → τ[25]? = some (mob (pgO t).length x2 x3 x4 (lmO (crO t)) (shO (crO t)).length (chO (crO t)) (ctO t) (mnO (crO t)).length (brO t) (hdO (crO t)).length sd kc kl ka kg kd (sayL (fun k => nI ((pgO t).getD k 0)) (dgC t) j)) → τ[35]? = some (aA th') → th'.length = 10 → GX12_digest 7 0 0 (fun v σ' => v = some (.long (oDigest t)) ∧ IM t σ' ∧ FrM σ σ') 0 0 132 [some (.ref 25), some (.int (nI j)), o] [] τ := by
    intro d
    induction d with
    | zero =>
      intro j τ th' o hj hE q25 q35 hl
      obtain rfl : j = (pgO t).length := by omega
      refine g_iload eX12_digest_132 rfl ?_
      refine g_aload eX12_digest_133 rfl ?_
      refine g_get eX12_digest_134 fX12_62_X12 q25 (by rfl) ?_
      refine g_icmp_geN eX12_digest_137 (by omega) (by omega) (fun c137 => ?_) (fun c137 => by exfalso; omega)
      refine g_push eX12_digest_157 ?_
      refine g_istore eX12_digest_158 rfl ?_
      exact k159 10 0 τ th' _ rfl hE q25 q35 hl
    | succ d ih =>
      intro j τ th' o hj hE q25 q35 hl
      have hT : IM t τ := ⟨_, _, _, _, _, _, _, _, _, _, _, _, _, _, _, _, _, _, _, _, _, _, _, _, q25, hE.at (by decide) e26, hE.at (by decide) e27, hE.at (by decide) e28, hE.at (by decide) e29, hE.at (by decide) e30, hE.at (by decide) e31, hE.at (by decide) e32, hE.at (by decide) e33, hE.at (by decide) e34, q35, hE.at (by decide) e36, hE.at (by decide) e37, hE.at (by decide) e38, hE.at (by decide) e39, lpg, lrn, lrs, lnr, lro, lhe, hl, ldr, lks, lkr, lkh, hpg, hnr, ⟨lsh, lrw, lhs, hsh, hrw, hhs⟩, hk0, hk1⟩
      have q26 := hE.at (by decide) e26
      refine g_iload eX12_digest_132 rfl ?_
      refine g_aload eX12_digest_133 rfl ?_
      refine g_get eX12_digest_134 fX12_62_X12 q25 (by rfl) ?_
      refine g_icmp_geN eX12_digest_137 (by omega) (by omega) (fun c137 => by exfalso; omega) (fun c137 => ?_)
      refine g_aload eX12_digest_140 rfl ?_
      refine g_aload eX12_digest_141 rfl ?_
      refine g_get eX12_digest_142 fX12_7_X12 q25 (by rfl) ?_
      refine g_iload eX12_digest_145 rfl ?_
      refine g_ialdN eX12_digest_146 q26 (by omega) (by omega) ?_
      rw [hpg j (by omega)]
      refine g_i2l eX12_digest_147 ?_
      refine g_callVp (r := (RX12, TX12, 32)) eX12_digest_148 kX12_223 q25 (by rfl) (c_say q25) (by rfl) (by rfl) (by exact Nat.le_of_ble_eq_true rfl) (by exact Nat.le_of_ble_eq_true rfl) (by exact Nat.le_of_ble_eq_true rfl) (Nat.le_refl _) (Nat.le_refl _) ?_
      refine g_iincN eX12_digest_151 rfl rfl ?_
      refine g_goto eX12_digest_154 ?_
      exact ih (j + 1) _ th' _ (by omega) (hE.st (by decide)) (at_eq q25) (at_ne (by decide) q35) hl
  have k67 : ∀ d j τ th' o, j + d = (mnO (crO t)).length → EqO [25, 35] σ τ → τ[25]? = some (mob (pgO t).length x2 x3 x4 (lmO (crO t)) (shO (crO t)).length (chO (crO t)) (ctO t) (mnO (crO t)).length (brO t) (hdO (crO t)).length sd kc kl ka kg kd (sayA t (dgB t) j)) → τ[35]? = some (aA th') → th'.length = 10 → GX12_digest 7 0 0 (fun v σ' => v = some (.long (oDigest t)) ∧ IM t σ' ∧ FrM σ σ') 0 0 67 [some (.ref 25), some (.int (nI j)), o] [] τ := by
    intro d
    induction d with
    | zero =>
      intro j τ th' o hj hE q25 q35 hl
      obtain rfl : j = (mnO (crO t)).length := by omega
      refine g_iload eX12_digest_67 rfl ?_
      refine g_aload eX12_digest_68 rfl ?_
      refine g_get eX12_digest_69 fX12_97_X12 q25 (by rfl) ?_
      refine g_icmp_geN eX12_digest_72 (by omega) (by omega) (fun c72 => ?_) (fun c72 => by exfalso; omega)
      refine g_push eX12_digest_130 ?_
      refine g_istore eX12_digest_131 rfl ?_
      exact k132 (pgO t).length 0 τ th' _ (by omega) hE q25 q35 hl
    | succ d ih =>
      intro j τ th' o hj hE q25 q35 hl
      have hjm : j < (mnO (crO t)).length := by omega
      have inner : ∀ d2 w τ th', w + d2 = 8 → EqO [25, 35] σ τ → τ[25]? = some (mob (pgO t).length x2 x3 x4 (lmO (crO t)) (shO (crO t)).length (chO (crO t)) (ctO t) (mnO (crO t)).length (brO t) (hdO (crO t)).length sd kc kl ka kg kd (sayL (fun w => oTell t j w) (sayA t (dgB t) j) w)) → τ[35]? = some (aA th') → th'.length = 10 → GX12_digest 7 0 0 (fun v σ' => v = some (.long (oDigest t)) ∧ IM t σ' ∧ FrM σ σ') 0 0 77 [some (.ref 25), some (.int (nI j)), some (.int (nI w))] [] τ := by
        intro d2
        induction d2 with
        | zero =>
          intro w τ th' hw hE q25 q35 hl
          obtain rfl : w = 8 := by omega
          have hT : IM t τ := ⟨_, _, _, _, _, _, _, _, _, _, _, _, _, _, _, _, _, _, _, _, _, _, _, _, q25, hE.at (by decide) e26, hE.at (by decide) e27, hE.at (by decide) e28, hE.at (by decide) e29, hE.at (by decide) e30, hE.at (by decide) e31, hE.at (by decide) e32, hE.at (by decide) e33, hE.at (by decide) e34, q35, hE.at (by decide) e36, hE.at (by decide) e37, hE.at (by decide) e38, hE.at (by decide) e39, lpg, lrn, lrs, lnr, lro, lhe, hl, ldr, lks, lkr, lkh, hpg, hnr, ⟨lsh, lrw, lhs, hsh, hrw, hhs⟩, hk0, hk1⟩
          refine g_iload eX12_digest_77 rfl ?_
          refine g_push eX12_digest_78 ?_
          refine g_icmp_geN eX12_digest_80 (by omega) (by omega) (fun c80 => ?_) (fun c80 => by exfalso; omega)
          refine g_aload eX12_digest_100 rfl ?_
          refine g_aload eX12_digest_101 rfl ?_
          refine g_iload eX12_digest_102 rfl ?_
          refine g_push eX12_digest_103 ?_
          refine g_push eX12_digest_104 ?_
          refine g_callVp (r := (RX12, TX12, 32)) eX12_digest_105 kX12_169 q25 (by rfl) (c_hideOf hT hwf' hjm (n := 2) (w := 0) (by decide) (by decide)) (by rfl) (by rfl) (by exact Nat.le_of_ble_eq_true rfl) (by exact Nat.le_of_ble_eq_true rfl) (by exact Nat.le_of_ble_eq_true rfl) (Nat.le_refl _) (Nat.le_refl _) ?_
          refine g_i2l eX12_digest_108 ?_
          refine g_callVp (r := (RX12, TX12, 32)) eX12_digest_109 kX12_223 q25 (by rfl) (c_say q25) (by rfl) (by rfl) (by exact Nat.le_of_ble_eq_true rfl) (by exact Nat.le_of_ble_eq_true rfl) (by exact Nat.le_of_ble_eq_true rfl) (Nat.le_refl _) (Nat.le_refl _) ?_
          have q25b := at_eq (d := mob (pgO t).length x2 x3 x4 (lmO (crO t)) (shO (crO t)).length (chO (crO t)) (ctO t) (mnO (crO t)).length (brO t) (hdO (crO t)).length sd kc kl ka kg kd (say (sayL (fun w => oTell t j w) (sayA t (dgB t) j) 8) (hidA t j 2 0))) q25
          have q35b := at_ne (i := 25) (d := mob (pgO t).length x2 x3 x4 (lmO (crO t)) (shO (crO t)).length (chO (crO t)) (ctO t) (mnO (crO t)).length (brO t) (hdO (crO t)).length sd kc kl ka kg kd (say (sayL (fun w => oTell t j w) (sayA t (dgB t) j) 8) (hidA t j 2 0))) (by decide) q35
          have hEb := hE.st (i := 25) (c := mob (pgO t).length x2 x3 x4 (lmO (crO t)) (shO (crO t)).length (chO (crO t)) (ctO t) (mnO (crO t)).length (brO t) (hdO (crO t)).length sd kc kl ka kg kd (say (sayL (fun w => oTell t j w) (sayA t (dgB t) j) 8) (hidA t j 2 0))) (by decide)
          have hT2 : IM t (τ.set 25 (mob (pgO t).length x2 x3 x4 (lmO (crO t)) (shO (crO t)).length (chO (crO t)) (ctO t) (mnO (crO t)).length (brO t) (hdO (crO t)).length sd kc kl ka kg kd (say (sayL (fun w => oTell t j w) (sayA t (dgB t) j) 8) (hidA t j 2 0)))) := ⟨_, _, _, _, _, _, _, _, _, _, _, _, _, _, _, _, _, _, _, _, _, _, _, _, q25b, hEb.at (by decide) e26, hEb.at (by decide) e27, hEb.at (by decide) e28, hEb.at (by decide) e29, hEb.at (by decide) e30, hEb.at (by decide) e31, hEb.at (by decide) e32, hEb.at (by decide) e33, hEb.at (by decide) e34, q35b, hEb.at (by decide) e36, hEb.at (by decide) e37, hEb.at (by decide) e38, hEb.at (by decide) e39, lpg, lrn, lrs, lnr, lro, lhe, hl, ldr, lks, lkr, lkh, hpg, hnr, ⟨lsh, lrw, lhs, hsh, hrw, hhs⟩, hk0, hk1⟩
          refine g_aload eX12_digest_112 rfl ?_
          refine g_aload eX12_digest_113 rfl ?_
          refine g_iload eX12_digest_114 rfl ?_
          refine g_push eX12_digest_115 ?_
          refine g_push eX12_digest_116 ?_
          refine g_callVp (r := (RX12, TX12, 32)) eX12_digest_117 kX12_169 q25b (by rfl) (c_hideOf hT2 hwf' hjm (n := 2) (w := 1) (by decide) (by decide)) (by rfl) (by rfl) (by exact Nat.le_of_ble_eq_true rfl) (by exact Nat.le_of_ble_eq_true rfl) (by exact Nat.le_of_ble_eq_true rfl) (Nat.le_refl _) (Nat.le_refl _) ?_
          refine g_i2l eX12_digest_120 ?_
          refine g_callVp (r := (RX12, TX12, 32)) eX12_digest_121 kX12_223 q25b (by rfl) (c_say q25b) (by rfl) (by rfl) (by exact Nat.le_of_ble_eq_true rfl) (by exact Nat.le_of_ble_eq_true rfl) (by exact Nat.le_of_ble_eq_true rfl) (Nat.le_refl _) (Nat.le_refl _) ?_
          refine g_iincN eX12_digest_124 rfl rfl ?_
          refine g_goto eX12_digest_127 ?_
          exact ih (j + 1) _ th' _ (by omega) (hEb.st (by decide)) (at_eq q25b) (at_ne (by decide) q35b) hl
        | succ d2 ih2 =>
          intro w τ th' hw hE q25 q35 hl
          have hT : IM t τ := ⟨_, _, _, _, _, _, _, _, _, _, _, _, _, _, _, _, _, _, _, _, _, _, _, _, q25, hE.at (by decide) e26, hE.at (by decide) e27, hE.at (by decide) e28, hE.at (by decide) e29, hE.at (by decide) e30, hE.at (by decide) e31, hE.at (by decide) e32, hE.at (by decide) e33, hE.at (by decide) e34, q35, hE.at (by decide) e36, hE.at (by decide) e37, hE.at (by decide) e38, hE.at (by decide) e39, lpg, lrn, lrs, lnr, lro, lhe, hl, ldr, lks, lkr, lkh, hpg, hnr, ⟨lsh, lrw, lhs, hsh, hrw, hhs⟩, hk0, hk1⟩
          refine g_iload eX12_digest_77 rfl ?_
          refine g_push eX12_digest_78 ?_
          refine g_icmp_geN eX12_digest_80 (by omega) (by omega) (fun c80 => by exfalso; omega) (fun c80 => ?_)
          refine g_aload eX12_digest_83 rfl ?_
          refine g_aload eX12_digest_84 rfl ?_
          refine g_iload eX12_digest_85 rfl ?_
          refine g_iload eX12_digest_86 rfl ?_
          refine g_callV0 (r := (RX12, TX12, 32)) eX12_digest_87 kX12_152 q25 (by rfl) (c_tellE hT hwf' hjm (w := w) (by omega)) (by rfl) (by rfl) (by exact Nat.le_of_ble_eq_true rfl) (by exact Nat.le_of_ble_eq_true rfl) (by exact Nat.le_of_ble_eq_true rfl) (Nat.le_refl _) (Nat.le_refl _) (fun v87 σ87 hp87 hn87 => ?_)
          obtain ⟨rfl, hE2, th2, hl2, q35b⟩ := hp87
          have q25b := hE2.at (by decide) q25
          refine g_i2l eX12_digest_90 ?_
          refine g_callVp (r := (RX12, TX12, 32)) eX12_digest_91 kX12_223 q25b (by rfl) (c_say q25b) (by rfl) (by rfl) (by exact Nat.le_of_ble_eq_true rfl) (by exact Nat.le_of_ble_eq_true rfl) (by exact Nat.le_of_ble_eq_true rfl) (Nat.le_refl _) (Nat.le_refl _) ?_
          refine g_iincN eX12_digest_94 rfl rfl ?_
          refine g_goto eX12_digest_97 ?_
          exact ih2 (w + 1) _ th2 (by omega) ((hE.tr (hE2.mono (by decide))).st (by decide)) (at_eq q25b) (at_ne (by decide) q35b) hl2
      refine g_iload eX12_digest_67 rfl ?_
      refine g_aload eX12_digest_68 rfl ?_
      refine g_get eX12_digest_69 fX12_97_X12 q25 (by rfl) ?_
      refine g_icmp_geN eX12_digest_72 (by omega) (by omega) (fun c72 => by exfalso; omega) (fun c72 => ?_)
      refine g_push eX12_digest_75 ?_
      refine g_istore eX12_digest_76 rfl ?_
      exact inner 8 0 τ th' rfl hE q25 q35 hl
  have k40 : ∀ d j τ th' o, j + d = (shO (crO t)).length → EqO [25, 35] σ τ → τ[25]? = some (mob (pgO t).length x2 x3 x4 (lmO (crO t)) (shO (crO t)).length (chO (crO t)) (ctO t) (mnO (crO t)).length (brO t) (hdO (crO t)).length sd kc kl ka kg kd (sayL (fun k => nI ((shO (crO t)).getD k 0)) (dgA t) j)) → τ[35]? = some (aA th') → th'.length = 10 → GX12_digest 7 0 0 (fun v σ' => v = some (.long (oDigest t)) ∧ IM t σ' ∧ FrM σ σ') 0 0 40 [some (.ref 25), some (.int (nI j)), o] [] τ := by
    intro d
    induction d with
    | zero =>
      intro j τ th' o hj hE q25 q35 hl
      obtain rfl : j = (shO (crO t)).length := by omega
      refine g_iload eX12_digest_40 rfl ?_
      refine g_aload eX12_digest_41 rfl ?_
      refine g_get eX12_digest_42 fX12_84_X12 q25 (by rfl) ?_
      refine g_icmp_geN eX12_digest_45 (by omega) (by omega) (fun c45 => ?_) (fun c45 => by exfalso; omega)
      refine g_push eX12_digest_65 ?_
      refine g_istore eX12_digest_66 rfl ?_
      exact k67 (mnO (crO t)).length 0 τ th' _ (by omega) hE q25 q35 hl
    | succ d ih =>
      intro j τ th' o hj hE q25 q35 hl
      have hT : IM t τ := ⟨_, _, _, _, _, _, _, _, _, _, _, _, _, _, _, _, _, _, _, _, _, _, _, _, q25, hE.at (by decide) e26, hE.at (by decide) e27, hE.at (by decide) e28, hE.at (by decide) e29, hE.at (by decide) e30, hE.at (by decide) e31, hE.at (by decide) e32, hE.at (by decide) e33, hE.at (by decide) e34, q35, hE.at (by decide) e36, hE.at (by decide) e37, hE.at (by decide) e38, hE.at (by decide) e39, lpg, lrn, lrs, lnr, lro, lhe, hl, ldr, lks, lkr, lkh, hpg, hnr, ⟨lsh, lrw, lhs, hsh, hrw, hhs⟩, hk0, hk1⟩
      have q30 := hE.at (by decide) e30
      refine g_iload eX12_digest_40 rfl ?_
      refine g_aload eX12_digest_41 rfl ?_
      refine g_get eX12_digest_42 fX12_84_X12 q25 (by rfl) ?_
      refine g_icmp_geN eX12_digest_45 (by omega) (by omega) (fun c45 => by exfalso; omega) (fun c45 => ?_)
      refine g_aload eX12_digest_48 rfl ?_
      refine g_aload eX12_digest_49 rfl ?_
      refine g_get eX12_digest_50 fX12_22_X12 q25 (by rfl) ?_
      refine g_iload eX12_digest_53 rfl ?_
      refine g_ialdN eX12_digest_54 q30 (by omega) (by omega) ?_
      rw [hsh j (by omega)]
      refine g_i2l eX12_digest_55 ?_
      refine g_callVp (r := (RX12, TX12, 32)) eX12_digest_56 kX12_223 q25 (by rfl) (c_say q25) (by rfl) (by rfl) (by exact Nat.le_of_ble_eq_true rfl) (by exact Nat.le_of_ble_eq_true rfl) (by exact Nat.le_of_ble_eq_true rfl) (Nat.le_refl _) (Nat.le_refl _) ?_
      refine g_iincN eX12_digest_59 rfl rfl ?_
      refine g_goto eX12_digest_62 ?_
      exact ih (j + 1) _ th' _ (by omega) (hE.st (by decide)) (at_eq q25) (at_ne (by decide) q35) hl
  by_cases hyes : hasC t
  · have hA : dgA t = sayL (fun d => nI ((nrO t).getD d 0)) 1019 5 := if_pos hyes
    have hwd : ¬ (shO (crO t)).length = 0 := by have := hSs.mp hyes; omega
    have k9 : ∀ d j τ th' o, j + d = 5 → EqO [25, 35] σ τ → τ[25]? = some (mob (pgO t).length x2 x3 x4 (lmO (crO t)) (shO (crO t)).length (chO (crO t)) (ctO t) (mnO (crO t)).length (brO t) (hdO (crO t)).length sd kc kl ka kg kd (sayL (fun d => nI ((nrO t).getD d 0)) (1019) j)) → τ[35]? = some (aA th') → th'.length = 10 → GX12_digest 7 0 0 (fun v σ' => v = some (.long (oDigest t)) ∧ IM t σ' ∧ FrM σ σ') 0 0 9 [some (.ref 25), some (.int (nI j)), o] [] τ := by
      intro d
      induction d with
      | zero =>
        intro j τ th' o hj hE q25 q35 hl
        obtain rfl : j = 5 := by omega
        refine g_iload eX12_digest_9 rfl ?_
        refine g_push eX12_digest_10 ?_
        refine g_icmp_geN eX12_digest_11 (by omega) (by omega) (fun c11 => ?_) (fun c11 => by exfalso; omega)
        refine g_push eX12_digest_38 ?_
        refine g_istore eX12_digest_39 rfl ?_
        rw [← hA] at q25
        exact k40 (shO (crO t)).length 0 τ th' _ (by omega) hE q25 q35 hl
      | succ d ih =>
        intro j τ th' o hj hE q25 q35 hl
        have hT : IM t τ := ⟨_, _, _, _, _, _, _, _, _, _, _, _, _, _, _, _, _, _, _, _, _, _, _, _, q25, hE.at (by decide) e26, hE.at (by decide) e27, hE.at (by decide) e28, hE.at (by decide) e29, hE.at (by decide) e30, hE.at (by decide) e31, hE.at (by decide) e32, hE.at (by decide) e33, hE.at (by decide) e34, q35, hE.at (by decide) e36, hE.at (by decide) e37, hE.at (by decide) e38, hE.at (by decide) e39, lpg, lrn, lrs, lnr, lro, lhe, hl, ldr, lks, lkr, lkh, hpg, hnr, ⟨lsh, lrw, lhs, hsh, hrw, hhs⟩, hk0, hk1⟩
        have q29 := hE.at (by decide) e29
        refine g_iload eX12_digest_9 rfl ?_
        refine g_push eX12_digest_10 ?_
        refine g_icmp_geN eX12_digest_11 (by omega) (by omega) (fun c11 => by exfalso; omega) (fun c11 => ?_)
        refine g_aload eX12_digest_14 rfl ?_
        refine g_callVp (r := (RX12, TX12, 32)) eX12_digest_15 kX12_106 q25 (by rfl) (c_mlacks q25 w6) (by rfl) (by rfl) (by exact Nat.le_of_ble_eq_true rfl) (by exact Nat.le_of_ble_eq_true rfl) (by exact Nat.le_of_ble_eq_true rfl) (Nat.le_refl _) (Nat.le_refl _) ?_
        refine g_if_neN eX12_digest_18 (bt_lt _) (fun c18 => absurd (bt_1 c18) hwd) (fun c18 => ?_)
        refine g_aload eX12_digest_21 rfl ?_
        refine g_aload eX12_digest_22 rfl ?_
        refine g_get eX12_digest_23 fX12_19_X12 q25 (by rfl) ?_
        refine g_iload eX12_digest_26 rfl ?_
        refine g_ialdN eX12_digest_27 q29 (by omega) (by omega) ?_
        rw [hnr j (by omega)]
        refine g_i2l eX12_digest_28 ?_
        refine g_callVp (r := (RX12, TX12, 32)) eX12_digest_29 kX12_223 q25 (by rfl) (c_say q25) (by rfl) (by rfl) (by exact Nat.le_of_ble_eq_true rfl) (by exact Nat.le_of_ble_eq_true rfl) (by exact Nat.le_of_ble_eq_true rfl) (Nat.le_refl _) (Nat.le_refl _) ?_
        refine g_iincN eX12_digest_32 rfl rfl ?_
        refine g_goto eX12_digest_35 ?_
        exact ih (j + 1) _ th' _ (by omega) (hE.st (by decide)) (at_eq q25) (at_ne (by decide) q35) hl
    refine g_aload eX12_digest_0 rfl ?_
    refine g_ldc2 eX12_digest_1 lX12_221 ?_
    refine g_putJ eX12_digest_4 fX12_217_X12 pX12_31 e25 (by exact Nat.le_of_ble_eq_true rfl) ?_
    refine g_push eX12_digest_7 ?_
    refine g_istore eX12_digest_8 rfl ?_
    exact k9 5 0 _ th _ rfl (EqO.rf.st (by decide)) (at_eq e25) (at_ne (by decide) e35) lth
  · have hA : dgA t = 1019 := if_neg hyes
    have hwd : (shO (crO t)).length = 0 := Classical.byContradiction fun z => hyes (hSs.mpr (by omega))
    refine g_aload eX12_digest_0 rfl ?_
    refine g_ldc2 eX12_digest_1 lX12_221 ?_
    refine g_putJ eX12_digest_4 fX12_217_X12 pX12_31 e25 (by exact Nat.le_of_ble_eq_true rfl) ?_
    refine g_push eX12_digest_7 ?_
    refine g_istore eX12_digest_8 rfl ?_
    refine g_iload eX12_digest_9 rfl ?_
    refine g_push eX12_digest_10 ?_
    refine g_icmp_geN eX12_digest_11 (by omega) (by omega) (fun c11 => by exfalso; omega) (fun c11 => ?_)
    refine g_aload eX12_digest_14 rfl ?_
    refine g_callVp (r := (RX12, TX12, 32)) eX12_digest_15 kX12_106 (at_eq e25) (by rfl) (c_mlacks (at_eq e25) w6) (by rfl) (by rfl) (by exact Nat.le_of_ble_eq_true rfl) (by exact Nat.le_of_ble_eq_true rfl) (by exact Nat.le_of_ble_eq_true rfl) (Nat.le_refl _) (Nat.le_refl _) ?_
    refine g_if_neN eX12_digest_18 (bt_lt _) (fun c18 => ?_) (fun c18 => absurd hwd (bt_0 c18))
    refine g_push eX12_digest_38 ?_
    refine g_istore eX12_digest_39 rfl ?_
    exact k40 (shO (crO t)).length 0 _ th _ (by omega) (EqO.rf.st (by decide)) (by rw [hA]; exact (at_eq e25)) (at_ne (by decide) e35) lth
