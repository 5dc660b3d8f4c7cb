/-! the class's digest -/
theorem oNear_in {t : St} (hC : hasC t) {d : Nat} (hd : d < 5) : oNear t (nI d) = nI ((nrO t).getD d 0) := by
  unfold oNear
  rw [rg_nI (Nat.zero_le _) hd]
  dsimp only
  rw [if_pos hC]
theorem oAbout_in {t : St} {a w : Nat} (ha : a < (mnO (crO t)).length) (hn : (mnO (crO t)).length ≤ 4) (hw : w < 8) : oAbout t (nI a) (nI w) = oTell t a w := by
  unfold oAbout
  rw [rg_nI (Nat.zero_le _) ha (by omega)]
  dsimp only
  rw [rg_nI (Nat.zero_le _) hw]
theorem oHide_in {t : St} {a n w : Nat} (ha : a < (mnO (crO t)).length) (hm : (mnO (crO t)).length ≤ 4) (hn : n < 9) (hw : w < 2) : oHide t (nI a) (nI n) (nI w) = hidA t a n w := by
  unfold oHide
  rw [rg_nI (Nat.zero_le _) ha (by omega)]
  dsimp only
  rw [rg_nI (Nat.zero_le _) hn]
  dsimp only
  rw [rg_nI (Nat.zero_le _) hw]
theorem oCount_in {t : St} {w : Nat} (hw : w < 10) : oCount t (nI w) = oCnt t w := by
  unfold oCount
  rw [rg_nI (Nat.zero_le _) hw]
def dgA (t : St) : Int64 := if hasC t then sayL (fun d => nI ((nrO t).getD d 0)) 1019 5 else 1019
def dgB (t : St) : Int64 := sayL (fun k => nI ((shO (crO t)).getD k 0)) (dgA t) (shO (crO t)).length
def dgC (t : St) : Int64 := sayA t (dgB t) (mnO (crO t)).length
def dgD (t : St) : Int64 := sayL (fun k => nI ((pgO t).getD k 0)) (dgC t) (pgO t).length
theorem oDigest_eq (t : St) : oDigest t = sayL (fun w => oCnt t w) (dgD t) 10 := rfl
set_option maxRecDepth 20000 in
theorem x_digest {σ : aH} {t : St} (hI : IX t σ) (hwf : WF t)  : MX11_digest 6 0 0 [.ref 0] σ (aPu (some (.long (oDigest t))) σ) := by
  refine sX11_digest (Nat.le_of_ble_eq_true rfl) ?_
  have hI' := hI
  have hwf' := hwf
  obtain ⟨cd, x0, x1, x2, mr, dws, dsz, bp, bw, bs, e0, e1, e2, e3, e4, e5, e20, e21, e22, e23, e24, ⟨ws, wm, dm, hid, e6, e7, e8, e9, e10, e11, e12, lws, hws, lwm, ldm, bwm, lhid, hhid, hhd⟩, hk, hki, lcd, hcd, bcd, lmr, ldws, lbp, lbw, hmen⟩ := hI
  obtain ⟨w1, w2, w3, w4, w5, ⟨w6, w7, w8, w9, w10, w11, w12⟩, w13, w14, w15, w16, w17⟩ := hwf
  have hC := hwf'.hC
  have k195 : ∀ d j o, j + d = 10 → GX11_digest 6 0 0 (aPu (some (.long (oDigest t))) σ) 0 0 195 [some (.ref 0), some (.long (sayL (fun w => oCnt t w) (dgD t) j)), none, some (.int (nI j)), o] [] σ := by
    intro d
    induction d with
    | zero =>
      intro j o hj
      obtain rfl : j = 10 := by omega
      refine g_iload eX11_digest_195 rfl ?_
      refine g_push eX11_digest_196 ?_
      refine g_icmp_gtN eX11_digest_198 (by omega) (by omega) (fun c198 => ?_) (fun c198 => by exfalso; omega)
      refine g_lload eX11_digest_220 rfl ?_
      exact g_ret (eX11_digest_221 _) (Nat.le_refl _) (Nat.le_refl _) ⟨rfl, rfl⟩
    | succ d ih =>
      intro j o hj
      refine g_iload eX11_digest_195 rfl ?_
      refine g_push eX11_digest_196 ?_
      refine g_icmp_gtN eX11_digest_198 (by omega) (by omega) (fun c198 => by exfalso; omega) (fun c198 => ?_)
      refine g_ldc2 eX11_digest_201 lX11_209 ?_
      refine g_lload eX11_digest_204 rfl ?_
      refine g_lmul eX11_digest_205 ?_
      refine g_aload eX11_digest_206 rfl ?_
      refine g_iload eX11_digest_207 rfl ?_
      refine g_callVp (r := (RX11, TX11, 10)) eX11_digest_208 kX11_223 e0 (by rfl) (x_count hI' hwf') (by rfl) (by rfl) (by exact Nat.le_of_ble_eq_true rfl) (by exact Nat.le_of_ble_eq_true rfl) (by exact Nat.le_of_ble_eq_true rfl) (Nat.le_refl _) (Nat.le_refl _) ?_
      rw [oCount_in (t := t) (w := j) (by omega)]
      refine g_i2l eX11_digest_211 ?_
      refine g_ladd eX11_digest_212 ?_
      refine g_lstore eX11_digest_213 rfl ?_
      refine g_iincN eX11_digest_214 rfl rfl ?_
      refine g_goto eX11_digest_217 ?_
      exact ih (j + 1) _ (by omega)
  have k160 : ∀ d j o, j + d = (pgO t).length → GX11_digest 6 0 0 (aPu (some (.long (oDigest t))) σ) 0 0 160 [some (.ref 0), some (.long (sayL (fun k => nI ((pgO t).getD k 0)) (dgC t) j)), none, some (.int (nI j)), o] [] σ := by
    intro d
    induction d with
    | zero =>
      intro j o hj
      obtain rfl : j = (pgO t).length := by omega
      refine g_iload eX11_digest_160 rfl ?_
      refine g_aload eX11_digest_161 rfl ?_
      refine g_get eX11_digest_162 fX11_10_X11 e0 (by rfl) ?_
      refine g_callVp (r := (RX5, TX5, 3)) eX11_digest_165 kX11_54 e1 (by rfl) (c_psize e1) (by rfl) (by rfl) (by exact Nat.le_of_ble_eq_true rfl) (by exact Nat.le_of_ble_eq_true rfl) (by exact Nat.le_of_ble_eq_true rfl) (Nat.le_refl _) (Nat.le_refl _) ?_
      refine g_icmp_geN eX11_digest_168 (by omega) (by omega) (fun c168 => ?_) (fun c168 => by exfalso; omega)
      refine g_push eX11_digest_193 ?_
      refine g_istore eX11_digest_194 rfl ?_
      exact k195 10 0 _ rfl
    | succ d ih =>
      intro j o hj
      refine g_iload eX11_digest_160 rfl ?_
      refine g_aload eX11_digest_161 rfl ?_
      refine g_get eX11_digest_162 fX11_10_X11 e0 (by rfl) ?_
      refine g_callVp (r := (RX5, TX5, 3)) eX11_digest_165 kX11_54 e1 (by rfl) (c_psize e1) (by rfl) (by rfl) (by exact Nat.le_of_ble_eq_true rfl) (by exact Nat.le_of_ble_eq_true rfl) (by exact Nat.le_of_ble_eq_true rfl) (Nat.le_refl _) (Nat.le_refl _) ?_
      refine g_icmp_geN eX11_digest_168 (by omega) (by omega) (fun c168 => by exfalso; omega) (fun c168 => ?_)
      refine g_ldc2 eX11_digest_171 lX11_209 ?_
      refine g_lload eX11_digest_174 rfl ?_
      refine g_lmul eX11_digest_175 ?_
      refine g_aload eX11_digest_176 rfl ?_
      refine g_get eX11_digest_177 fX11_10_X11 e0 (by rfl) ?_
      refine g_iload eX11_digest_180 rfl ?_
      refine g_callVp (r := (RX5, TX5, 3)) eX11_digest_181 kX11_220 e1 (by rfl) (c_codeAt e1 e2 lcd w1 (k := j) (by omega)) (by rfl) (by rfl) (by exact Nat.le_of_ble_eq_true rfl) (by exact Nat.le_of_ble_eq_true rfl) (by exact Nat.le_of_ble_eq_true rfl) (Nat.le_refl _) (Nat.le_refl _) ?_
      rw [hcd j (by omega)]
      refine g_i2l eX11_digest_184 ?_
      refine g_ladd eX11_digest_185 ?_
      refine g_lstore eX11_digest_186 rfl ?_
      refine g_iincN eX11_digest_187 rfl rfl ?_
      refine g_goto eX11_digest_190 ?_
      exact ih (j + 1) _ (by omega)
  have k80 : ∀ d j o, j + d = (mnO (crO t)).length → GX11_digest 6 0 0 (aPu (some (.long (oDigest t))) σ) 0 0 80 [some (.ref 0), some (.long (sayA t (dgB t) j)), none, some (.int (nI j)), o] [] σ := by
    intro d
    induction d with
    | zero =>
      intro j o hj
      obtain rfl : j = (mnO (crO t)).length := by omega
      refine g_iload eX11_digest_80 rfl ?_
      refine g_aload eX11_digest_81 rfl ?_
      refine g_get eX11_digest_82 fX11_29_X11 e0 (by rfl) ?_
      refine g_get eX11_digest_85 fX11_109_X8 e6 (by rfl) ?_
      refine g_icmp_geN eX11_digest_88 (by omega) (by omega) (fun c88 => ?_) (fun c88 => by exfalso; omega)
      refine g_push eX11_digest_158 ?_
      refine g_istore eX11_digest_159 rfl ?_
      exact k160 (pgO t).length 0 _ (by omega)
    | succ d ih =>
      intro j o hj
      have hjm : j < (mnO (crO t)).length := by omega
      have inner : ∀ d2 w, w + d2 = 8 → GX11_digest 6 0 0 (aPu (some (.long (oDigest t))) σ) 0 0 94 [some (.ref 0), some (.long (sayL (fun w => oTell t j w) (sayA t (dgB t) j) w)), none, some (.int (nI j)), some (.int (nI w))] [] σ := by
        intro d2
        induction d2 with
        | zero =>
          intro w hw
          obtain rfl : w = 8 := by omega
          refine g_iload eX11_digest_94 rfl ?_
          refine g_push eX11_digest_96 ?_
          refine g_icmp_gtN eX11_digest_98 (by omega) (by omega) (fun c98 => ?_) (fun c98 => by exfalso; omega)
          refine g_ldc2 eX11_digest_122 lX11_209 ?_
          refine g_lload eX11_digest_125 rfl ?_
          refine g_lmul eX11_digest_126 ?_
          refine g_aload eX11_digest_127 rfl ?_
          refine g_iload eX11_digest_128 rfl ?_
          refine g_push eX11_digest_129 ?_
          refine g_push eX11_digest_130 ?_
          refine g_callVp (r := (RX11, TX11, 10)) eX11_digest_131 kX11_216 e0 (by rfl) (x_hide hI' hwf') (by rfl) (by rfl) (by exact Nat.le_of_ble_eq_true rfl) (by exact Nat.le_of_ble_eq_true rfl) (by exact Nat.le_of_ble_eq_true rfl) (Nat.le_refl _) (Nat.le_refl _) ?_
          rw [oHide_in (t := t) hjm w9 (by decide) (by decide)]
          refine g_i2l eX11_digest_134 ?_
          refine g_ladd eX11_digest_135 ?_
          refine g_lstore eX11_digest_136 rfl ?_
          refine g_ldc2 eX11_digest_137 lX11_209 ?_
          refine g_lload eX11_digest_140 rfl ?_
          refine g_lmul eX11_digest_141 ?_
          refine g_aload eX11_digest_142 rfl ?_
          refine g_iload eX11_digest_143 rfl ?_
          refine g_push eX11_digest_144 ?_
          refine g_push eX11_digest_145 ?_
          refine g_callVp (r := (RX11, TX11, 10)) eX11_digest_146 kX11_216 e0 (by rfl) (x_hide hI' hwf') (by rfl) (by rfl) (by exact Nat.le_of_ble_eq_true rfl) (by exact Nat.le_of_ble_eq_true rfl) (by exact Nat.le_of_ble_eq_true rfl) (Nat.le_refl _) (Nat.le_refl _) ?_
          rw [oHide_in (t := t) hjm w9 (by decide) (by decide)]
          refine g_i2l eX11_digest_149 ?_
          refine g_ladd eX11_digest_150 ?_
          refine g_lstore eX11_digest_151 rfl ?_
          refine g_iincN eX11_digest_152 rfl rfl ?_
          refine g_goto eX11_digest_155 ?_
          exact ih (j + 1) _ (by omega)
        | succ d2 ih2 =>
          intro w hw
          refine g_iload eX11_digest_94 rfl ?_
          refine g_push eX11_digest_96 ?_
          refine g_icmp_gtN eX11_digest_98 (by omega) (by omega) (fun c98 => by exfalso; omega) (fun c98 => ?_)
          refine g_ldc2 eX11_digest_101 lX11_209 ?_
          refine g_lload eX11_digest_104 rfl ?_
          refine g_lmul eX11_digest_105 ?_
          refine g_aload eX11_digest_106 rfl ?_
          refine g_iload eX11_digest_107 rfl ?_
          refine g_iload eX11_digest_108 rfl ?_
          refine g_callVp (r := (RX11, TX11, 10)) eX11_digest_110 kX11_213 e0 (by rfl) (x_about hI' hwf' hC) (by rfl) (by rfl) (by exact Nat.le_of_ble_eq_true rfl) (by exact Nat.le_of_ble_eq_true rfl) (by exact Nat.le_of_ble_eq_true rfl) (Nat.le_refl _) (Nat.le_refl _) ?_
          rw [oAbout_in (t := t) (w := w) hjm w9 (by omega)]
          refine g_i2l eX11_digest_113 ?_
          refine g_ladd eX11_digest_114 ?_
          refine g_lstore eX11_digest_115 rfl ?_
          refine g_iincN eX11_digest_116 rfl rfl ?_
          refine g_goto eX11_digest_119 ?_
          exact ih2 (w + 1) (by omega)
      refine g_iload eX11_digest_80 rfl ?_
      refine g_aload eX11_digest_81 rfl ?_
      refine g_get eX11_digest_82 fX11_29_X11 e0 (by rfl) ?_
      refine g_get eX11_digest_85 fX11_109_X8 e6 (by rfl) ?_
      refine g_icmp_geN eX11_digest_88 (by omega) (by omega) (fun c88 => by exfalso; omega) (fun c88 => ?_)
      refine g_push eX11_digest_91 ?_
      refine g_istore eX11_digest_92 rfl ?_
      exact inner 8 0 rfl
  have k39 : ∀ d j o, j + d = (shO (crO t)).length → GX11_digest 6 0 0 (aPu (some (.long (oDigest t))) σ) 0 0 39 [some (.ref 0), some (.long (sayL (fun k => nI ((shO (crO t)).getD k 0)) (dgA t) j)), none, some (.int (nI j)), o] [] σ := by
    intro d
    induction d with
    | zero =>
      intro j o hj
      obtain rfl : j = (shO (crO t)).length := by omega
      refine g_iload eX11_digest_39 rfl ?_
      refine g_aload eX11_digest_40 rfl ?_
      refine g_get eX11_digest_41 fX11_29_X11 e0 (by rfl) ?_
      refine g_get eX11_digest_44 fX11_79_X8 e6 (by rfl) ?_
      refine g_callVp (r := (RX6, TX6, 2)) eX11_digest_47 kX11_82 e7 (by rfl) (c_size e7) (by rfl) (by rfl) (by exact Nat.le_of_ble_eq_true rfl) (by exact Nat.le_of_ble_eq_true rfl) (by exact Nat.le_of_ble_eq_true rfl) (Nat.le_refl _) (Nat.le_refl _) ?_
      refine g_icmp_geN eX11_digest_50 (by omega) (by omega) (fun c50 => ?_) (fun c50 => by exfalso; omega)
      refine g_push eX11_digest_78 ?_
      refine g_istore eX11_digest_79 rfl ?_
      exact k80 (mnO (crO t)).length 0 _ (by omega)
    | succ d ih =>
      intro j o hj
      refine g_iload eX11_digest_39 rfl ?_
      refine g_aload eX11_digest_40 rfl ?_
      refine g_get eX11_digest_41 fX11_29_X11 e0 (by rfl) ?_
      refine g_get eX11_digest_44 fX11_79_X8 e6 (by rfl) ?_
      refine g_callVp (r := (RX6, TX6, 2)) eX11_digest_47 kX11_82 e7 (by rfl) (c_size e7) (by rfl) (by rfl) (by exact Nat.le_of_ble_eq_true rfl) (by exact Nat.le_of_ble_eq_true rfl) (by exact Nat.le_of_ble_eq_true rfl) (Nat.le_refl _) (Nat.le_refl _) ?_
      refine g_icmp_geN eX11_digest_50 (by omega) (by omega) (fun c50 => by exfalso; omega) (fun c50 => ?_)
      refine g_ldc2 eX11_digest_53 lX11_209 ?_
      refine g_lload eX11_digest_56 rfl ?_
      refine g_lmul eX11_digest_57 ?_
      refine g_aload eX11_digest_58 rfl ?_
      refine g_get eX11_digest_59 fX11_29_X11 e0 (by rfl) ?_
      refine g_get eX11_digest_62 fX11_79_X8 e6 (by rfl) ?_
      refine g_iload eX11_digest_65 rfl ?_
      refine g_callVp (r := (RX6, TX6, 2)) eX11_digest_66 kX11_89 e7 (by rfl) (c_at e7 e8 lws w6 (j := j) (by omega)) (by rfl) (by rfl) (by exact Nat.le_of_ble_eq_true rfl) (by exact Nat.le_of_ble_eq_true rfl) (by exact Nat.le_of_ble_eq_true rfl) (Nat.le_refl _) (Nat.le_refl _) ?_
      rw [hws j (by omega)]
      refine g_i2l eX11_digest_69 ?_
      refine g_ladd eX11_digest_70 ?_
      refine g_lstore eX11_digest_71 rfl ?_
      refine g_iincN eX11_digest_72 rfl rfl ?_
      refine g_goto eX11_digest_75 ?_
      exact ih (j + 1) _ (by omega)
  by_cases hyes : hasC t
  · have hA : dgA t = sayL (fun d => nI ((nrO t).getD d 0)) 1019 5 := if_pos hyes
    have k6 : ∀ d j o, j + d = 5 → GX11_digest 6 0 0 (aPu (some (.long (oDigest t))) σ) 0 0 6 [some (.ref 0), some (.long (sayL (fun d => nI ((nrO t).getD d 0)) 1019 j)), none, some (.int (nI j)), o] [] σ := by
      intro d
      induction d with
      | zero =>
        intro j o hj
        obtain rfl : j = 5 := by omega
        refine g_iload eX11_digest_6 rfl ?_
        refine g_push eX11_digest_7 ?_
        refine g_icmp_geN eX11_digest_8 (by omega) (by omega) (fun c8 => ?_) (fun c8 => by exfalso; omega)
        refine g_push eX11_digest_37 ?_
        refine g_istore eX11_digest_38 rfl ?_
        rw [← hA]
        exact k39 (shO (crO t)).length 0 _ (by omega)
      | succ d ih =>
        intro j o hj
        refine g_iload eX11_digest_6 rfl ?_
        refine g_push eX11_digest_7 ?_
        refine g_icmp_geN eX11_digest_8 (by omega) (by omega) (fun c8 => by exfalso; omega) (fun c8 => ?_)
        refine g_aload eX11_digest_11 rfl ?_
        refine g_callVp (r := (RX11, TX11, 10)) eX11_digest_12 kX11_83 e0 (by rfl) (c_hasCourt hI' hwf') (by rfl) (by rfl) (by exact Nat.le_of_ble_eq_true rfl) (by exact Nat.le_of_ble_eq_true rfl) (by exact Nat.le_of_ble_eq_true rfl) (Nat.le_refl _) (Nat.le_refl _) ?_
        refine g_if_eqN eX11_digest_15 (bt_lt _) (fun c15 => absurd hyes (bt_0 c15)) (fun c15 => ?_)
        refine g_ldc2 eX11_digest_18 lX11_209 ?_
        refine g_lload eX11_digest_21 rfl ?_
        refine g_lmul eX11_digest_22 ?_
        refine g_aload eX11_digest_23 rfl ?_
        refine g_iload eX11_digest_24 rfl ?_
        refine g_callVp (r := (RX11, TX11, 10)) eX11_digest_25 kX11_211 e0 (by rfl) (x_near hI' hwf') (by rfl) (by rfl) (by exact Nat.le_of_ble_eq_true rfl) (by exact Nat.le_of_ble_eq_true rfl) (by exact Nat.le_of_ble_eq_true rfl) (Nat.le_refl _) (Nat.le_refl _) ?_
        rw [oNear_in (t := t) (d := j) hyes (by omega)]
        refine g_i2l eX11_digest_28 ?_
        refine g_ladd eX11_digest_29 ?_
        refine g_lstore eX11_digest_30 rfl ?_
        refine g_iincN eX11_digest_31 rfl rfl ?_
        refine g_goto eX11_digest_34 ?_
        exact ih (j + 1) _ (by omega)
    refine g_ldc2 eX11_digest_0 lX11_207 ?_
    refine g_lstore eX11_digest_3 rfl ?_
    refine g_push eX11_digest_4 ?_
    refine g_istore eX11_digest_5 rfl ?_
    exact k6 5 0 _ rfl
  · have hA : dgA t = 1019 := if_neg hyes
    refine g_ldc2 eX11_digest_0 lX11_207 ?_
    refine g_lstore eX11_digest_3 rfl ?_
    refine g_push eX11_digest_4 ?_
    refine g_istore eX11_digest_5 rfl ?_
    refine g_iload eX11_digest_6 rfl ?_
    refine g_push eX11_digest_7 ?_
    refine g_icmp_geN eX11_digest_8 (by omega) (by omega) (fun c8 => by exfalso; omega) (fun c8 => ?_)
    refine g_aload eX11_digest_11 rfl ?_
    refine g_callVp (r := (RX11, TX11, 10)) eX11_digest_12 kX11_83 e0 (by rfl) (c_hasCourt hI' hwf') (by rfl) (by rfl) (by exact Nat.le_of_ble_eq_true rfl) (by exact Nat.le_of_ble_eq_true rfl) (by exact Nat.le_of_ble_eq_true rfl) (Nat.le_refl _) (Nat.le_refl _) ?_
    refine g_if_eqN eX11_digest_15 (bt_lt _) (fun c15 => ?_) (fun c15 => absurd (bt_1 c15) hyes)
    refine g_push eX11_digest_37 ?_
    refine g_istore eX11_digest_38 rfl ?_
    rw [← hA]
    exact k39 (shO (crO t)).length 0 _ (by omega)
