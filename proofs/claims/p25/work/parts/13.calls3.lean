/-! the class's calls: about, as, lesson, unlearn, hide, hear, forget, image, restore, count, trials -/
theorem toInt_sw {x : Int32} {k : Nat} (h : x = nI k) (hk : k < 2147483648) : x.toInt = (k : Int) := by rw [h, nI_toInt (by omega)]
set_option maxRecDepth 20000 in
theorem x_about {σ : aH} {t : St} (hI : IX t σ) (hwf : WF t) {x y : Int32} (hC : 0 < (shO (crO t)).length ∨ (mnO (crO t)).length = 0) : MX11_about 5 0 0 [.ref 0, .int x, .int y] σ (aPu (some (.int (oAbout t x y))) σ) := by
  refine sX11_about (Nat.le_of_ble_eq_true rfl) ?_
  have hI' := hI
  have hwf' := hwf
  obtain ⟨cd, x0, x1, x2, mr, dws, dsz, bp, bw, bs, e0, e1, e2, e3, e4, e5, e20, e21, e22, e23, e24, ⟨ws, wm, dm, hid, e6, e7, e8, e9, e10, e11, e12, lws, hws, lwm, ldm, bwm, lhid, hhid, hhd⟩, hk, hki, lcd, hcd, bcd, lmr, ldws, lbp, lbw, hmen⟩ := hI
  obtain ⟨w1, w2, w3, w4, w5, ⟨w6, w7, w8, w9, w10, w11, w12⟩, w13, w14, w15, w16, w17⟩ := hwf
  unfold oAbout
  cases e : rg x 0 (mnO (crO t)).length with
  | none =>
    dsimp only
    have hr := rg_none e
    have hno : ∀ j, j < (mnO (crO t)).length → x ≠ nI j := fun j hj z => by
      rw [z, nI_toInt (by omega)] at hr
      omega
    refine g_aload eX11_about_0 rfl ?_
    refine g_iload eX11_about_1 rfl ?_
    refine g_callVp (r := (RX11, TX11, 10)) eX11_about_2 kX11_118 e0 (by rfl) (c_manOfN hI' hwf' hno) (by rfl) (by rfl) (by exact Nat.le_of_ble_eq_true rfl) (by exact Nat.le_of_ble_eq_true rfl) (by exact Nat.le_of_ble_eq_true rfl) (Nat.le_refl _) (Nat.le_refl _) ?_
    refine g_astoreN eX11_about_5 rfl ?_
    refine g_aloadN eX11_about_6 rfl ?_
    refine g_ifnonnullN eX11_about_7 ?_
    refine g_push eX11_about_10 ?_
    exact g_ret (eX11_about_12 _) (Nat.le_refl _) (Nat.le_refl _) ⟨rfl, rfl⟩
  | some a =>
    dsimp only
    obtain ⟨rfl, -, ha⟩ := rg_some e (by omega)
    have hz : 0 < (shO (crO t)).length := hC.resolve_right (by omega)
    obtain ⟨q, g1, g2, g3⟩ := hmen a ha
    have hkd := (w10 a).1
    have hlt := manM_lt t a (shW ws) w6
    have hmm : manM t a (shW ws) (shO (crO t)).length = altM t a := manM_congr hws
    have hal := c_alteredBy hI' hwf' ha e7 e8 lws w6 hz (shw_eq hws w7)
    have hsc : AMet yX11_manOf cX11_manOf 2 (some (.object "ReadAloud$Man")) 1 0 0 [.ref 0, .int (nI a)] σ (aPu (some (.ref q)) σ) := c_manOf hI' hwf' ha e5 lmr g1
    cases f : rg y 0 8 with
    | none =>
      dsimp only
      have hr := rg_none f
      refine g_aload eX11_about_0 rfl ?_
      refine g_iload eX11_about_1 rfl ?_
      refine g_callVp (r := (RX11, TX11, 10)) eX11_about_2 kX11_118 e0 (by rfl) (hsc) (by rfl) (by rfl) (by exact Nat.le_of_ble_eq_true rfl) (by exact Nat.le_of_ble_eq_true rfl) (by exact Nat.le_of_ble_eq_true rfl) (Nat.le_refl _) (Nat.le_refl _) ?_
      refine g_astore eX11_about_5 rfl ?_
      refine g_aload eX11_about_6 rfl ?_
      refine g_ifnonnull eX11_about_7 ?_
      refine g_iload eX11_about_13 rfl ?_
      refine g_tswOut (tgt := 154) eX11_about_14 (by omega) (by decide) ?_
      refine g_push eX11_about_154 ?_
      exact g_ret (eX11_about_156 _) (Nat.le_refl _) (Nat.le_refl _) ⟨rfl, rfl⟩
    | some w =>
      dsimp only
      obtain ⟨rfl, -, hw8⟩ := rg_some f
      rcases (show w = 0 ∨ w = 1 ∨ w = 2 ∨ w = 3 ∨ w = 4 ∨ w = 5 ∨ w = 6 ∨ w = 7 by omega) with rfl | rfl | rfl | rfl | rfl | rfl | rfl | rfl
      · refine g_aload eX11_about_0 rfl ?_
        refine g_iload eX11_about_1 rfl ?_
        refine g_callVp (r := (RX11, TX11, 10)) eX11_about_2 kX11_118 e0 (by rfl) (hsc) (by rfl) (by rfl) (by exact Nat.le_of_ble_eq_true rfl) (by exact Nat.le_of_ble_eq_true rfl) (by exact Nat.le_of_ble_eq_true rfl) (Nat.le_refl _) (Nat.le_refl _) ?_
        refine g_astore eX11_about_5 rfl ?_
        refine g_aload eX11_about_6 rfl ?_
        refine g_ifnonnull eX11_about_7 ?_
        refine g_iload eX11_about_13 rfl ?_
        refine g_tswIn (off := 46) (tgt := 60) eX11_about_14 (by decide +kernel) (by decide +kernel) (by decide +kernel) (by decide) ?_
        refine g_aload eX11_about_60 rfl ?_
        refine g_kind rfl eX11_about_61 hkd g3 (by exact Nat.le_of_ble_eq_true rfl) (by exact Nat.le_of_ble_eq_true rfl) (Nat.le_refl _) (Nat.le_refl _) ?_
        exact g_ret (eX11_about_64 _) (Nat.le_refl _) (Nat.le_refl _) ⟨rfl, rfl⟩
      · refine g_aload eX11_about_0 rfl ?_
        refine g_iload eX11_about_1 rfl ?_
        refine g_callVp (r := (RX11, TX11, 10)) eX11_about_2 kX11_118 e0 (by rfl) (hsc) (by rfl) (by rfl) (by exact Nat.le_of_ble_eq_true rfl) (by exact Nat.le_of_ble_eq_true rfl) (by exact Nat.le_of_ble_eq_true rfl) (Nat.le_refl _) (Nat.le_refl _) ?_
        refine g_astore eX11_about_5 rfl ?_
        refine g_aload eX11_about_6 rfl ?_
        refine g_ifnonnull eX11_about_7 ?_
        refine g_iload eX11_about_13 rfl ?_
        refine g_tswIn (off := 51) (tgt := 65) eX11_about_14 (by decide +kernel) (by decide +kernel) (by decide +kernel) (by decide) ?_
        refine g_aload eX11_about_65 rfl ?_
        refine g_deed (fs := _) rfl rfl eX11_about_66 hkd g3 (by exact Nat.le_of_ble_eq_true rfl) (by exact Nat.le_of_ble_eq_true rfl) (Nat.le_refl _) (Nat.le_refl _) ?_
        exact g_ret (eX11_about_69 _) (Nat.le_refl _) (Nat.le_refl _) ⟨rfl, rfl⟩
      · refine g_aload eX11_about_0 rfl ?_
        refine g_iload eX11_about_1 rfl ?_
        refine g_callVp (r := (RX11, TX11, 10)) eX11_about_2 kX11_118 e0 (by rfl) (hsc) (by rfl) (by rfl) (by exact Nat.le_of_ble_eq_true rfl) (by exact Nat.le_of_ble_eq_true rfl) (by exact Nat.le_of_ble_eq_true rfl) (Nat.le_refl _) (Nat.le_refl _) ?_
        refine g_astore eX11_about_5 rfl ?_
        refine g_aload eX11_about_6 rfl ?_
        refine g_ifnonnull eX11_about_7 ?_
        refine g_iload eX11_about_13 rfl ?_
        refine g_tswIn (off := 56) (tgt := 70) eX11_about_14 (by decide +kernel) (by decide +kernel) (by decide +kernel) (by decide) ?_
        refine g_aload eX11_about_70 rfl ?_
        refine g_iload eX11_about_71 rfl ?_
        refine g_aload eX11_about_72 rfl ?_
        refine g_get eX11_about_73 fX11_29_X11 e0 (by rfl) ?_
        refine g_get eX11_about_76 fX11_79_X8 e6 (by rfl) ?_
        refine g_callVp (r := (RX11, TX11, 10)) eX11_about_79 kX11_128 e0 (by rfl) (hal) (by rfl) (by rfl) (by exact Nat.le_of_ble_eq_true rfl) (by exact Nat.le_of_ble_eq_true rfl) (by exact Nat.le_of_ble_eq_true rfl) (Nat.le_refl _) (Nat.le_refl _) ?_
        exact g_ret (eX11_about_82 _) (Nat.le_refl _) (Nat.le_refl _) ⟨congrArg (fun x => some (Value.int (nI x))) hmm, rfl⟩
      · refine g_aload eX11_about_0 rfl ?_
        refine g_iload eX11_about_1 rfl ?_
        refine g_callVp (r := (RX11, TX11, 10)) eX11_about_2 kX11_118 e0 (by rfl) (hsc) (by rfl) (by rfl) (by exact Nat.le_of_ble_eq_true rfl) (by exact Nat.le_of_ble_eq_true rfl) (by exact Nat.le_of_ble_eq_true rfl) (Nat.le_refl _) (Nat.le_refl _) ?_
        refine g_astore eX11_about_5 rfl ?_
        refine g_aload eX11_about_6 rfl ?_
        refine g_ifnonnull eX11_about_7 ?_
        refine g_iload eX11_about_13 rfl ?_
        refine g_tswIn (off := 69) (tgt := 83) eX11_about_14 (by decide +kernel) (by decide +kernel) (by decide +kernel) (by decide) ?_
        refine g_aload eX11_about_83 rfl ?_
        refine g_iload eX11_about_84 rfl ?_
        refine g_aload eX11_about_85 rfl ?_
        refine g_get eX11_about_86 fX11_29_X11 e0 (by rfl) ?_
        refine g_get eX11_about_89 fX11_79_X8 e6 (by rfl) ?_
        refine g_callVp (r := (RX11, TX11, 10)) eX11_about_92 kX11_128 e0 (by rfl) (hal) (by rfl) (by rfl) (by exact Nat.le_of_ble_eq_true rfl) (by exact Nat.le_of_ble_eq_true rfl) (by exact Nat.le_of_ble_eq_true rfl) (Nat.le_refl _) (Nat.le_refl _) ?_
        refine g_callSp eX11_about_95 kX11_132 (c_bitCount hlt) (by rfl) (by rfl) (by exact Nat.le_of_ble_eq_true rfl) (by exact Nat.le_of_ble_eq_true rfl) (by exact Nat.le_of_ble_eq_true rfl) (Nat.le_refl _) (Nat.le_refl _) ?_
        exact g_ret (eX11_about_98 _) (Nat.le_refl _) (Nat.le_refl _) ⟨congrArg (fun x => some (Value.int (nI (popc x)))) hmm, rfl⟩
      · refine g_aload eX11_about_0 rfl ?_
        refine g_iload eX11_about_1 rfl ?_
        refine g_callVp (r := (RX11, TX11, 10)) eX11_about_2 kX11_118 e0 (by rfl) (hsc) (by rfl) (by rfl) (by exact Nat.le_of_ble_eq_true rfl) (by exact Nat.le_of_ble_eq_true rfl) (by exact Nat.le_of_ble_eq_true rfl) (Nat.le_refl _) (Nat.le_refl _) ?_
        refine g_astore eX11_about_5 rfl ?_
        refine g_aload eX11_about_6 rfl ?_
        refine g_ifnonnull eX11_about_7 ?_
        refine g_iload eX11_about_13 rfl ?_
        refine g_tswIn (off := 85) (tgt := 99) eX11_about_14 (by decide +kernel) (by decide +kernel) (by decide +kernel) (by decide) ?_
        refine g_aload eX11_about_99 rfl ?_
        refine g_iload eX11_about_100 rfl ?_
        refine g_aload eX11_about_101 rfl ?_
        refine g_get eX11_about_102 fX11_29_X11 e0 (by rfl) ?_
        refine g_get eX11_about_105 fX11_79_X8 e6 (by rfl) ?_
        refine g_callVp (r := (RX11, TX11, 10)) eX11_about_108 kX11_128 e0 (by rfl) (hal) (by rfl) (by rfl) (by exact Nat.le_of_ble_eq_true rfl) (by exact Nat.le_of_ble_eq_true rfl) (by exact Nat.le_of_ble_eq_true rfl) (Nat.le_refl _) (Nat.le_refl _) ?_
        refine g_callSp eX11_about_111 kX11_132 (c_bitCount hlt) (by rfl) (by rfl) (by exact Nat.le_of_ble_eq_true rfl) (by exact Nat.le_of_ble_eq_true rfl) (by exact Nat.le_of_ble_eq_true rfl) (Nat.le_refl _) (Nat.le_refl _) ?_
        refine g_aload eX11_about_114 rfl ?_
        refine g_get eX11_about_115 fX11_29_X11 e0 (by rfl) ?_
        refine g_get eX11_about_118 fX11_103_X8 e6 (by rfl) ?_
        refine g_icmp_ltN eX11_about_121 (Nat.lt_of_le_of_lt (popc_le _) (by decide)) (by omega) (fun c121 => ?_) (fun c121 => ?_)
        · refine g_push eX11_about_128 ?_
          exact g_ret (eX11_about_129 _) (Nat.le_refl _) (Nat.le_refl _) ⟨congrArg (fun x => some (Value.int (nI x))) (by rw [← hmm]; first | rw [decide_eq_true c121]; rfl | rw [decide_eq_false (Nat.not_le.mpr c121)]; rfl), rfl⟩
        · refine g_push eX11_about_124 ?_
          refine g_goto eX11_about_125 ?_
          exact g_ret (eX11_about_129 _) (Nat.le_refl _) (Nat.le_refl _) ⟨congrArg (fun x => some (Value.int (nI x))) (by rw [← hmm]; first | rw [decide_eq_true c121]; rfl | rw [decide_eq_false (Nat.not_le.mpr c121)]; rfl), rfl⟩
      · refine g_aload eX11_about_0 rfl ?_
        refine g_iload eX11_about_1 rfl ?_
        refine g_callVp (r := (RX11, TX11, 10)) eX11_about_2 kX11_118 e0 (by rfl) (hsc) (by rfl) (by rfl) (by exact Nat.le_of_ble_eq_true rfl) (by exact Nat.le_of_ble_eq_true rfl) (by exact Nat.le_of_ble_eq_true rfl) (Nat.le_refl _) (Nat.le_refl _) ?_
        refine g_astore eX11_about_5 rfl ?_
        refine g_aload eX11_about_6 rfl ?_
        refine g_ifnonnull eX11_about_7 ?_
        refine g_iload eX11_about_13 rfl ?_
        refine g_tswIn (off := 116) (tgt := 130) eX11_about_14 (by decide +kernel) (by decide +kernel) (by decide +kernel) (by decide) ?_
        refine g_aload eX11_about_130 rfl ?_
        refine g_iload eX11_about_131 rfl ?_
        refine g_callVp (r := (RX11, TX11, 10)) eX11_about_132 kX11_137 e0 (by rfl) (c_hiddenBy hI' hwf' ha) (by rfl) (by rfl) (by exact Nat.le_of_ble_eq_true rfl) (by exact Nat.le_of_ble_eq_true rfl) (by exact Nat.le_of_ble_eq_true rfl) (Nat.le_refl _) (Nat.le_refl _) ?_
        exact g_ret (eX11_about_135 _) (Nat.le_refl _) (Nat.le_refl _) ⟨rfl, rfl⟩
      · refine g_aload eX11_about_0 rfl ?_
        refine g_iload eX11_about_1 rfl ?_
        refine g_callVp (r := (RX11, TX11, 10)) eX11_about_2 kX11_118 e0 (by rfl) (hsc) (by rfl) (by rfl) (by exact Nat.le_of_ble_eq_true rfl) (by exact Nat.le_of_ble_eq_true rfl) (by exact Nat.le_of_ble_eq_true rfl) (Nat.le_refl _) (Nat.le_refl _) ?_
        refine g_astore eX11_about_5 rfl ?_
        refine g_aload eX11_about_6 rfl ?_
        refine g_ifnonnull eX11_about_7 ?_
        refine g_iload eX11_about_13 rfl ?_
        refine g_tswIn (off := 122) (tgt := 136) eX11_about_14 (by decide +kernel) (by decide +kernel) (by decide +kernel) (by decide) ?_
        refine g_aload eX11_about_136 rfl ?_
        refine g_get eX11_about_137 fX11_29_X11 e0 (by rfl) ?_
        refine g_get eX11_about_140 fX11_140_X8 e6 (by rfl) ?_
        refine g_iload eX11_about_143 rfl ?_
        refine g_callVp (r := (RX3, TX3, 3)) eX11_about_144 kX11_144 e9 (by rfl) (c_deedsLeft e9 e10 e11 lwm ldm w11 bwm (n := a) (by omega)) (by rfl) (by rfl) (by exact Nat.le_of_ble_eq_true rfl) (by exact Nat.le_of_ble_eq_true rfl) (by exact Nat.le_of_ble_eq_true rfl) (Nat.le_refl _) (Nat.le_refl _) ?_
        exact g_ret (eX11_about_147 _) (Nat.le_refl _) (Nat.le_refl _) ⟨congrArg (fun x => some (Value.int (nI x))) (dleft_eq (kd := fun a => (manO (crO t) a).1) a _ hhd), rfl⟩
      · refine g_aload eX11_about_0 rfl ?_
        refine g_iload eX11_about_1 rfl ?_
        refine g_callVp (r := (RX11, TX11, 10)) eX11_about_2 kX11_118 e0 (by rfl) (hsc) (by rfl) (by rfl) (by exact Nat.le_of_ble_eq_true rfl) (by exact Nat.le_of_ble_eq_true rfl) (by exact Nat.le_of_ble_eq_true rfl) (Nat.le_refl _) (Nat.le_refl _) ?_
        refine g_astore eX11_about_5 rfl ?_
        refine g_aload eX11_about_6 rfl ?_
        refine g_ifnonnull eX11_about_7 ?_
        refine g_iload eX11_about_13 rfl ?_
        refine g_tswIn (off := 134) (tgt := 148) eX11_about_14 (by decide +kernel) (by decide +kernel) (by decide +kernel) (by decide) ?_
        refine g_aload eX11_about_148 rfl ?_
        refine g_iload eX11_about_149 rfl ?_
        refine g_callVp (r := (RX11, TX11, 10)) eX11_about_150 kX11_149 e0 (by rfl) (c_placeToListen hI' hwf' ha) (by rfl) (by rfl) (by exact Nat.le_of_ble_eq_true rfl) (by exact Nat.le_of_ble_eq_true rfl) (by exact Nat.le_of_ble_eq_true rfl) (Nat.le_refl _) (Nat.le_refl _) ?_
        exact g_ret (eX11_about_153 _) (Nat.le_refl _) (Nat.le_refl _) ⟨rfl, rfl⟩
set_option maxRecDepth 20000 in
theorem c_isOfKind {σ : aH} {q kind kd : Nat} {fs : List Value} (hk : kind ≤ 4) (hq : σ[q]? = some (aO (ciK kind) fs)) (hkd : kd < 5) : MX11_isOfKind 0 0 0 [.ref q, .int (nI kd)] σ (aPu (some (.int (nI (isK kind kd).toNat))) σ) := by
  refine sX11_isOfKind (Nat.le_of_ble_eq_true rfl) ?_
  rcases (show kd = 0 ∨ kd = 1 ∨ kd = 2 ∨ kd = 3 ∨ kd = 4 by omega) with rfl | rfl | rfl | rfl | rfl
  · refine g_iload eX11_isOfKind_0 rfl ?_
    refine g_tswOut (tgt := 52) eX11_isOfKind_1 (Or.inl (by decide +kernel)) (by decide) ?_
    refine g_aload eX11_isOfKind_52 rfl ?_
    refine g_ifnull eX11_isOfKind_53 ?_
    refine g_push eX11_isOfKind_56 ?_
    refine g_goto eX11_isOfKind_57 ?_
    exact g_ret (eX11_isOfKind_61 _ (Or.inr rfl)) (Nat.le_refl _) (Nat.le_refl _) ⟨rfl, rfl⟩
  · rcases (show kind = 0 ∨ kind = 1 ∨ kind = 2 ∨ kind = 3 ∨ kind = 4 by omega) with rfl | rfl | rfl | rfl | rfl
    · refine g_iload eX11_isOfKind_0 rfl ?_
      refine g_tswIn (off := 31) (tgt := 32) eX11_isOfKind_1 (by decide +kernel) (by decide +kernel) (by decide +kernel) (by decide) ?_
      refine g_aload eX11_isOfKind_32 rfl ?_
      refine g_instN (r := (RX4, TX4, 1)) eX11_isOfKind_33 lX11_226 hq rfl (by decide) ?_
      exact g_ret (eX11_isOfKind_36 _ (Or.inl rfl)) (Nat.le_refl _) (Nat.le_refl _) ⟨rfl, rfl⟩
    · refine g_iload eX11_isOfKind_0 rfl ?_
      refine g_tswIn (off := 31) (tgt := 32) eX11_isOfKind_1 (by decide +kernel) (by decide +kernel) (by decide +kernel) (by decide) ?_
      refine g_aload eX11_isOfKind_32 rfl ?_
      refine g_instS (r := (RX7, TX7, 1)) eX11_isOfKind_33 lX11_226 hq rfl rfl ?_
      exact g_ret (eX11_isOfKind_36 _ (Or.inr rfl)) (Nat.le_refl _) (Nat.le_refl _) ⟨rfl, rfl⟩
    · refine g_iload eX11_isOfKind_0 rfl ?_
      refine g_tswIn (off := 31) (tgt := 32) eX11_isOfKind_1 (by decide +kernel) (by decide +kernel) (by decide +kernel) (by decide) ?_
      refine g_aload eX11_isOfKind_32 rfl ?_
      refine g_instN (r := (RX0, TX0, 1)) eX11_isOfKind_33 lX11_226 hq rfl (by decide) ?_
      exact g_ret (eX11_isOfKind_36 _ (Or.inl rfl)) (Nat.le_refl _) (Nat.le_refl _) ⟨rfl, rfl⟩
    · refine g_iload eX11_isOfKind_0 rfl ?_
      refine g_tswIn (off := 31) (tgt := 32) eX11_isOfKind_1 (by decide +kernel) (by decide +kernel) (by decide +kernel) (by decide) ?_
      refine g_aload eX11_isOfKind_32 rfl ?_
      refine g_instN (r := (RX1, TX1, 1)) eX11_isOfKind_33 lX11_226 hq rfl (by decide) ?_
      exact g_ret (eX11_isOfKind_36 _ (Or.inl rfl)) (Nat.le_refl _) (Nat.le_refl _) ⟨rfl, rfl⟩
    · refine g_iload eX11_isOfKind_0 rfl ?_
      refine g_tswIn (off := 31) (tgt := 32) eX11_isOfKind_1 (by decide +kernel) (by decide +kernel) (by decide +kernel) (by decide) ?_
      refine g_aload eX11_isOfKind_32 rfl ?_
      refine g_instY (r := (RX10, TX10, 1)) eX11_isOfKind_33 lX11_226 hq rfl (by decide) ?_
      exact g_ret (eX11_isOfKind_36 _ (Or.inr rfl)) (Nat.le_refl _) (Nat.le_refl _) ⟨rfl, rfl⟩
  · rcases (show kind = 0 ∨ kind = 1 ∨ kind = 2 ∨ kind = 3 ∨ kind = 4 by omega) with rfl | rfl | rfl | rfl | rfl
    · refine g_iload eX11_isOfKind_0 rfl ?_
      refine g_tswIn (off := 36) (tgt := 37) eX11_isOfKind_1 (by decide +kernel) (by decide +kernel) (by decide +kernel) (by decide) ?_
      refine g_aload eX11_isOfKind_37 rfl ?_
      refine g_instN (r := (RX4, TX4, 1)) eX11_isOfKind_38 lX11_231 hq rfl (by decide) ?_
      exact g_ret (eX11_isOfKind_41 _ (Or.inl rfl)) (Nat.le_refl _) (Nat.le_refl _) ⟨rfl, rfl⟩
    · refine g_iload eX11_isOfKind_0 rfl ?_
      refine g_tswIn (off := 36) (tgt := 37) eX11_isOfKind_1 (by decide +kernel) (by decide +kernel) (by decide +kernel) (by decide) ?_
      refine g_aload eX11_isOfKind_37 rfl ?_
      refine g_instN (r := (RX7, TX7, 1)) eX11_isOfKind_38 lX11_231 hq rfl (by decide) ?_
      exact g_ret (eX11_isOfKind_41 _ (Or.inl rfl)) (Nat.le_refl _) (Nat.le_refl _) ⟨rfl, rfl⟩
    · refine g_iload eX11_isOfKind_0 rfl ?_
      refine g_tswIn (off := 36) (tgt := 37) eX11_isOfKind_1 (by decide +kernel) (by decide +kernel) (by decide +kernel) (by decide) ?_
      refine g_aload eX11_isOfKind_37 rfl ?_
      refine g_instS (r := (RX0, TX0, 1)) eX11_isOfKind_38 lX11_231 hq rfl rfl ?_
      exact g_ret (eX11_isOfKind_41 _ (Or.inr rfl)) (Nat.le_refl _) (Nat.le_refl _) ⟨rfl, rfl⟩
    · refine g_iload eX11_isOfKind_0 rfl ?_
      refine g_tswIn (off := 36) (tgt := 37) eX11_isOfKind_1 (by decide +kernel) (by decide +kernel) (by decide +kernel) (by decide) ?_
      refine g_aload eX11_isOfKind_37 rfl ?_
      refine g_instN (r := (RX1, TX1, 1)) eX11_isOfKind_38 lX11_231 hq rfl (by decide) ?_
      exact g_ret (eX11_isOfKind_41 _ (Or.inl rfl)) (Nat.le_refl _) (Nat.le_refl _) ⟨rfl, rfl⟩
    · refine g_iload eX11_isOfKind_0 rfl ?_
      refine g_tswIn (off := 36) (tgt := 37) eX11_isOfKind_1 (by decide +kernel) (by decide +kernel) (by decide +kernel) (by decide) ?_
      refine g_aload eX11_isOfKind_37 rfl ?_
      refine g_instN (r := (RX10, TX10, 1)) eX11_isOfKind_38 lX11_231 hq rfl (by decide) ?_
      exact g_ret (eX11_isOfKind_41 _ (Or.inl rfl)) (Nat.le_refl _) (Nat.le_refl _) ⟨rfl, rfl⟩
  · rcases (show kind = 0 ∨ kind = 1 ∨ kind = 2 ∨ kind = 3 ∨ kind = 4 by omega) with rfl | rfl | rfl | rfl | rfl
    · refine g_iload eX11_isOfKind_0 rfl ?_
      refine g_tswIn (off := 41) (tgt := 42) eX11_isOfKind_1 (by decide +kernel) (by decide +kernel) (by decide +kernel) (by decide) ?_
      refine g_aload eX11_isOfKind_42 rfl ?_
      refine g_instN (r := (RX4, TX4, 1)) eX11_isOfKind_43 lX11_234 hq rfl (by decide) ?_
      exact g_ret (eX11_isOfKind_46 _ (Or.inl rfl)) (Nat.le_refl _) (Nat.le_refl _) ⟨rfl, rfl⟩
    · refine g_iload eX11_isOfKind_0 rfl ?_
      refine g_tswIn (off := 41) (tgt := 42) eX11_isOfKind_1 (by decide +kernel) (by decide +kernel) (by decide +kernel) (by decide) ?_
      refine g_aload eX11_isOfKind_42 rfl ?_
      refine g_instN (r := (RX7, TX7, 1)) eX11_isOfKind_43 lX11_234 hq rfl (by decide) ?_
      exact g_ret (eX11_isOfKind_46 _ (Or.inl rfl)) (Nat.le_refl _) (Nat.le_refl _) ⟨rfl, rfl⟩
    · refine g_iload eX11_isOfKind_0 rfl ?_
      refine g_tswIn (off := 41) (tgt := 42) eX11_isOfKind_1 (by decide +kernel) (by decide +kernel) (by decide +kernel) (by decide) ?_
      refine g_aload eX11_isOfKind_42 rfl ?_
      refine g_instN (r := (RX0, TX0, 1)) eX11_isOfKind_43 lX11_234 hq rfl (by decide) ?_
      exact g_ret (eX11_isOfKind_46 _ (Or.inl rfl)) (Nat.le_refl _) (Nat.le_refl _) ⟨rfl, rfl⟩
    · refine g_iload eX11_isOfKind_0 rfl ?_
      refine g_tswIn (off := 41) (tgt := 42) eX11_isOfKind_1 (by decide +kernel) (by decide +kernel) (by decide +kernel) (by decide) ?_
      refine g_aload eX11_isOfKind_42 rfl ?_
      refine g_instS (r := (RX1, TX1, 1)) eX11_isOfKind_43 lX11_234 hq rfl rfl ?_
      exact g_ret (eX11_isOfKind_46 _ (Or.inr rfl)) (Nat.le_refl _) (Nat.le_refl _) ⟨rfl, rfl⟩
    · refine g_iload eX11_isOfKind_0 rfl ?_
      refine g_tswIn (off := 41) (tgt := 42) eX11_isOfKind_1 (by decide +kernel) (by decide +kernel) (by decide +kernel) (by decide) ?_
      refine g_aload eX11_isOfKind_42 rfl ?_
      refine g_instN (r := (RX10, TX10, 1)) eX11_isOfKind_43 lX11_234 hq rfl (by decide) ?_
      exact g_ret (eX11_isOfKind_46 _ (Or.inl rfl)) (Nat.le_refl _) (Nat.le_refl _) ⟨rfl, rfl⟩
  · rcases (show kind = 0 ∨ kind = 1 ∨ kind = 2 ∨ kind = 3 ∨ kind = 4 by omega) with rfl | rfl | rfl | rfl | rfl
    · refine g_iload eX11_isOfKind_0 rfl ?_
      refine g_tswIn (off := 46) (tgt := 47) eX11_isOfKind_1 (by decide +kernel) (by decide +kernel) (by decide +kernel) (by decide) ?_
      refine g_aload eX11_isOfKind_47 rfl ?_
      refine g_instN (r := (RX4, TX4, 1)) eX11_isOfKind_48 lX11_237 hq rfl (by decide) ?_
      exact g_ret (eX11_isOfKind_51 _ (Or.inl rfl)) (Nat.le_refl _) (Nat.le_refl _) ⟨rfl, rfl⟩
    · refine g_iload eX11_isOfKind_0 rfl ?_
      refine g_tswIn (off := 46) (tgt := 47) eX11_isOfKind_1 (by decide +kernel) (by decide +kernel) (by decide +kernel) (by decide) ?_
      refine g_aload eX11_isOfKind_47 rfl ?_
      refine g_instN (r := (RX7, TX7, 1)) eX11_isOfKind_48 lX11_237 hq rfl (by decide) ?_
      exact g_ret (eX11_isOfKind_51 _ (Or.inl rfl)) (Nat.le_refl _) (Nat.le_refl _) ⟨rfl, rfl⟩
    · refine g_iload eX11_isOfKind_0 rfl ?_
      refine g_tswIn (off := 46) (tgt := 47) eX11_isOfKind_1 (by decide +kernel) (by decide +kernel) (by decide +kernel) (by decide) ?_
      refine g_aload eX11_isOfKind_47 rfl ?_
      refine g_instN (r := (RX0, TX0, 1)) eX11_isOfKind_48 lX11_237 hq rfl (by decide) ?_
      exact g_ret (eX11_isOfKind_51 _ (Or.inl rfl)) (Nat.le_refl _) (Nat.le_refl _) ⟨rfl, rfl⟩
    · refine g_iload eX11_isOfKind_0 rfl ?_
      refine g_tswIn (off := 46) (tgt := 47) eX11_isOfKind_1 (by decide +kernel) (by decide +kernel) (by decide +kernel) (by decide) ?_
      refine g_aload eX11_isOfKind_47 rfl ?_
      refine g_instN (r := (RX1, TX1, 1)) eX11_isOfKind_48 lX11_237 hq rfl (by decide) ?_
      exact g_ret (eX11_isOfKind_51 _ (Or.inl rfl)) (Nat.le_refl _) (Nat.le_refl _) ⟨rfl, rfl⟩
    · refine g_iload eX11_isOfKind_0 rfl ?_
      refine g_tswIn (off := 46) (tgt := 47) eX11_isOfKind_1 (by decide +kernel) (by decide +kernel) (by decide +kernel) (by decide) ?_
      refine g_aload eX11_isOfKind_47 rfl ?_
      refine g_instS (r := (RX10, TX10, 1)) eX11_isOfKind_48 lX11_237 hq rfl rfl ?_
      exact g_ret (eX11_isOfKind_51 _ (Or.inr rfl)) (Nat.le_refl _) (Nat.le_refl _) ⟨rfl, rfl⟩
theorem bb_0 {b : Bool} (h : b.toNat = 0) : b = false := by cases b <;> first | rfl | cases h
theorem bb_1 {b : Bool} (h : ¬ b.toNat = 0) : b = true := by cases b <;> first | rfl | exact absurd rfl h
set_option maxRecDepth 20000 in
theorem x_as {σ : aH} {t : St} (hI : IX t σ) (hwf : WF t) {x y : Int32} : MX11_as 2 0 0 [.ref 0, .int x, .int y] σ (aPu (some (.int (oAs t x y))) σ) := by
  refine sX11_as (Nat.le_of_ble_eq_true rfl) ?_
  have hI' := hI
  have hwf' := hwf
  obtain ⟨cd, x0, x1, x2, mr, dws, dsz, bp, bw, bs, e0, e1, e2, e3, e4, e5, e20, e21, e22, e23, e24, ⟨ws, wm, dm, hid, e6, e7, e8, e9, e10, e11, e12, lws, hws, lwm, ldm, bwm, lhid, hhid, hhd⟩, hk, hki, lcd, hcd, bcd, lmr, ldws, lbp, lbw, hmen⟩ := hI
  obtain ⟨w1, w2, w3, w4, w5, ⟨w6, w7, w8, w9, w10, w11, w12⟩, w13, w14, w15, w16, w17⟩ := hwf
  unfold oAs
  cases e : rg x 0 (mnO (crO t)).length with
  | none =>
    dsimp only
    have hr := rg_none e
    have hno : ∀ j, j < (mnO (crO t)).length → x ≠ nI j := fun j hj z => by
      rw [z, nI_toInt (by omega)] at hr
      omega
    refine g_aload eX11_as_0 rfl ?_
    refine g_iload eX11_as_1 rfl ?_
    refine g_callVp (r := (RX11, TX11, 10)) eX11_as_2 kX11_118 e0 (by rfl) (c_manOfN hI' hwf' hno) (by rfl) (by rfl) (by exact Nat.le_of_ble_eq_true rfl) (by exact Nat.le_of_ble_eq_true rfl) (by exact Nat.le_of_ble_eq_true rfl) (Nat.le_refl _) (Nat.le_refl _) ?_
    refine g_astoreN eX11_as_5 rfl ?_
    refine g_aloadN eX11_as_6 rfl ?_
    refine g_ifnonnullN eX11_as_7 ?_
    refine g_push eX11_as_10 ?_
    exact g_ret (eX11_as_12 _) (Nat.le_refl _) (Nat.le_refl _) ⟨rfl, rfl⟩
  | some a =>
    dsimp only
    obtain ⟨rfl, -, ha⟩ := rg_some e (by omega)
    obtain ⟨q, g1, g2, g3⟩ := hmen a ha
    have hkd := (w10 a).1
    cases f : rg y 0 5 with
    | none =>
      dsimp only
      have hr := rg_none f
      refine g_aload eX11_as_0 rfl ?_
      refine g_iload eX11_as_1 rfl ?_
      refine g_callVp (r := (RX11, TX11, 10)) eX11_as_2 kX11_118 e0 (by rfl) (c_manOf hI' hwf' ha e5 lmr g1) (by rfl) (by rfl) (by exact Nat.le_of_ble_eq_true rfl) (by exact Nat.le_of_ble_eq_true rfl) (by exact Nat.le_of_ble_eq_true rfl) (Nat.le_refl _) (Nat.le_refl _) ?_
      refine g_astore eX11_as_5 rfl ?_
      refine g_aload eX11_as_6 rfl ?_
      refine g_ifnonnull eX11_as_7 ?_
      refine g_iload eX11_as_13 rfl ?_
      refine g_callSp eX11_as_14 kX11_106 (c_isKindN hr) (by rfl) (by rfl) (by exact Nat.le_of_ble_eq_true rfl) (by exact Nat.le_of_ble_eq_true rfl) (by exact Nat.le_of_ble_eq_true rfl) (Nat.le_refl _) (Nat.le_refl _) ?_
      refine g_if_neN eX11_as_17 (by omega) (fun c17 => absurd rfl c17) (fun c17 => ?_)
      refine g_push eX11_as_20 ?_
      exact g_ret (eX11_as_22 _) (Nat.le_refl _) (Nat.le_refl _) ⟨rfl, rfl⟩
    | some w =>
      dsimp only
      obtain ⟨rfl, -, hw8⟩ := rg_some f
      refine g_aload eX11_as_0 rfl ?_
      refine g_iload eX11_as_1 rfl ?_
      refine g_callVp (r := (RX11, TX11, 10)) eX11_as_2 kX11_118 e0 (by rfl) (c_manOf hI' hwf' ha e5 lmr g1) (by rfl) (by rfl) (by exact Nat.le_of_ble_eq_true rfl) (by exact Nat.le_of_ble_eq_true rfl) (by exact Nat.le_of_ble_eq_true rfl) (Nat.le_refl _) (Nat.le_refl _) ?_
      refine g_astore eX11_as_5 rfl ?_
      refine g_aload eX11_as_6 rfl ?_
      refine g_ifnonnull eX11_as_7 ?_
      refine g_iload eX11_as_13 rfl ?_
      refine g_callSp eX11_as_14 kX11_106 (c_isKindT hw8) (by rfl) (by rfl) (by exact Nat.le_of_ble_eq_true rfl) (by exact Nat.le_of_ble_eq_true rfl) (by exact Nat.le_of_ble_eq_true rfl) (Nat.le_refl _) (Nat.le_refl _) ?_
      refine g_if_neN eX11_as_17 (by omega) (fun c17 => ?_) (fun c17 => absurd c17 (by decide))
      refine g_aload eX11_as_23 rfl ?_
      refine g_iload eX11_as_24 rfl ?_
      refine g_callSp eX11_as_25 kX11_152 (c_isOfKind hkd g3 hw8) (by rfl) (by rfl) (by exact Nat.le_of_ble_eq_true rfl) (by exact Nat.le_of_ble_eq_true rfl) (by exact Nat.le_of_ble_eq_true rfl) (Nat.le_refl _) (Nat.le_refl _) ?_
      refine g_if_eqN eX11_as_28 (bt_lt _) (fun c28 => ?_) (fun c28 => ?_)
      · have hno := bb_0 c28
        refine g_push eX11_as_35 ?_
        exact g_ret (eX11_as_36 _) (Nat.le_refl _) (Nat.le_refl _) ⟨by first | rw [if_pos hyes] | (rw [if_neg (by rw [hno]; decide)]), rfl⟩
      · have hyes := bb_1 c28
        refine g_iload eX11_as_31 rfl ?_
        refine g_goto eX11_as_32 ?_
        exact g_ret (eX11_as_36 _) (Nat.le_refl _) (Nat.le_refl _) ⟨by first | rw [if_pos hyes] | (rw [if_neg (by rw [hno]; decide)]), rfl⟩
