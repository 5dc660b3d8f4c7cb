/-! the law's own act: does -/
set_option maxRecDepth 20000 in
theorem l_does {t : St} {σ : aH} (h : LI t σ) (hmen : 0 < (mnO (crO t)).length) {x : Int32} : ML_does 7 1 1 [.ref 0, .ref 26, .int x] σ pAct := by
  have h' := h
  obtain ⟨hI, hwf, hC, h28, e25, ds, e26, hD⟩ := h
  have hD' := hD
  obtain ⟨⟨d1, d2, d3, d4, d5⟩, d6, d7⟩ := hD
  obtain ⟨fs, e0⟩ := hI.e0
  have h10 := hwf.ten
  have h4 := hwf.four
  have hlm := hwf.lm
  have hln := hwf.len hC
  refine sL_does (Nat.le_of_ble_eq_true rfl) ?_
  refine g_iload eL_does_0 rfl ?_
  refine g_push eL_does_1 ?_
  refine g_callSp eL_does_3 kL_14 (l_at (x := x) (n := 12) (by decide) (by decide)) (by rfl) (by rfl) (by exact Nat.le_of_ble_eq_true rfl) (by exact Nat.le_of_ble_eq_true rfl) (by exact Nat.le_of_ble_eq_true rfl) (by omega) (by omega) ?_
  have hsort := atN_lt x (n := 12) (by decide)
  generalize atN x 12 = so at hsort ⊢
  refine g_istore eL_does_6 rfl ?_
  refine g_iload eL_does_7 rfl ?_
  refine g_push eL_does_8 ?_
  refine g_icmp_ltN eL_does_9 (by omega) (by omega) (fun c9 => ?_) (fun c9 => ?_)
  · refine g_iload eL_does_25 rfl ?_
    refine g_push eL_does_26 ?_
    refine g_ishr eL_does_27 ?_
    refine g_aload eL_does_28 rfl ?_
    refine g_push eL_does_29 ?_
    refine g_ialdN eL_does_30 e26 (by omega) (by omega) ?_
    rw [d2]
    refine g_callSp eL_does_31 kL_14 (l_at (x := (x >>> (nI 4 &&& 31))) (n := (shO (crO t)).length) hln (by omega)) (by rfl) (by rfl) (by exact Nat.le_of_ble_eq_true rfl) (by exact Nat.le_of_ble_eq_true rfl) (by exact Nat.le_of_ble_eq_true rfl) (by omega) (by omega) ?_
    have hk := atN_lt (x >>> (nI 4 &&& 31)) (n := (shO (crO t)).length) hln
    generalize atN (x >>> (nI 4 &&& 31)) ((shO (crO t)).length) = k at hk ⊢
    refine g_istore eL_does_34 rfl ?_
    refine g_aload eL_does_36 rfl ?_
    refine g_push eL_does_37 ?_
    refine g_iload eL_does_38 rfl ?_
    refine g_iaddN eL_does_40 ?_
    refine g_ialdN eL_does_41 e26 (by omega) (by omega) ?_
    refine g_istore eL_does_42 rfl ?_
    refine g_aload eL_does_44 rfl ?_
    refine g_push eL_does_45 ?_
    refine g_iload eL_does_46 rfl ?_
    refine g_iaddN eL_does_48 ?_
    refine g_iload eL_does_49 rfl ?_
    refine g_push eL_does_50 ?_
    refine g_ishr eL_does_52 ?_
    refine g_push eL_does_53 ?_
    refine g_callSp eL_does_55 kL_14 (l_at (x := (x >>> (nI 8 &&& 31))) (n := 8) (by decide) (by omega)) (by rfl) (by rfl) (by exact Nat.le_of_ble_eq_true rfl) (by exact Nat.le_of_ble_eq_true rfl) (by exact Nat.le_of_ble_eq_true rfl) (by omega) (by omega) ?_
    have hw := atN_lt (x >>> (nI 8 &&& 31)) (n := 8) (by decide)
    generalize atN (x >>> (nI 8 &&& 31)) (8) = w at hw ⊢
    refine g_iastN eL_does_58 e26 (by omega) (by omega) ?_
    refine g_aload eL_does_59 rfl ?_
    refine g_push eL_does_60 ?_
    refine g_dup2 eL_does_62 rfl rfl ?_
    refine g_ialdN eL_does_63 (at_eq e26) (by simp only [List.length_set]; omega) (by simp only [List.length_set]; omega) ?_
    refine g_push eL_does_64 ?_
    refine g_iaddN eL_does_65 ?_
    refine g_iastN eL_does_66 (at_eq e26) (by simp only [List.length_set]; omega) (by simp only [List.length_set]; omega) ?_
    refine g_aload eL_does_67 rfl ?_
    refine g_iload eL_does_68 rfl ?_
    refine g_aload eL_does_70 rfl ?_
    refine g_push eL_does_71 ?_
    refine g_iload eL_does_72 rfl ?_
    refine g_iaddN eL_does_74 ?_
    refine g_ialdN eL_does_75 (at_eq (at_eq e26)) (by simp only [List.length_set]; omega) (by simp only [List.length_set]; omega) ?_
    have d6k : ds.getD (1 + k) 0 = (shO (crO t)).getD k 0 := d6 k hk
    have hw2 : ((ds.set (1 + k) w).set 25 ((ds.set (1 + k) w).getD 25 0 + 1)).getD (1 + k) 0 = w := by rw [getD_setI (by rw [List.length_set]; omega), if_neg (by omega), getD_setI (by omega), if_pos rfl]
    rw [hw2]
    refine g_callV0 (r := (RX11, TX11, 10)) eL_does_76 kL_54 (at_ne (by decide) (at_ne (by decide) e0)) (by rfl) (x_put ((hI.st (by decide) (by omega)).st (by decide) (by omega)) hwf (x := nI k) (y := nI w)) (by rfl) (by rfl) (by exact Nat.le_of_ble_eq_true rfl) (by exact Nat.le_of_ble_eq_true rfl) (by exact Nat.le_of_ble_eq_true rfl) (by omega) (by omega) (fun v76 σ76 hp76 hn76 => ?_)
    rw [oPut_eq h10 hk hw] at hp76
    obtain ⟨rfl, hI2, hF⟩ := hp76
    refine g_iload eL_does_79 rfl ?_
    refine g_icmp_ne eL_does_81 (fun c81 => absurd (by rw [d6k]) c81) (fun c81 => ?_)
    refine g_push eL_does_84 ?_
    refine g_goto eL_does_85 ?_
    exact g_ret (eL_does_89 _ (Or.inr rfl)) (by omega) (by omega) ⟨rfl, _, LI.mk (t := t) hI2 hF (by have := WF_put hwf (nI k) (nI w); rw [oPut_eq h10 hk hw] at this; exact this) hC rfl (by simp only [List.length_set]; exact h28) (at_ne (by decide) (at_ne (by decide) e25)) (at_eq (at_eq e26)) (DX_put hD' h10 h4 hk rfl), hmen⟩
  · refine g_aload eL_does_12 rfl ?_
    refine g_push eL_does_13 ?_
    refine g_ialdN eL_does_15 e26 (by omega) (by omega) ?_
    refine g_if_neN eL_does_16 (by omega) (fun c16 => ?_) (fun c16 => by exfalso; omega)
    refine g_iload eL_does_90 rfl ?_
    refine g_push eL_does_91 ?_
    refine g_icmp_neN eL_does_92 (by omega) (by omega) (fun c92 => ?_) (fun c92 => ?_)
    · refine g_iload eL_does_157 rfl ?_
      refine g_push eL_does_158 ?_
      refine g_icmp_neN eL_does_160 (by omega) (by omega) (fun c160 => ?_) (fun c160 => ?_)
      · refine g_iload eL_does_184 rfl ?_
        refine g_push eL_does_185 ?_
        refine g_ishr eL_does_186 ?_
        refine g_aload eL_does_187 rfl ?_
        refine g_push eL_does_188 ?_
        refine g_ialdN eL_does_190 e26 (by omega) (by omega) ?_
        rw [d4]
        refine g_callSp eL_does_191 kL_14 (l_at (x := (x >>> (nI 4 &&& 31))) (n := (mnO (crO t)).length) hmen (by omega)) (by rfl) (by rfl) (by exact Nat.le_of_ble_eq_true rfl) (by exact Nat.le_of_ble_eq_true rfl) (by exact Nat.le_of_ble_eq_true rfl) (by omega) (by omega) ?_
        have ha := atN_lt (x >>> (nI 4 &&& 31)) (n := (mnO (crO t)).length) hmen
        generalize atN (x >>> (nI 4 &&& 31)) ((mnO (crO t)).length) = a at ha ⊢
        obtain ⟨f1, f2, f3⟩ := d5 a ha
        obtain ⟨m1, m2, m3⟩ := hwf.mn a
        refine g_istore eL_does_194 rfl ?_
        refine g_iload eL_does_196 rfl ?_
        refine g_push eL_does_197 ?_
        refine g_icmp_geN eL_does_199 (by omega) (by omega) (fun c199 => ?_) (fun c199 => ?_)
        · refine g_aload eL_does_296 rfl ?_
          refine g_push eL_does_297 ?_
          refine g_iload eL_does_299 rfl ?_
          refine g_iaddN eL_does_301 ?_
          refine g_ialdN eL_does_302 e26 (by omega) (by omega) ?_
          rw [f3]
          refine g_callSp eL_does_303 kL_45 (l_size (m := (manO (crO t) a).2.2) (by omega)) (by rfl) (by rfl) (by exact Nat.le_of_ble_eq_true rfl) (by exact Nat.le_of_ble_eq_true rfl) (by exact Nat.le_of_ble_eq_true rfl) (by omega) (by omega) ?_
          refine g_istore eL_does_306 rfl ?_
          refine g_aload eL_does_308 rfl ?_
          refine g_push eL_does_309 ?_
          refine g_iload eL_does_311 rfl ?_
          refine g_iaddN eL_does_313 ?_
          refine g_push eL_does_314 ?_
          refine g_iastN eL_does_315 e26 (by omega) (by omega) ?_
          refine g_aload eL_does_316 rfl ?_
          refine g_push eL_does_317 ?_
          refine g_dup2 eL_does_319 rfl rfl ?_
          refine g_ialdN eL_does_320 (at_eq e26) (by simp only [List.length_set]; omega) (by simp only [List.length_set]; omega) ?_
          refine g_push eL_does_321 ?_
          refine g_iaddN eL_does_322 ?_
          refine g_iastN eL_does_323 (at_eq e26) (by simp only [List.length_set]; omega) (by simp only [List.length_set]; omega) ?_
          refine g_aload eL_does_324 rfl ?_
          refine g_iload eL_does_325 rfl ?_
          refine g_callV0 (r := (RX11, TX11, 10)) eL_does_327 kL_67 (at_ne (by decide) (at_ne (by decide) e0)) (by rfl) (x_unlearn ((hI.st (by decide) (by omega)).st (by decide) (by omega)) hwf (x := nI a)) (by rfl) (by rfl) (by exact Nat.le_of_ble_eq_true rfl) (by exact Nat.le_of_ble_eq_true rfl) (by exact Nat.le_of_ble_eq_true rfl) (by omega) (by omega) (fun v327 σ327 hp327 hn327 => ?_)
          rw [oUnlearn_eq h4 ha] at hp327
          obtain ⟨rfl, hI2, hF⟩ := hp327
          refine g_iload eL_does_330 rfl ?_
          refine g_icmp_ne eL_does_332 (fun c332 => absurd rfl c332) (fun c332 => ?_)
          refine g_push eL_does_335 ?_
          refine g_goto eL_does_336 ?_
          exact g_ret (eL_does_340 _ (Or.inr rfl)) (by omega) (by omega) ⟨rfl, _, LI.mk (t := t) hI2 hF (by have := WF_unlearn hwf (nI a); rw [oUnlearn_eq h4 ha] at this; exact this) hC rfl (by simp only [List.length_set]; exact h28) (at_ne (by decide) (at_ne (by decide) e25)) (at_eq (at_eq e26)) (DX_hide hD' h10 h4 ha rfl), by show 0 < ((mnO (crO t)).set _ _).length; rw [List.length_set]; exact hmen⟩
        · refine g_iload eL_does_202 rfl ?_
          refine g_push eL_does_203 ?_
          refine g_ishr eL_does_205 ?_
          refine g_push eL_does_206 ?_
          refine g_callSp eL_does_208 kL_14 (l_at (x := (x >>> (nI 8 &&& 31))) (n := 8) (by decide) (by omega)) (by rfl) (by rfl) (by exact Nat.le_of_ble_eq_true rfl) (by exact Nat.le_of_ble_eq_true rfl) (by exact Nat.le_of_ble_eq_true rfl) (by omega) (by omega) ?_
          have hw := atN_lt (x >>> (nI 8 &&& 31)) (n := 8) (by decide)
          generalize atN (x >>> (nI 8 &&& 31)) (8) = w at hw ⊢
          refine g_istore eL_does_211 rfl ?_
          refine g_aload eL_does_213 rfl ?_
          refine g_push eL_does_214 ?_
          refine g_iload eL_does_216 rfl ?_
          refine g_iaddN eL_does_218 ?_
          refine g_ialdN eL_does_219 e26 (by omega) (by omega) ?_
          rw [f3]
          refine g_iload eL_does_220 rfl ?_
          refine g_callSp eL_does_222 kL_18 (l_in (m := (manO (crO t) a).2.2) (k := w) (by omega) (by omega)) (by rfl) (by rfl) (by exact Nat.le_of_ble_eq_true rfl) (by exact Nat.le_of_ble_eq_true rfl) (by exact Nat.le_of_ble_eq_true rfl) (by omega) (by omega) ?_
          refine g_if_eqN eL_does_225 (bt_lt _) (fun c225 => ?_) (fun c225 => ?_)
          · have c225 := bl_0 c225
            refine g_aload eL_does_247 rfl ?_
            refine g_push eL_does_248 ?_
            refine g_iload eL_does_250 rfl ?_
            refine g_iaddN eL_does_252 ?_
            refine g_dup2 eL_does_253 rfl rfl ?_
            refine g_ialdN eL_does_254 e26 (by omega) (by omega) ?_
            rw [f3]
            refine g_push eL_does_255 ?_
            refine g_iload eL_does_256 rfl ?_
            refine g_ishlN eL_does_258 (by omega) (one_shl _ (by omega)) ?_
            rw [Nat.one_mul]
            refine g_iorN eL_does_259 ?_
            refine g_iastN eL_does_260 e26 (by omega) (by omega) ?_
            refine g_aload eL_does_261 rfl ?_
            refine g_push eL_does_262 ?_
            refine g_dup2 eL_does_264 rfl rfl ?_
            refine g_ialdN eL_does_265 (at_eq e26) (by simp only [List.length_set]; omega) (by simp only [List.length_set]; omega) ?_
            refine g_push eL_does_266 ?_
            refine g_iaddN eL_does_267 ?_
            refine g_iastN eL_does_268 (at_eq e26) (by simp only [List.length_set]; omega) (by simp only [List.length_set]; omega) ?_
            refine g_aload eL_does_269 rfl ?_
            refine g_iload eL_does_270 rfl ?_
            refine g_iload eL_does_272 rfl ?_
            refine g_callV0 (r := (RX11, TX11, 10)) eL_does_274 kL_64 (at_ne (by decide) (at_ne (by decide) e0)) (by rfl) (x_lesson ((hI.st (by decide) (by omega)).st (by decide) (by omega)) hwf (x := nI a) (y := nI w)) (by rfl) (by rfl) (by exact Nat.le_of_ble_eq_true rfl) (by exact Nat.le_of_ble_eq_true rfl) (by exact Nat.le_of_ble_eq_true rfl) (by omega) (by omega) (fun v274 σ274 hp274 hn274 => ?_)
            rw [oLesson_eq h4 ha hw c225] at hp274
            obtain ⟨rfl, hI2, hF⟩ := hp274
            refine g_aload eL_does_277 rfl ?_
            refine g_push eL_does_278 ?_
            refine g_iload eL_does_280 rfl ?_
            refine g_iaddN eL_does_282 ?_
            refine g_ialdN eL_does_283 (hF.at (by decide) (at_eq (at_eq e26))) (by simp only [List.length_set]; omega) (by simp only [List.length_set]; omega) ?_
            have hw2 : ((ds.set (21 + a) ((manO (crO t) a).2.2 ||| 2 ^ w)).set 25 ((ds.set (21 + a) ((manO (crO t) a).2.2 ||| 2 ^ w)).getD 25 0 + 1)).getD (21 + a) 0 = ((manO (crO t) a).2.2 ||| 2 ^ w) := by rw [getD_setI (by rw [List.length_set]; omega), if_neg (by omega), getD_setI (by omega), if_pos rfl]
            rw [hw2]
            refine g_callSp eL_does_284 kL_45 (l_size (m := ((manO (crO t) a).2.2 ||| 2 ^ w)) (Nat.lt_trans (Nat.or_lt_two_pow (n := 8) m3 (pow_lt8 hw)) (by decide))) (by rfl) (by rfl) (by exact Nat.le_of_ble_eq_true rfl) (by exact Nat.le_of_ble_eq_true rfl) (by exact Nat.le_of_ble_eq_true rfl) (by omega) (by omega) ?_
            refine g_icmp_ne eL_does_287 (fun c287 => absurd rfl c287) (fun c287 => ?_)
            refine g_push eL_does_290 ?_
            refine g_goto eL_does_291 ?_
            exact g_ret (eL_does_295 _ (Or.inr rfl)) (by omega) (by omega) ⟨rfl, _, LI.mk (t := t) hI2 hF (by have := WF_lesson hwf (nI a) (nI w); rw [oLesson_eq h4 ha hw c225] at this; exact this) hC rfl (by simp only [List.length_set]; exact h28) (at_ne (by decide) (at_ne (by decide) e25)) (at_eq (at_eq e26)) (DX_hide hD' h10 h4 ha rfl), by show 0 < ((mnO (crO t)).set _ _).length; rw [List.length_set]; exact hmen⟩
          · have c225 := bl_1 c225
            refine g_aload eL_does_228 rfl ?_
            refine g_iload eL_does_229 rfl ?_
            refine g_iload eL_does_231 rfl ?_
            refine g_callV0 (r := (RX11, TX11, 10)) eL_does_233 kL_64 e0 (by rfl) (x_lesson hI hwf (x := nI a) (y := nI w)) (by rfl) (by rfl) (by exact Nat.le_of_ble_eq_true rfl) (by exact Nat.le_of_ble_eq_true rfl) (by exact Nat.le_of_ble_eq_true rfl) (by omega) (by omega) (fun v233 σ233 hp233 hn233 => ?_)
            rw [oLesson_no h4 ha hw c225] at hp233
            obtain ⟨rfl, hI2, hF⟩ := hp233
            refine g_push eL_does_236 ?_
            refine g_icmp_ne eL_does_238 (fun c238 => absurd rfl c238) (fun c238 => ?_)
            refine g_push eL_does_241 ?_
            refine g_goto eL_does_242 ?_
            exact g_ret (eL_does_246 _ (Or.inr rfl)) (by omega) (by omega) ⟨rfl, t, LI.mk hI2 hF hwf hC rfl h28 e25 e26 hD', hmen⟩
      · refine g_aload eL_does_163 rfl ?_
        refine g_aload eL_does_164 rfl ?_
        refine g_iload eL_does_165 rfl ?_
        refine g_push eL_does_166 ?_
        refine g_ishr eL_does_167 ?_
        refine g_push eL_does_168 ?_
        refine g_callSp eL_does_169 kL_14 (l_at (x := (x >>> (nI 4 &&& 31))) (n := 5) (by decide) (by omega)) (by rfl) (by rfl) (by exact Nat.le_of_ble_eq_true rfl) (by exact Nat.le_of_ble_eq_true rfl) (by exact Nat.le_of_ble_eq_true rfl) (by omega) (by omega) ?_
        have hkd := atN_lt (x >>> (nI 4 &&& 31)) (n := 5) (by decide)
        generalize atN (x >>> (nI 4 &&& 31)) (5) = kd at hkd ⊢
        refine g_iload eL_does_172 rfl ?_
        refine g_push eL_does_173 ?_
        refine g_ishr eL_does_175 ?_
        refine g_push eL_does_176 ?_
        refine g_callSp eL_does_177 kL_14 (l_at (x := (x >>> (nI 8 &&& 31))) (n := 5) (by decide) (by omega)) (by rfl) (by rfl) (by exact Nat.le_of_ble_eq_true rfl) (by exact Nat.le_of_ble_eq_true rfl) (by exact Nat.le_of_ble_eq_true rfl) (by omega) (by omega) ?_
        have hdd := atN_lt (x >>> (nI 8 &&& 31)) (n := 5) (by decide)
        generalize atN (x >>> (nI 8 &&& 31)) (5) = dd at hdd ⊢
        refine g_callS eL_does_180 kL_60 (l_come h' hkd hdd) (by rfl) (by rfl) (by exact Nat.le_of_ble_eq_true rfl) (by exact Nat.le_of_ble_eq_true rfl) (by exact Nat.le_of_ble_eq_true rfl) (by omega) (by omega) (fun v σ' hp hn => ?_)
        obtain ⟨rfl, hq⟩ := hp
        exact g_ret (eL_does_183 _ (Or.inr rfl)) (by omega) (by omega) ⟨rfl, hq⟩
    · refine g_aload eL_does_95 rfl ?_
      refine g_push eL_does_96 ?_
      refine g_ialdN eL_does_98 e26 (by omega) (by omega) ?_
      refine g_istore eL_does_99 rfl ?_
      refine g_aload eL_does_101 rfl ?_
      refine g_push eL_does_102 ?_
      refine g_push eL_does_104 ?_
      refine g_iload eL_does_105 rfl ?_
      refine g_push eL_does_106 ?_
      refine g_ishr eL_does_107 ?_
      refine g_iload eL_does_108 rfl ?_
      refine g_push eL_does_109 ?_
      refine g_ishr eL_does_111 ?_
      refine g_push eL_does_112 ?_
      refine g_callSp eL_does_113 kL_14 (l_at (x := (x >>> (nI 9 &&& 31))) (n := 2) (by decide) (by decide)) (by rfl) (by rfl) (by exact Nat.le_of_ble_eq_true rfl) (by exact Nat.le_of_ble_eq_true rfl) (by exact Nat.le_of_ble_eq_true rfl) (by omega) (by omega) ?_
      refine g_if_neN eL_does_116 (Nat.lt_trans (atN_lt _ (by decide)) (by decide)) (fun c116 => ?_) (fun c116 => ?_)
      · refine g_push eL_does_124 ?_
        refine g_callSp eL_does_125 kL_14 (l_at (x := (x >>> (nI 4 &&& 31))) (n := 4) (by decide) (by omega)) (by rfl) (by rfl) (by exact Nat.le_of_ble_eq_true rfl) (by exact Nat.le_of_ble_eq_true rfl) (by exact Nat.le_of_ble_eq_true rfl) (by omega) (by omega) ?_
        have hw := atN_lt (x >>> (nI 4 &&& 31)) (n := 4) (by decide)
        generalize atN (x >>> (nI 4 &&& 31)) (4) = w at hw ⊢
        refine g_iaddN eL_does_128 ?_
        refine g_iastN eL_does_129 e26 (by omega) (by omega) ?_
        refine g_aload eL_does_130 rfl ?_
        refine g_push eL_does_131 ?_
        refine g_dup2 eL_does_133 rfl rfl ?_
        refine g_ialdN eL_does_134 (at_eq e26) (by simp only [List.length_set]; omega) (by simp only [List.length_set]; omega) ?_
        refine g_push eL_does_135 ?_
        refine g_iaddN eL_does_136 ?_
        refine g_iastN eL_does_137 (at_eq e26) (by simp only [List.length_set]; omega) (by simp only [List.length_set]; omega) ?_
        refine g_aload eL_does_138 rfl ?_
        refine g_aload eL_does_139 rfl ?_
        refine g_push eL_does_140 ?_
        refine g_ialdN eL_does_142 (at_eq (at_eq e26)) (by simp only [List.length_set]; omega) (by simp only [List.length_set]; omega) ?_
        have hw2 : ((ds.set 11 (1 + w)).set 25 ((ds.set 11 (1 + w)).getD 25 0 + 1)).getD 11 0 = 1 + w := by rw [getD_setI (by rw [List.length_set]; omega), if_neg (by decide), getD_setI (by omega), if_pos rfl]
        rw [hw2]
        refine g_callV0 (r := (RX11, TX11, 10)) eL_does_143 kL_57 (at_ne (by decide) (at_ne (by decide) e0)) (by rfl) (x_limit ((hI.st (by decide) (by omega)).st (by decide) (by omega)) hwf (x := nI (1 + w))) (by rfl) (by rfl) (by exact Nat.le_of_ble_eq_true rfl) (by exact Nat.le_of_ble_eq_true rfl) (by exact Nat.le_of_ble_eq_true rfl) (by omega) (by omega) (fun v143 σ143 hp143 hn143 => ?_)
        rw [oLimit_eq hC (by omega) (by omega)] at hp143
        obtain ⟨rfl, hI2, hF⟩ := hp143
        refine g_iload eL_does_146 rfl ?_
        refine g_icmp_ne eL_does_148 (fun c148 => absurd (by rw [d3]) c148) (fun c148 => ?_)
        refine g_push eL_does_151 ?_
        refine g_goto eL_does_152 ?_
        exact g_ret (eL_does_156 _ (Or.inr rfl)) (by omega) (by omega) ⟨rfl, _, LI.mk (t := t) hI2 hF (by have := WF_limit hwf (nI (1 + w)); rw [oLimit_eq hC (by omega) (by omega)] at this; exact this) hC rfl (by simp only [List.length_set]; exact h28) (at_ne (by decide) (at_ne (by decide) e25)) (at_eq (at_eq e26)) (DX_limit hD' h10 h4 rfl), hmen⟩
      · refine g_push eL_does_119 ?_
        refine g_goto eL_does_121 ?_
        refine g_callSp eL_does_125 kL_14 (l_at (x := (x >>> (nI 4 &&& 31))) (n := 10) (by decide) (by omega)) (by rfl) (by rfl) (by exact Nat.le_of_ble_eq_true rfl) (by exact Nat.le_of_ble_eq_true rfl) (by exact Nat.le_of_ble_eq_true rfl) (by omega) (by omega) ?_
        have hw := atN_lt (x >>> (nI 4 &&& 31)) (n := 10) (by decide)
        generalize atN (x >>> (nI 4 &&& 31)) (10) = w at hw ⊢
        refine g_iaddN eL_does_128 ?_
        refine g_iastN eL_does_129 e26 (by omega) (by omega) ?_
        refine g_aload eL_does_130 rfl ?_
        refine g_push eL_does_131 ?_
        refine g_dup2 eL_does_133 rfl rfl ?_
        refine g_ialdN eL_does_134 (at_eq e26) (by simp only [List.length_set]; omega) (by simp only [List.length_set]; omega) ?_
        refine g_push eL_does_135 ?_
        refine g_iaddN eL_does_136 ?_
        refine g_iastN eL_does_137 (at_eq e26) (by simp only [List.length_set]; omega) (by simp only [List.length_set]; omega) ?_
        refine g_aload eL_does_138 rfl ?_
        refine g_aload eL_does_139 rfl ?_
        refine g_push eL_does_140 ?_
        refine g_ialdN eL_does_142 (at_eq (at_eq e26)) (by simp only [List.length_set]; omega) (by simp only [List.length_set]; omega) ?_
        have hw2 : ((ds.set 11 (1 + w)).set 25 ((ds.set 11 (1 + w)).getD 25 0 + 1)).getD 11 0 = 1 + w := by rw [getD_setI (by rw [List.length_set]; omega), if_neg (by decide), getD_setI (by omega), if_pos rfl]
        rw [hw2]
        refine g_callV0 (r := (RX11, TX11, 10)) eL_does_143 kL_57 (at_ne (by decide) (at_ne (by decide) e0)) (by rfl) (x_limit ((hI.st (by decide) (by omega)).st (by decide) (by omega)) hwf (x := nI (1 + w))) (by rfl) (by rfl) (by exact Nat.le_of_ble_eq_true rfl) (by exact Nat.le_of_ble_eq_true rfl) (by exact Nat.le_of_ble_eq_true rfl) (by omega) (by omega) (fun v143 σ143 hp143 hn143 => ?_)
        rw [oLimit_eq hC (by omega) (by omega)] at hp143
        obtain ⟨rfl, hI2, hF⟩ := hp143
        refine g_iload eL_does_146 rfl ?_
        refine g_icmp_ne eL_does_148 (fun c148 => absurd (by rw [d3]) c148) (fun c148 => ?_)
        refine g_push eL_does_151 ?_
        refine g_goto eL_does_152 ?_
        exact g_ret (eL_does_156 _ (Or.inr rfl)) (by omega) (by omega) ⟨rfl, _, LI.mk (t := t) hI2 hF (by have := WF_limit hwf (nI (1 + w)); rw [oLimit_eq hC (by omega) (by omega)] at this; exact this) hC rfl (by simp only [List.length_set]; exact h28) (at_ne (by decide) (at_ne (by decide) e25)) (at_eq (at_eq e26)) (DX_limit hD' h10 h4 rfl), hmen⟩
