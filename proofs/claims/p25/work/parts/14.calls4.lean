/-! the class's calls: lesson, unlearn, hide, hear, forget, image, restore, count -/
theorem or_bit_t {h w : Nat} (e : h.testBit w = true) : h ||| 2 ^ w = h := by
  apply Nat.eq_of_testBit_eq
  intro i
  rw [Nat.testBit_or, Nat.testBit_two_pow]
  by_cases hi : w = i
  · subst hi; simp [e]
  · simp [hi]
theorem or_bit_f {h w : Nat} (e : ¬ h.testBit w = true) : ¬ h ||| 2 ^ w = h := fun z => e (by
  rw [← z, Nat.testBit_or, Nat.testBit_two_pow]
  simp)
theorem manO_setH (c : Cr) (a h i : Nat) : (manO (setH c a h) i).1 = (manO c i).1 ∧ (manO (setH c a h) i).2.1 = (manO c i).2.1 ∧ (i ≠ a → (manO (setH c a h) i).2.2 = (manO c i).2.2) ∧ (i = a → a < (mnO c).length → (manO (setH c a h) i).2.2 = h) := by
  unfold manO setH
  dsimp only [mnO]
  rw [getD_set]
  by_cases hi : a = i ∧ a < c.2.2.1.length
  · rw [if_pos hi]
    obtain ⟨rfl, h2⟩ := hi
    exact ⟨rfl, rfl, fun z => absurd rfl z, fun _ _ => rfl⟩
  · rw [if_neg hi]
    exact ⟨rfl, rfl, fun _ => rfl, fun e1 e2 => absurd ⟨e1.symm, e2⟩ hi⟩
theorem setH_len (c : Cr) (a h : Nat) : (mnO (setH c a h)).length = (mnO c).length := by
  unfold setH
  dsimp only [mnO]
  rw [List.length_set]
theorem WF.hC {t : St} (h : WF t) : 0 < (shO (crO t)).length ∨ (mnO (crO t)).length = 0 := by
  by_cases h0 : ctO t = 0
  · right
    have h1 := (h.2.2.2.2.2.2.2.2.2.2 h0).1
    rw [h1]
    rfl
  · left
    have h1 := h.2.2.2.2.2.2.2.1
    omega
theorem WF.hS {t : St} (h : WF t) : 0 < ctO t ↔ 0 < (shO (crO t)).length := by
  have h1 := h.2.2.2.2.2.2.2.1
  omega
set_option maxRecDepth 20000 in
theorem x_lesson {σ : aH} {t : St} (hI : IX t σ) (hwf : WF t) {x y : Int32} : MX11_lesson 1 0 0 [.ref 0, .int x, .int y] σ (fun v σ' => v = some (.int (oLesson t x y).1) ∧ IX (oLesson t x y).2 σ' ∧ FrX σ σ') := by
  refine sX11_lesson (Nat.le_of_ble_eq_true rfl) ?_
  have hI' := hI
  have hwf' := hwf
  obtain ⟨cd, x0, x1, x2, mr, dws, dsz, bp, bw, bs, e0, e1, e2, e3, e4, e5, e20, e21, e22, e23, e24, ⟨ws, wm, dm, hid, e6, e7, e8, e9, e10, e11, e12, lws, hws, lwm, ldm, bwm, lhid, hhid, hhd⟩, hk, hki, lcd, hcd, bcd, lmr, ldws, lbp, lbw, hmen⟩ := hI
  obtain ⟨w1, w2, w3, w4, w5, ⟨w6, w7, w8, w9, w10, w11, w12⟩, w13, w14, w15, w16, w17⟩ := hwf
  unfold oLesson
  cases e : rg x 0 (mnO (crO t)).length with
  | none =>
    dsimp only
    have hr := rg_none e
    refine g_aload eX11_lesson_0 rfl ?_
    refine g_iload eX11_lesson_1 rfl ?_
    refine g_callVp (r := (RX11, TX11, 10)) eX11_lesson_2 kX11_156 e0 (by rfl) (c_isAccusedN hI' hwf' hr) (by rfl) (by rfl) (by exact Nat.le_of_ble_eq_true rfl) (by exact Nat.le_of_ble_eq_true rfl) (by exact Nat.le_of_ble_eq_true rfl) (Nat.le_refl _) (Nat.le_refl _) ?_
    refine g_if_neN eX11_lesson_5 (by omega) (fun c5 => absurd rfl c5) (fun c5 => ?_)
    refine g_push eX11_lesson_8 ?_
    exact g_ret (eX11_lesson_10 _) (Nat.le_refl _) (Nat.le_refl _) ⟨rfl, hI', FrX.rf⟩
  | some a =>
    dsimp only
    obtain ⟨rfl, -, ha⟩ := rg_some e (by omega)
    cases f : rg y 0 8 with
    | none =>
      dsimp only
      have hr := rg_none f
      refine g_aload eX11_lesson_0 rfl ?_
      refine g_iload eX11_lesson_1 rfl ?_
      refine g_callVp (r := (RX11, TX11, 10)) eX11_lesson_2 kX11_156 e0 (by rfl) (c_isAccusedT hI' hwf' ha) (by rfl) (by rfl) (by exact Nat.le_of_ble_eq_true rfl) (by exact Nat.le_of_ble_eq_true rfl) (by exact Nat.le_of_ble_eq_true rfl) (Nat.le_refl _) (Nat.le_refl _) ?_
      refine g_if_neN eX11_lesson_5 (by omega) (fun c5 => ?_) (fun c5 => absurd c5 (by decide))
      refine g_iload eX11_lesson_11 rfl ?_
      refine g_callSp eX11_lesson_12 kX11_93 (c_isWordN hr) (by rfl) (by rfl) (by exact Nat.le_of_ble_eq_true rfl) (by exact Nat.le_of_ble_eq_true rfl) (by exact Nat.le_of_ble_eq_true rfl) (Nat.le_refl _) (Nat.le_refl _) ?_
      refine g_if_neN eX11_lesson_15 (by omega) (fun c15 => absurd rfl c15) (fun c15 => ?_)
      refine g_push eX11_lesson_18 ?_
      exact g_ret (eX11_lesson_20 _) (Nat.le_refl _) (Nat.le_refl _) ⟨rfl, hI', FrX.rf⟩
    | some w =>
      dsimp only
      obtain ⟨rfl, -, hw8⟩ := rg_some f
      have hh2 := hhid a ha
      have hhb := (w10 a).2.2
      have hor : (manO (crO t) a).2.2 ||| 2 ^ w < 256 := Nat.or_lt_two_pow (n := 8) hhb (Nat.pow_lt_pow_right (by omega) hw8)
      refine g_aload eX11_lesson_0 rfl ?_
      refine g_iload eX11_lesson_1 rfl ?_
      refine g_callVp (r := (RX11, TX11, 10)) eX11_lesson_2 kX11_156 e0 (by rfl) (c_isAccusedT hI' hwf' ha) (by rfl) (by rfl) (by exact Nat.le_of_ble_eq_true rfl) (by exact Nat.le_of_ble_eq_true rfl) (by exact Nat.le_of_ble_eq_true rfl) (Nat.le_refl _) (Nat.le_refl _) ?_
      refine g_if_neN eX11_lesson_5 (by omega) (fun c5 => ?_) (fun c5 => absurd c5 (by decide))
      refine g_iload eX11_lesson_11 rfl ?_
      refine g_callSp eX11_lesson_12 kX11_93 (c_isWordT hw8) (by rfl) (by rfl) (by exact Nat.le_of_ble_eq_true rfl) (by exact Nat.le_of_ble_eq_true rfl) (by exact Nat.le_of_ble_eq_true rfl) (Nat.le_refl _) (Nat.le_refl _) ?_
      refine g_if_neN eX11_lesson_15 (by omega) (fun c15 => ?_) (fun c15 => absurd c15 (by decide))
      refine g_aload eX11_lesson_21 rfl ?_
      refine g_get eX11_lesson_22 fX11_29_X11 e0 (by rfl) ?_
      refine g_get eX11_lesson_25 fX11_115_X8 e6 (by rfl) ?_
      refine g_iload eX11_lesson_28 rfl ?_
      refine g_ialdN eX11_lesson_29 e12 (by omega) (by omega) ?_
      rw [hh2]
      refine g_push eX11_lesson_30 ?_
      refine g_iload eX11_lesson_31 rfl ?_
      refine g_ishlN eX11_lesson_32 (by omega) (one_shl _ (by omega)) ?_
      rw [Nat.one_mul]
      refine g_iorN eX11_lesson_33 ?_
      refine g_istore eX11_lesson_34 rfl ?_
      refine g_iload eX11_lesson_35 rfl ?_
      refine g_aload eX11_lesson_36 rfl ?_
      refine g_get eX11_lesson_37 fX11_29_X11 e0 (by rfl) ?_
      refine g_get eX11_lesson_40 fX11_115_X8 e6 (by rfl) ?_
      refine g_iload eX11_lesson_43 rfl ?_
      refine g_ialdN eX11_lesson_44 e12 (by omega) (by omega) ?_
      rw [hh2]
      refine g_icmp_neN eX11_lesson_45 (by omega) (by omega) (fun c45 => ?_) (fun c45 => ?_)
      · have hno : ¬ (manO (crO t) a).2.2.testBit w = true := fun z => c45 (or_bit_t z)
        refine g_aload eX11_lesson_51 rfl ?_
        refine g_get eX11_lesson_52 fX11_29_X11 e0 (by rfl) ?_
        refine g_get eX11_lesson_55 fX11_115_X8 e6 (by rfl) ?_
        refine g_iload eX11_lesson_58 rfl ?_
        refine g_iload eX11_lesson_59 rfl ?_
        refine g_iastN eX11_lesson_60 e12 (by omega) (by omega) ?_
        refine g_aload eX11_lesson_61 rfl ?_
        refine g_get eX11_lesson_62 fX11_29_X11 (at_ne (by decide) e0) (by rfl) ?_
        refine g_dup eX11_lesson_65 rfl ?_
        refine g_get eX11_lesson_66 fX11_100_X8 (at_ne (by decide) e6) (by rfl) ?_
        refine g_push eX11_lesson_69 ?_
        refine g_iaddN eX11_lesson_70 ?_
        refine g_putI eX11_lesson_71 fX11_100_X8 pX8_5 (at_ne (by decide) e6) (by exact Nat.le_of_ble_eq_true rfl) ?_
        refine g_iload eX11_lesson_74 rfl ?_
        refine g_callSp eX11_lesson_75 kX11_132 (c_bitCount (m := (manO (crO t) a).2.2 ||| 2 ^ w) (by omega)) (by rfl) (by rfl) (by exact Nat.le_of_ble_eq_true rfl) (by exact Nat.le_of_ble_eq_true rfl) (by exact Nat.le_of_ble_eq_true rfl) (Nat.le_refl _) (Nat.le_refl _) ?_
        exact g_ret (eX11_lesson_78 _) (Nat.le_refl _) (Nat.le_refl _) (by
              rw [if_neg hno]
              exact ⟨rfl, hI'.core ((EqO.rf.st (by decide)).st (by decide)) ⟨ws, wm, dm, hid.set a ((manO (crO t) a).2.2 ||| 2 ^ w), by rw [setH_len]; exact at_eq (at_ne (by decide) e6), (at_ne (by decide) (at_ne (by decide) e7)), (at_ne (by decide) (at_ne (by decide) e8)), (at_ne (by decide) (at_ne (by decide) e9)), (at_ne (by decide) (at_ne (by decide) e10)), (at_ne (by decide) (at_ne (by decide) e11)), at_ne (by decide) (at_eq e12), lws, hws, lwm, ldm, bwm, by rw [List.length_set]; exact lhid, fun i hi => by
              rw [setH_len] at hi
              obtain ⟨-, -, k1, k2⟩ := manO_setH (crO t) a ((manO (crO t) a).2.2 ||| 2 ^ w) i
              rw [getD_set]
              by_cases hia : a = i
              · rw [if_pos ⟨hia, by omega⟩, k2 hia.symm ha]
              · rw [if_neg (fun z => hia z.1), k1 (fun z => hia z.symm)]
                exact hhid i hi, fun i hi => by
              rw [(manO_setH (crO t) a ((manO (crO t) a).2.2 ||| 2 ^ w) _).1]
              exact hhd i hi⟩ (fun i hi => by
              rw [setH_len] at hi
              exact ⟨hi, (manO_setH (crO t) a ((manO (crO t) a).2.2 ||| 2 ^ w) i).1, (manO_setH (crO t) a ((manO (crO t) a).2.2 ||| 2 ^ w) i).2.1⟩), (FrX.rf.st (by decide)).st (by decide)⟩)
      · have hyes : (manO (crO t) a).2.2.testBit w = true := Classical.byContradiction fun z => or_bit_f z c45
        refine g_push eX11_lesson_48 ?_
        exact g_ret (eX11_lesson_50 _) (Nat.le_refl _) (Nat.le_refl _) (by rw [if_pos hyes]; exact ⟨rfl, hI', FrX.rf⟩)
set_option maxRecDepth 20000 in
theorem x_unlearn {σ : aH} {t : St} (hI : IX t σ) (hwf : WF t) {x : Int32} : MX11_unlearn 1 0 0 [.ref 0, .int x] σ (fun v σ' => v = some (.int (oUnlearn t x).1) ∧ IX (oUnlearn t x).2 σ' ∧ FrX σ σ') := by
  refine sX11_unlearn (Nat.le_of_ble_eq_true rfl) ?_
  have hI' := hI
  have hwf' := hwf
  obtain ⟨cd, x0, x1, x2, mr, dws, dsz, bp, bw, bs, e0, e1, e2, e3, e4, e5, e20, e21, e22, e23, e24, ⟨ws, wm, dm, hid, e6, e7, e8, e9, e10, e11, e12, lws, hws, lwm, ldm, bwm, lhid, hhid, hhd⟩, hk, hki, lcd, hcd, bcd, lmr, ldws, lbp, lbw, hmen⟩ := hI
  obtain ⟨w1, w2, w3, w4, w5, ⟨w6, w7, w8, w9, w10, w11, w12⟩, w13, w14, w15, w16, w17⟩ := hwf
  unfold oUnlearn
  cases e : rg x 0 (mnO (crO t)).length with
  | none =>
    dsimp only
    have hr := rg_none e
    refine g_aload eX11_unlearn_0 rfl ?_
    refine g_iload eX11_unlearn_1 rfl ?_
    refine g_callVp (r := (RX11, TX11, 10)) eX11_unlearn_2 kX11_156 e0 (by rfl) (c_isAccusedN hI' hwf' hr) (by rfl) (by rfl) (by exact Nat.le_of_ble_eq_true rfl) (by exact Nat.le_of_ble_eq_true rfl) (by exact Nat.le_of_ble_eq_true rfl) (Nat.le_refl _) (Nat.le_refl _) ?_
    refine g_if_neN eX11_unlearn_5 (by omega) (fun c5 => absurd rfl c5) (fun c5 => ?_)
    refine g_push eX11_unlearn_8 ?_
    exact g_ret (eX11_unlearn_10 _) (Nat.le_refl _) (Nat.le_refl _) ⟨rfl, hI', FrX.rf⟩
  | some a =>
    dsimp only
    obtain ⟨rfl, -, ha⟩ := rg_some e (by omega)
    have hh2 := hhid a ha
    have hhb := (w10 a).2.2
    refine g_aload eX11_unlearn_0 rfl ?_
    refine g_iload eX11_unlearn_1 rfl ?_
    refine g_callVp (r := (RX11, TX11, 10)) eX11_unlearn_2 kX11_156 e0 (by rfl) (c_isAccusedT hI' hwf' ha) (by rfl) (by rfl) (by exact Nat.le_of_ble_eq_true rfl) (by exact Nat.le_of_ble_eq_true rfl) (by exact Nat.le_of_ble_eq_true rfl) (Nat.le_refl _) (Nat.le_refl _) ?_
    refine g_if_neN eX11_unlearn_5 (by omega) (fun c5 => ?_) (fun c5 => absurd c5 (by decide))
    refine g_aload eX11_unlearn_11 rfl ?_
    refine g_get eX11_unlearn_12 fX11_29_X11 e0 (by rfl) ?_
    refine g_get eX11_unlearn_15 fX11_115_X8 e6 (by rfl) ?_
    refine g_iload eX11_unlearn_18 rfl ?_
    refine g_ialdN eX11_unlearn_19 e12 (by omega) (by omega) ?_
    rw [hh2]
    refine g_callSp eX11_unlearn_20 kX11_132 (c_bitCount (m := (manO (crO t) a).2.2) (by omega)) (by rfl) (by rfl) (by exact Nat.le_of_ble_eq_true rfl) (by exact Nat.le_of_ble_eq_true rfl) (by exact Nat.le_of_ble_eq_true rfl) (Nat.le_refl _) (Nat.le_refl _) ?_
    refine g_istore eX11_unlearn_23 rfl ?_
    refine g_aload eX11_unlearn_24 rfl ?_
    refine g_get eX11_unlearn_25 fX11_29_X11 e0 (by rfl) ?_
    refine g_get eX11_unlearn_28 fX11_115_X8 e6 (by rfl) ?_
    refine g_iload eX11_unlearn_31 rfl ?_
    refine g_push eX11_unlearn_32 ?_
    refine g_iastN eX11_unlearn_33 e12 (by omega) (by omega) ?_
    refine g_aload eX11_unlearn_34 rfl ?_
    refine g_get eX11_unlearn_35 fX11_29_X11 (at_ne (by decide) e0) (by rfl) ?_
    refine g_dup eX11_unlearn_38 rfl ?_
    refine g_get eX11_unlearn_39 fX11_100_X8 (at_ne (by decide) e6) (by rfl) ?_
    refine g_push eX11_unlearn_42 ?_
    refine g_iaddN eX11_unlearn_43 ?_
    refine g_putI eX11_unlearn_44 fX11_100_X8 pX8_5 (at_ne (by decide) e6) (by exact Nat.le_of_ble_eq_true rfl) ?_
    refine g_iload eX11_unlearn_47 rfl ?_
    exact g_ret (eX11_unlearn_48 _) (Nat.le_refl _) (Nat.le_refl _) ⟨rfl, hI'.core ((EqO.rf.st (by decide)).st (by decide)) ⟨ws, wm, dm, hid.set a (0), by rw [setH_len]; exact at_eq (at_ne (by decide) e6), (at_ne (by decide) (at_ne (by decide) e7)), (at_ne (by decide) (at_ne (by decide) e8)), (at_ne (by decide) (at_ne (by decide) e9)), (at_ne (by decide) (at_ne (by decide) e10)), (at_ne (by decide) (at_ne (by decide) e11)), at_ne (by decide) (at_eq e12), lws, hws, lwm, ldm, bwm, by rw [List.length_set]; exact lhid, fun i hi => by
          rw [setH_len] at hi
          obtain ⟨-, -, k1, k2⟩ := manO_setH (crO t) a (0) i
          rw [getD_set]
          by_cases hia : a = i
          · rw [if_pos ⟨hia, by omega⟩, k2 hia.symm ha]
          · rw [if_neg (fun z => hia z.1), k1 (fun z => hia z.symm)]
            exact hhid i hi, fun i hi => by
          rw [(manO_setH (crO t) a (0) _).1]
          exact hhd i hi⟩ (fun i hi => by
          rw [setH_len] at hi
          exact ⟨hi, (manO_setH (crO t) a (0) i).1, (manO_setH (crO t) a (0) i).2.1⟩), (FrX.rf.st (by decide)).st (by decide)⟩
theorem wth_lt {s : Nat → Nat} {n m : Nat} : ∀ d h, h < 256 → wth s n m d h < 256
  | 0, h, hh => hh
  | d + 1, h, hh => by
    cases e : hvyW s n (m &&& (plM s n h ^^^ 4294967295)) with
    | none => rw [wth_none e]; exact hh
    | some w =>
      rw [wth_some e]
      exact wth_lt d _ (Nat.or_lt_two_pow (n := 8) hh (Nat.pow_lt_pow_right (by omega) (hvyW_lt e)))
theorem basM_lt (t : St) (a : Nat) (h : (shO (crO t)).length ≤ 10) : basM t a < 1024 := Nat.lt_of_lt_of_le (msk_lt _ _) (show 2 ^ _ ≤ 2 ^ 10 from Nat.pow_le_pow_right (by omega) h)
theorem fit_t {t : St} {a p : Nat} : msk (dalB t a p) 5 = msk (fitB (shW (nrO t)) (manO (crO t) a).1 (a, p, true, (manO (crO t) a).2.2, shO (crO t))) 5 := msk_congr (fun d _ => by
  unfold dalB fitB
  simp)
theorem fit_f {t : St} {a p : Nat} : 31 &&& (msk (dalB t a p) 5 ^^^ 4294967295) = msk (fitB (shW (nrO t)) (manO (crO t) a).1 (a, p, false, (manO (crO t) a).2.2, shO (crO t))) 5 := by
  refine msk_ext (Nat.lt_of_le_of_lt Nat.and_le_left (by decide)) (fun i hi => ?_)
  rw [Nat.testBit_and, Nat.testBit_xor, tb_ones i (by omega), msk_tb, co_dec (N := 5) (P := fun i => (31 : Nat).testBit i = true) (by decide +kernel) hi]
  unfold dalB fitB
  simp [hi]
theorem IX.img {t : St} {σ τ : aH} (hI : IX t σ) (h : EqO [0, 13, 14, 15, 16, 17, 18, 19] σ τ) (g0 : τ[0]? = some (aO 11 [.ref 1, .ref 4, .ref 5, .ref 6, .ref 13, .ref 20, .ref 22, .int (nI 1), .int (nI (ctO t)), .int (nI (brO t))])) (g : IS 13 (shW (nrO t)) (crO t) τ) : IX (pgO t, nrO t, crO t, some (crO t), ctO t, brO t) τ := by
  obtain ⟨cd, y0, y1, y2, mr, dws, dsz, bp, bw, bs, e0, e1, e2, e3, e4, e5, e20, e21, e22, e23, e24, hn, hk, hki, lcd, hcd, bcd, lmr, ldws, lbp, lbw, hmen⟩ := hI
  refine ⟨cd, y0, y1, y2, mr, dws, dsz, bp, bw, bs, g0, h.at (by decide) e1, h.at (by decide) e2, h.at (by decide) e3, h.at (by decide) e4, h.at (by decide) e5, h.at (by decide) e20, h.at (by decide) e21, h.at (by decide) e22, h.at (by decide) e23, h.at (by decide) e24, hn.at (fun j a b => h.2 j ?_), g.sh, fun c hc => by cases hc; exact g, lcd, hcd, bcd, lmr, ldws, lbp, lbw, fun i hi => ?_⟩
  · simp only [List.mem_cons, List.not_mem_nil, or_false]; omega
  · obtain ⟨q, a1, a2, a3⟩ := hmen i hi
    exact ⟨q, a1, a2, h.at (nm7 (by decide) a2) a3⟩
theorem EqO.mono {l l' : List Nat} {σ τ : aH} (h : EqO l σ τ) (hl : ∀ i ∈ l, i ∈ l') : EqO l' σ τ := ⟨h.1, fun j hj => h.2 j (fun z => hj (hl j z))⟩
theorem orW_congr {s u : Nat → Nat} : ∀ {n}, (∀ j, j < n → s j = u j) → orW s n = orW u n
  | 0, _ => rfl
  | n + 1, h => by
    unfold orW
    rw [orW_congr (fun j hj => h j (by omega)), h n (by omega)]
set_option maxRecDepth 20000 in
theorem x_count {σ : aH} {t : St} (hI : IX t σ) (hwf : WF t) {x : Int32} : MX11_count 5 0 0 [.ref 0, .int x] σ (aPu (some (.int (oCount t x))) σ) := by
  refine sX11_count (Nat.le_of_ble_eq_true rfl) ?_
  have hI' := hI
  have hwf' := hwf
  obtain ⟨cd, x0, x1, x2, mr, dws, dsz, bp, bw, bs, e0, e1, e2, e3, e4, e5, e20, e21, e22, e23, e24, ⟨ws, wm, dm, hid, e6, e7, e8, e9, e10, e11, e12, lws, hws, lwm, ldm, bwm, lhid, hhid, hhd⟩, hk, hki, lcd, hcd, bcd, lmr, ldws, lbp, lbw, hmen⟩ := hI
  obtain ⟨w1, w2, w3, w4, w5, ⟨w6, w7, w8, w9, w10, w11, w12⟩, w13, w14, w15, w16, w17⟩ := hwf
  have hC := hwf'.hC
  unfold oCount
  cases e : rg x 0 10 with
  | none =>
    dsimp only
    have hr := rg_none e
    refine g_iload eX11_count_0 rfl ?_
    refine g_tswOut (tgt := 143) eX11_count_1 (by omega) (by decide) ?_
    refine g_push eX11_count_143 ?_
    exact g_ret (eX11_count_145 _) (Nat.le_refl _) (Nat.le_refl _) ⟨rfl, rfl⟩
  | some w =>
    dsimp only
    obtain ⟨rfl, -, hw8⟩ := rg_some e
    rcases (show w = 0 ∨ w = 1 ∨ w = 2 ∨ w = 3 ∨ w = 4 ∨ w = 5 ∨ w = 6 ∨ w = 7 ∨ w = 8 ∨ w = 9 by omega) with rfl | rfl | rfl | rfl | rfl | rfl | rfl | rfl | rfl | rfl
    · refine g_iload eX11_count_0 rfl ?_
      refine g_tswIn (off := 55) (tgt := 56) eX11_count_1 (by decide +kernel) (by decide +kernel) (by decide +kernel) (by decide) ?_
      refine g_aload eX11_count_56 rfl ?_
      refine g_get eX11_count_57 fX11_29_X11 e0 (by rfl) ?_
      refine g_get eX11_count_60 fX11_79_X8 e6 (by rfl) ?_
      refine g_callVp (r := (RX6, TX6, 2)) eX11_count_63 kX11_82 e7 (by rfl) (c_size e7) (by rfl) (by rfl) (by exact Nat.le_of_ble_eq_true rfl) (by exact Nat.le_of_ble_eq_true rfl) (by exact Nat.le_of_ble_eq_true rfl) (Nat.le_refl _) (Nat.le_refl _) ?_
      exact g_ret (eX11_count_66 _) (Nat.le_refl _) (Nat.le_refl _) ⟨rfl, rfl⟩
    · refine g_iload eX11_count_0 rfl ?_
      refine g_tswIn (off := 66) (tgt := 67) eX11_count_1 (by decide +kernel) (by decide +kernel) (by decide +kernel) (by decide) ?_
      refine g_aload eX11_count_67 rfl ?_
      refine g_get eX11_count_68 fX11_29_X11 e0 (by rfl) ?_
      refine g_get eX11_count_71 fX11_103_X8 e6 (by rfl) ?_
      exact g_ret (eX11_count_74 _) (Nat.le_refl _) (Nat.le_refl _) ⟨rfl, rfl⟩
    · refine g_iload eX11_count_0 rfl ?_
      refine g_tswIn (off := 74) (tgt := 75) eX11_count_1 (by decide +kernel) (by decide +kernel) (by decide +kernel) (by decide) ?_
      refine g_aload eX11_count_75 rfl ?_
      refine g_get eX11_count_76 fX11_29_X11 e0 (by rfl) ?_
      refine g_get eX11_count_79 fX11_109_X8 e6 (by rfl) ?_
      exact g_ret (eX11_count_82 _) (Nat.le_refl _) (Nat.le_refl _) ⟨rfl, rfl⟩
    · refine g_iload eX11_count_0 rfl ?_
      refine g_tswIn (off := 82) (tgt := 83) eX11_count_1 (by decide +kernel) (by decide +kernel) (by decide +kernel) (by decide) ?_
      refine g_aload eX11_count_83 rfl ?_
      refine g_aload eX11_count_84 rfl ?_
      refine g_get eX11_count_85 fX11_29_X11 e0 (by rfl) ?_
      refine g_get eX11_count_88 fX11_79_X8 e6 (by rfl) ?_
      refine g_callVp (r := (RX11, TX11, 10)) eX11_count_91 kX11_193 e0 (by rfl) (c_hangingAt hI' hwf' e7 e8 lws w6 hC (shw_eq hws w7)) (by rfl) (by rfl) (by exact Nat.le_of_ble_eq_true rfl) (by exact Nat.le_of_ble_eq_true rfl) (by exact Nat.le_of_ble_eq_true rfl) (Nat.le_refl _) (Nat.le_refl _) ?_
      exact g_ret (eX11_count_94 _) (Nat.le_refl _) (Nat.le_refl _) ⟨congrArg (fun x => some (Value.int (nI x))) (hangN_congr hws), rfl⟩
    · refine g_iload eX11_count_0 rfl ?_
      refine g_tswIn (off := 94) (tgt := 95) eX11_count_1 (by decide +kernel) (by decide +kernel) (by decide +kernel) (by decide) ?_
      refine g_aload eX11_count_95 rfl ?_
      refine g_get eX11_count_96 fX11_29_X11 e0 (by rfl) ?_
      refine g_get eX11_count_99 fX11_79_X8 e6 (by rfl) ?_
      refine g_callVp (r := (RX6, TX6, 2)) eX11_count_102 kX11_204 e7 (by rfl) (c_unlikeWords e7 e8 lws w6 (shw_eq hws w7)) (by rfl) (by rfl) (by exact Nat.le_of_ble_eq_true rfl) (by exact Nat.le_of_ble_eq_true rfl) (by exact Nat.le_of_ble_eq_true rfl) (Nat.le_refl _) (Nat.le_refl _) ?_
      exact g_ret (eX11_count_105 _) (Nat.le_refl _) (Nat.le_refl _) ⟨congrArg (fun x => some (Value.int (nI (popc x)))) (orW_congr hws), rfl⟩
    · refine g_iload eX11_count_0 rfl ?_
      refine g_tswIn (off := 105) (tgt := 106) eX11_count_1 (by decide +kernel) (by decide +kernel) (by decide +kernel) (by decide) ?_
      refine g_aload eX11_count_106 rfl ?_
      refine g_get eX11_count_107 fX11_29_X11 e0 (by rfl) ?_
      refine g_get eX11_count_110 fX11_100_X8 e6 (by rfl) ?_
      exact g_ret (eX11_count_113 _) (Nat.le_refl _) (Nat.le_refl _) ⟨rfl, rfl⟩
    · refine g_iload eX11_count_0 rfl ?_
      refine g_tswIn (off := 113) (tgt := 114) eX11_count_1 (by decide +kernel) (by decide +kernel) (by decide +kernel) (by decide) ?_
      refine g_aload eX11_count_114 rfl ?_
      refine g_get eX11_count_115 fX11_29_X11 e0 (by rfl) ?_
      refine g_get eX11_count_118 fX11_140_X8 e6 (by rfl) ?_
      refine g_callVp (r := (RX3, TX3, 3)) eX11_count_121 kX11_188 e9 (by rfl) (c_hsize e9) (by rfl) (by rfl) (by exact Nat.le_of_ble_eq_true rfl) (by exact Nat.le_of_ble_eq_true rfl) (by exact Nat.le_of_ble_eq_true rfl) (Nat.le_refl _) (Nat.le_refl _) ?_
      exact g_ret (eX11_count_124 _) (Nat.le_refl _) (Nat.le_refl _) ⟨rfl, rfl⟩
    · refine g_iload eX11_count_0 rfl ?_
      refine g_tswIn (off := 124) (tgt := 125) eX11_count_1 (by decide +kernel) (by decide +kernel) (by decide +kernel) (by decide) ?_
      refine g_aload eX11_count_125 rfl ?_
      refine g_get eX11_count_126 fX11_10_X11 e0 (by rfl) ?_
      refine g_callVp (r := (RX5, TX5, 3)) eX11_count_129 kX11_54 e1 (by rfl) (c_psize e1) (by rfl) (by rfl) (by exact Nat.le_of_ble_eq_true rfl) (by exact Nat.le_of_ble_eq_true rfl) (by exact Nat.le_of_ble_eq_true rfl) (Nat.le_refl _) (Nat.le_refl _) ?_
      exact g_ret (eX11_count_132 _) (Nat.le_refl _) (Nat.le_refl _) ⟨rfl, rfl⟩
    · refine g_iload eX11_count_0 rfl ?_
      refine g_tswIn (off := 132) (tgt := 133) eX11_count_1 (by decide +kernel) (by decide +kernel) (by decide +kernel) (by decide) ?_
      refine g_aload eX11_count_133 rfl ?_
      refine g_get eX11_count_134 fX11_75_X11 e0 (by rfl) ?_
      exact g_ret (eX11_count_137 _) (Nat.le_refl _) (Nat.le_refl _) ⟨rfl, rfl⟩
    · refine g_iload eX11_count_0 rfl ?_
      refine g_tswIn (off := 137) (tgt := 138) eX11_count_1 (by decide +kernel) (by decide +kernel) (by decide +kernel) (by decide) ?_
      refine g_aload eX11_count_138 rfl ?_
      refine g_get eX11_count_139 fX11_159_X11 e0 (by rfl) ?_
      exact g_ret (eX11_count_142 _) (Nat.le_refl _) (Nat.le_refl _) ⟨rfl, rfl⟩
