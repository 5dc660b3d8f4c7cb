/-! the class's calls: lesson, unlearn, hide, hear, forget, image, restore, count -/
theorem or_bit_t {h w : Nat} (e : h.testBit w = true) : h ||| 2 ^ w = h := by
  apply Nat.eq_of_testBit_eq
  intro i
  rw [Nat.testBit_or, Nat.testBit_two_pow]
  by_cases hi : w = i
  · subst hi; simp [e]
  · simp [hi]
theorem or_bit_f {h w : Nat} (e : ¬ h.testBit w = true) : ¬ h ||| 2 ^ w = h := fun z => e (by
  rw [← z, Nat.testBit_or, Nat.testBit_two_pow]
  simp)
theorem manO_setH (c : Cr) (a h i : Nat) : (manO (setH c a h) i).1 = (manO c i).1 ∧ (manO (setH c a h) i).2.1 = (manO c i).2.1 ∧ (i ≠ a → (manO (setH c a h) i).2.2 = (manO c i).2.2) ∧ (i = a → a < (mnO c).length → (manO (setH c a h) i).2.2 = h) := by
  unfold manO setH
  dsimp only [mnO]
  rw [getD_set]
  by_cases hi : a = i ∧ a < c.2.2.1.length
  · rw [if_pos hi]
    obtain ⟨rfl, h2⟩ := hi
    exact ⟨rfl, rfl, fun z => absurd rfl z, fun _ _ => rfl⟩
  · rw [if_neg hi]
    exact ⟨rfl, rfl, fun _ => rfl, fun e1 e2 => absurd ⟨e1.symm, e2⟩ hi⟩
theorem setH_len (c : Cr) (a h : Nat) : (mnO (setH c a h)).length = (mnO c).length := by
  unfold setH
  dsimp only [mnO]
  rw [List.length_set]
theorem WF.hC {t : St} (h : WF t) : 0 < (shO (crO t)).length ∨ (mnO (crO t)).length = 0 := by
  by_cases h0 : ctO t = 0
  · right
    have h1 := (h.2.2.2.2.2.2.2.2.2.2 h0).1
    rw [h1]
    rfl
  · left
    have h1 := h.2.2.2.2.2.2.2.1
    omega
theorem WF.hS {t : St} (h : WF t) : 0 < ctO t ↔ 0 < (shO (crO t)).length := by
  have h1 := h.2.2.2.2.2.2.2.1
  omega
set_option maxRecDepth 20000 in
theorem x_lesson {σ : aH} {t : St} (hI : IX t σ) (hwf : WF t) {x y : Int32} : MX11_lesson 1 0 0 [.ref 0, .int x, .int y] σ (fun v σ' => v = some (.int (oLesson t x y).1) ∧ IX (oLesson t x y).2 σ' ∧ FrX σ σ') := by
  refine sX11_lesson (Nat.le_of_ble_eq_true rfl) ?_
  have hI' := hI
  have hwf' := hwf
  obtain ⟨cd, x0, x1, x2, mr, dws, dsz, bp, bw, bs, e0, e1, e2, e3, e4, e5, e20, e21, e22, e23, e24, ⟨ws, wm, dm, hid, e6, e7, e8, e9, e10, e11, e12, lws, hws, lwm, ldm, bwm, lhid, hhid, hhd⟩, hk, hki, lcd, hcd, bcd, lmr, ldws, lbp, lbw, hmen⟩ := hI
  obtain ⟨w1, w2, w3, w4, w5, ⟨w6, w7, w8, w9, w10, w11, w12⟩, w13, w14, w15, w16, w17⟩ := hwf
  unfold oLesson
  cases e : rg x 0 (mnO (crO t)).length with
  | none =>
    dsimp only
    have hr := rg_none e
    refine g_aload eX11_lesson_0 rfl ?_
    refine g_iload eX11_lesson_1 rfl ?_
    refine g_callVp (r := (RX11, TX11, 10)) eX11_lesson_2 kX11_156 e0 (by rfl) (c_isAccusedN hI' hwf' hr) (by rfl) (by rfl) (by exact Nat.le_of_ble_eq_true rfl) (by exact Nat.le_of_ble_eq_true rfl) (by exact Nat.le_of_ble_eq_true rfl) (Nat.le_refl _) (Nat.le_refl _) ?_
    refine g_if_neN eX11_lesson_5 (by omega) (fun c5 => absurd rfl c5) (fun c5 => ?_)
    refine g_push eX11_lesson_8 ?_
    exact g_ret (eX11_lesson_10 _) (Nat.le_refl _) (Nat.le_refl _) ⟨rfl, hI', FrX.rf⟩
  | some a =>
    dsimp only
    obtain ⟨rfl, -, ha⟩ := rg_some e (by omega)
    cases f : rg y 0 8 with
    | none =>
      dsimp only
      have hr := rg_none f
      refine g_aload eX11_lesson_0 rfl ?_
      refine g_iload eX11_lesson_1 rfl ?_
      refine g_callVp (r := (RX11, TX11, 10)) eX11_lesson_2 kX11_156 e0 (by rfl) (c_isAccusedT hI' hwf' ha) (by rfl) (by rfl) (by exact Nat.le_of_ble_eq_true rfl) (by exact Nat.le_of_ble_eq_true rfl) (by exact Nat.le_of_ble_eq_true rfl) (Nat.le_refl _) (Nat.le_refl _) ?_
      refine g_if_neN eX11_lesson_5 (by omega) (fun c5 => ?_) (fun c5 => absurd c5 (by decide))
      refine g_iload eX11_lesson_11 rfl ?_
      refine g_callSp eX11_lesson_12 kX11_93 (c_isWordN hr) (by rfl) (by rfl) (by exact Nat.le_of_ble_eq_true rfl) (by exact Nat.le_of_ble_eq_true rfl) (by exact Nat.le_of_ble_eq_true rfl) (Nat.le_refl _) (Nat.le_refl _) ?_
      refine g_if_neN eX11_lesson_15 (by omega) (fun c15 => absurd rfl c15) (fun c15 => ?_)
      refine g_push eX11_lesson_18 ?_
      exact g_ret (eX11_lesson_20 _) (Nat.le_refl _) (Nat.le_refl _) ⟨rfl, hI', FrX.rf⟩
    | some w =>
      dsimp only
      obtain ⟨rfl, -, hw8⟩ := rg_some f
      have hh2 := hhid a ha
      have hhb := (w10 a).2.2
      have hor : (manO (crO t) a).2.2 ||| 2 ^ w < 256 := Nat.or_lt_two_pow (n := 8) hhb (Nat.pow_lt_pow_right (by omega) hw8)
      refine g_aload eX11_lesson_0 rfl ?_
      refine g_iload eX11_lesson_1 rfl ?_
      refine g_callVp (r := (RX11, TX11, 10)) eX11_lesson_2 kX11_156 e0 (by rfl) (c_isAccusedT hI' hwf' ha) (by rfl) (by rfl) (by exact Nat.le_of_ble_eq_true rfl) (by exact Nat.le_of_ble_eq_true rfl) (by exact Nat.le_of_ble_eq_true rfl) (Nat.le_refl _) (Nat.le_refl _) ?_
      refine g_if_neN eX11_lesson_5 (by omega) (fun c5 => ?_) (fun c5 => absurd c5 (by decide))
      refine g_iload eX11_lesson_11 rfl ?_
      refine g_callSp eX11_lesson_12 kX11_93 (c_isWordT hw8) (by rfl) (by rfl) (by exact Nat.le_of_ble_eq_true rfl) (by exact Nat.le_of_ble_eq_true rfl) (by exact Nat.le_of_ble_eq_true rfl) (Nat.le_refl _) (Nat.le_refl _) ?_
      refine g_if_neN eX11_lesson_15 (by omega) (fun c15 => ?_) (fun c15 => absurd c15 (by decide))
      refine g_aload eX11_lesson_21 rfl ?_
      refine g_get eX11_lesson_22 fX11_29_X11 e0 (by rfl) ?_
      refine g_get eX11_lesson_25 fX11_115_X8 e6 (by rfl) ?_
      refine g_iload eX11_lesson_28 rfl ?_
      refine g_ialdN eX11_lesson_29 e12 (by omega) (by omega) ?_
      rw [hh2]
      refine g_push eX11_lesson_30 ?_
      refine g_iload eX11_lesson_31 rfl ?_
      refine g_ishlN eX11_lesson_32 (by omega) (one_shl _ (by omega)) ?_
      rw [Nat.one_mul]
      refine g_iorN eX11_lesson_33 ?_
      refine g_istore eX11_lesson_34 rfl ?_
      refine g_iload eX11_lesson_35 rfl ?_
      refine g_aload eX11_lesson_36 rfl ?_
      refine g_get eX11_lesson_37 fX11_29_X11 e0 (by rfl) ?_
      refine g_get eX11_lesson_40 fX11_115_X8 e6 (by rfl) ?_
      refine g_iload eX11_lesson_43 rfl ?_
      refine g_ialdN eX11_lesson_44 e12 (by omega) (by omega) ?_
      rw [hh2]
      refine g_icmp_neN eX11_lesson_45 (by omega) (by omega) (fun c45 => ?_) (fun c45 => ?_)
      · have hno : ¬ (manO (crO t) a).2.2.testBit w = true := fun z => c45 (or_bit_t z)
        refine g_aload eX11_lesson_51 rfl ?_
        refine g_get eX11_lesson_52 fX11_29_X11 e0 (by rfl) ?_
        refine g_get eX11_lesson_55 fX11_115_X8 e6 (by rfl) ?_
        refine g_iload eX11_lesson_58 rfl ?_
        refine g_iload eX11_lesson_59 rfl ?_
        refine g_iastN eX11_lesson_60 e12 (by omega) (by omega) ?_
        refine g_aload eX11_lesson_61 rfl ?_
        refine g_get eX11_lesson_62 fX11_29_X11 (at_ne (by decide) e0) (by rfl) ?_
        refine g_dup eX11_lesson_65 rfl ?_
        refine g_get eX11_lesson_66 fX11_100_X8 (at_ne (by decide) e6) (by rfl) ?_
        refine g_push eX11_lesson_69 ?_
        refine g_iaddN eX11_lesson_70 ?_
        refine g_putI eX11_lesson_71 fX11_100_X8 pX8_5 (at_ne (by decide) e6) (by exact Nat.le_of_ble_eq_true rfl) ?_
        refine g_iload eX11_lesson_74 rfl ?_
        refine g_callSp eX11_lesson_75 kX11_132 (c_bitCount (m := (manO (crO t) a).2.2 ||| 2 ^ w) (by omega)) (by rfl) (by rfl) (by exact Nat.le_of_ble_eq_true rfl) (by exact Nat.le_of_ble_eq_true rfl) (by exact Nat.le_of_ble_eq_true rfl) (Nat.le_refl _) (Nat.le_refl _) ?_
        exact g_ret (eX11_lesson_78 _) (Nat.le_refl _) (Nat.le_refl _) (by
              rw [if_neg hno]
              exact ⟨rfl, hI'.core ((EqO.rf.st (by decide)).st (by decide)) ⟨ws, wm, dm, hid.set a ((manO (crO t) a).2.2 ||| 2 ^ w), by rw [setH_len]; exact at_eq (at_ne (by decide) e6), (at_ne (by decide) (at_ne (by decide) e7)), (at_ne (by decide) (at_ne (by decide) e8)), (at_ne (by decide) (at_ne (by decide) e9)), (at_ne (by decide) (at_ne (by decide) e10)), (at_ne (by decide) (at_ne (by decide) e11)), at_ne (by decide) (at_eq e12), lws, hws, lwm, ldm, bwm, by rw [List.length_set]; exact lhid, fun i hi => by
              rw [setH_len] at hi
              obtain ⟨-, -, k1, k2⟩ := manO_setH (crO t) a ((manO (crO t) a).2.2 ||| 2 ^ w) i
              rw [getD_set]
              by_cases hia : a = i
              · rw [if_pos ⟨hia, by omega⟩, k2 hia.symm ha]
              · rw [if_neg (fun z => hia z.1), k1 (fun z => hia z.symm)]
                exact hhid i hi, fun i hi => by
              rw [(manO_setH (crO t) a ((manO (crO t) a).2.2 ||| 2 ^ w) _).1]
              exact hhd i hi⟩ (fun i hi => by
              rw [setH_len] at hi
              exact ⟨hi, (manO_setH (crO t) a ((manO (crO t) a).2.2 ||| 2 ^ w) i).1, (manO_setH (crO t) a ((manO (crO t) a).2.2 ||| 2 ^ w) i).2.1⟩), (FrX.rf.st (by decide)).st (by decide)⟩)
      · have hyes : (manO (crO t) a).2.2.testBit w = true := Classical.byContradiction fun z => or_bit_f z c45
        refine g_push eX11_lesson_48 ?_
        exact g_ret (eX11_lesson_50 _) (Nat.le_refl _) (Nat.le_refl _) (by rw [if_pos hyes]; exact ⟨rfl, hI', FrX.rf⟩)
set_option maxRecDepth 20000 in
theorem x_unlearn {σ : aH} {t : St} (hI : IX t σ) (hwf : WF t) {x : Int32} : MX11_unlearn 1 0 0 [.ref 0, .int x] σ (fun v σ' => v = some (.int (oUnlearn t x).1) ∧ IX (oUnlearn t x).2 σ' ∧ FrX σ σ') := by
  refine sX11_unlearn (Nat.le_of_ble_eq_true rfl) ?_
  have hI' := hI
  have hwf' := hwf
  obtain ⟨cd, x0, x1, x2, mr, dws, dsz, bp, bw, bs, e0, e1, e2, e3, e4, e5, e20, e21, e22, e23, e24, ⟨ws, wm, dm, hid, e6, e7, e8, e9, e10, e11, e12, lws, hws, lwm, ldm, bwm, lhid, hhid, hhd⟩, hk, hki, lcd, hcd, bcd, lmr, ldws, lbp, lbw, hmen⟩ := hI
  obtain ⟨w1, w2, w3, w4, w5, ⟨w6, w7, w8, w9, w10, w11, w12⟩, w13, w14, w15, w16, w17⟩ := hwf
  unfold oUnlearn
  cases e : rg x 0 (mnO (crO t)).length with
  | none =>
    dsimp only
    have hr := rg_none e
    refine g_aload eX11_unlearn_0 rfl ?_
    refine g_iload eX11_unlearn_1 rfl ?_
    refine g_callVp (r := (RX11, TX11, 10)) eX11_unlearn_2 kX11_156 e0 (by rfl) (c_isAccusedN hI' hwf' hr) (by rfl) (by rfl) (by exact Nat.le_of_ble_eq_true rfl) (by exact Nat.le_of_ble_eq_true rfl) (by exact Nat.le_of_ble_eq_true rfl) (Nat.le_refl _) (Nat.le_refl _) ?_
    refine g_if_neN eX11_unlearn_5 (by omega) (fun c5 => absurd rfl c5) (fun c5 => ?_)
    refine g_push eX11_unlearn_8 ?_
    exact g_ret (eX11_unlearn_10 _) (Nat.le_refl _) (Nat.le_refl _) ⟨rfl, hI', FrX.rf⟩
  | some a =>
    dsimp only
    obtain ⟨rfl, -, ha⟩ := rg_some e (by omega)
    have hh2 := hhid a ha
    have hhb := (w10 a).2.2
    refine g_aload eX11_unlearn_0 rfl ?_
    refine g_iload eX11_unlearn_1 rfl ?_
    refine g_callVp (r := (RX11, TX11, 10)) eX11_unlearn_2 kX11_156 e0 (by rfl) (c_isAccusedT hI' hwf' ha) (by rfl) (by rfl) (by exact Nat.le_of_ble_eq_true rfl) (by exact Nat.le_of_ble_eq_true rfl) (by exact Nat.le_of_ble_eq_true rfl) (Nat.le_refl _) (Nat.le_refl _) ?_
    refine g_if_neN eX11_unlearn_5 (by omega) (fun c5 => ?_) (fun c5 => absurd c5 (by decide))
    refine g_aload eX11_unlearn_11 rfl ?_
    refine g_get eX11_unlearn_12 fX11_29_X11 e0 (by rfl) ?_
    refine g_get eX11_unlearn_15 fX11_115_X8 e6 (by rfl) ?_
    refine g_iload eX11_unlearn_18 rfl ?_
    refine g_ialdN eX11_unlearn_19 e12 (by omega) (by omega) ?_
    rw [hh2]
    refine g_callSp eX11_unlearn_20 kX11_132 (c_bitCount (m := (manO (crO t) a).2.2) (by omega)) (by rfl) (by rfl) (by exact Nat.le_of_ble_eq_true rfl) (by exact Nat.le_of_ble_eq_true rfl) (by exact Nat.le_of_ble_eq_true rfl) (Nat.le_refl _) (Nat.le_refl _) ?_
    refine g_istore eX11_unlearn_23 rfl ?_
    refine g_aload eX11_unlearn_24 rfl ?_
    refine g_get eX11_unlearn_25 fX11_29_X11 e0 (by rfl) ?_
    refine g_get eX11_unlearn_28 fX11_115_X8 e6 (by rfl) ?_
    refine g_iload eX11_unlearn_31 rfl ?_
    refine g_push eX11_unlearn_32 ?_
    refine g_iastN eX11_unlearn_33 e12 (by omega) (by omega) ?_
    refine g_aload eX11_unlearn_34 rfl ?_
    refine g_get eX11_unlearn_35 fX11_29_X11 (at_ne (by decide) e0) (by rfl) ?_
    refine g_dup eX11_unlearn_38 rfl ?_
    refine g_get eX11_unlearn_39 fX11_100_X8 (at_ne (by decide) e6) (by rfl) ?_
    refine g_push eX11_unlearn_42 ?_
    refine g_iaddN eX11_unlearn_43 ?_
    refine g_putI eX11_unlearn_44 fX11_100_X8 pX8_5 (at_ne (by decide) e6) (by exact Nat.le_of_ble_eq_true rfl) ?_
    refine g_iload eX11_unlearn_47 rfl ?_
    exact g_ret (eX11_unlearn_48 _) (Nat.le_refl _) (Nat.le_refl _) ⟨rfl, hI'.core ((EqO.rf.st (by decide)).st (by decide)) ⟨ws, wm, dm, hid.set a (0), by rw [setH_len]; exact at_eq (at_ne (by decide) e6), (at_ne (by decide) (at_ne (by decide) e7)), (at_ne (by decide) (at_ne (by decide) e8)), (at_ne (by decide) (at_ne (by decide) e9)), (at_ne (by decide) (at_ne (by decide) e10)), (at_ne (by decide) (at_ne (by decide) e11)), at_ne (by decide) (at_eq e12), lws, hws, lwm, ldm, bwm, by rw [List.length_set]; exact lhid, fun i hi => by
          rw [setH_len] at hi
          obtain ⟨-, -, k1, k2⟩ := manO_setH (crO t) a (0) i
          rw [getD_set]
          by_cases hia : a = i
          · rw [if_pos ⟨hia, by omega⟩, k2 hia.symm ha]
          · rw [if_neg (fun z => hia z.1), k1 (fun z => hia z.symm)]
            exact hhid i hi, fun i hi => by
          rw [(manO_setH (crO t) a (0) _).1]
          exact hhd i hi⟩ (fun i hi => by
          rw [setH_len] at hi
          exact ⟨hi, (manO_setH (crO t) a (0) i).1, (manO_setH (crO t) a (0) i).2.1⟩), (FrX.rf.st (by decide)).st (by decide)⟩
theorem wth_lt {s : Nat → Nat} {n m : Nat} : ∀ d h, h < 256 → wth s n m d h < 256
  | 0, h, hh => hh
  | d + 1, h, hh => by
    cases e : hvyW s n (m &&& (plM s n h ^^^ 4294967295)) with
    | none => rw [wth_none e]; exact hh
    | some w =>
      rw [wth_some e]
      exact wth_lt d _ (Nat.or_lt_two_pow (n := 8) hh (Nat.pow_lt_pow_right (by omega) (hvyW_lt e)))
theorem basM_lt (t : St) (a : Nat) (h : (shO (crO t)).length ≤ 10) : basM t a < 1024 := Nat.lt_of_lt_of_le (msk_lt _ _) (show 2 ^ _ ≤ 2 ^ 10 from Nat.pow_le_pow_right (by omega) h)
set_option maxRecDepth 20000 in
theorem x_hide {σ : aH} {t : St} (hI : IX t σ) (hwf : WF t) {x y z : Int32} : MX11_hide 3 0 0 [.ref 0, .int x, .int y, .int z] σ (aPu (some (.int (oHide t x y z))) σ) := by
  refine sX11_hide (Nat.le_of_ble_eq_true rfl) ?_
  have hI' := hI
  have hwf' := hwf
  obtain ⟨cd, x0, x1, x2, mr, dws, dsz, bp, bw, bs, e0, e1, e2, e3, e4, e5, e20, e21, e22, e23, e24, ⟨ws, wm, dm, hid, e6, e7, e8, e9, e10, e11, e12, lws, hws, lwm, ldm, bwm, lhid, hhid, hhd⟩, hk, hki, lcd, hcd, bcd, lmr, ldws, lbp, lbw, hmen⟩ := hI
  obtain ⟨w1, w2, w3, w4, w5, ⟨w6, w7, w8, w9, w10, w11, w12⟩, w13, w14, w15, w16, w17⟩ := hwf
  have hC := hwf'.hC
  unfold oHide
  cases e : rg x 0 (mnO (crO t)).length with
  | none =>
    dsimp only
    have hr := rg_none e
    refine g_aload eX11_hide_0 rfl ?_
    refine g_iload eX11_hide_1 rfl ?_
    refine g_callVp (r := (RX11, TX11, 10)) eX11_hide_2 kX11_156 e0 (by rfl) (c_isAccusedN hI' hwf' hr) (by rfl) (by rfl) (by exact Nat.le_of_ble_eq_true rfl) (by exact Nat.le_of_ble_eq_true rfl) (by exact Nat.le_of_ble_eq_true rfl) (Nat.le_refl _) (Nat.le_refl _) ?_
    refine g_if_neN eX11_hide_5 (by omega) (fun c5 => absurd rfl c5) (fun c5 => ?_)
    refine g_push eX11_hide_8 ?_
    exact g_ret (eX11_hide_10 _) (Nat.le_refl _) (Nat.le_refl _) ⟨rfl, rfl⟩
  | some a =>
    dsimp only
    obtain ⟨rfl, -, ha⟩ := rg_some e (by omega)
    have hz : 0 < (shO (crO t)).length := hC.resolve_right (by omega)
    cases f : rg y 0 9 with
    | none =>
      dsimp only
      have hr := rg_none f
      refine g_aload eX11_hide_0 rfl ?_
      refine g_iload eX11_hide_1 rfl ?_
      refine g_callVp (r := (RX11, TX11, 10)) eX11_hide_2 kX11_156 e0 (by rfl) (c_isAccusedT hI' hwf' ha) (by rfl) (by rfl) (by exact Nat.le_of_ble_eq_true rfl) (by exact Nat.le_of_ble_eq_true rfl) (by exact Nat.le_of_ble_eq_true rfl) (Nat.le_refl _) (Nat.le_refl _) ?_
      refine g_if_neN eX11_hide_5 (by omega) (fun c5 => ?_) (fun c5 => absurd c5 (by decide))
      refine g_iload eX11_hide_11 rfl ?_
      refine g_if_ltI eX11_hide_12 (fun c12 => ?_) (fun c12 => ?_)
      · refine g_push eX11_hide_30 ?_
        exact g_ret (eX11_hide_32 _) (Nat.le_refl _) (Nat.le_refl _) ⟨rfl, rfl⟩
      · refine g_iload eX11_hide_15 rfl ?_
        refine g_push eX11_hide_16 ?_
        refine g_icmp_gtI eX11_hide_18 (by decide) (fun c18 => ?_) (fun c18 => by exfalso; omega)
        refine g_push eX11_hide_30 ?_
        exact g_ret (eX11_hide_32 _) (Nat.le_refl _) (Nat.le_refl _) ⟨rfl, rfl⟩
    | some n =>
      dsimp only
      obtain ⟨rfl, -, hn9⟩ := rg_some f
      cases g : rg z 0 2 with
      | none =>
        dsimp only
        have hr := rg_none g
        refine g_aload eX11_hide_0 rfl ?_
        refine g_iload eX11_hide_1 rfl ?_
        refine g_callVp (r := (RX11, TX11, 10)) eX11_hide_2 kX11_156 e0 (by rfl) (c_isAccusedT hI' hwf' ha) (by rfl) (by rfl) (by exact Nat.le_of_ble_eq_true rfl) (by exact Nat.le_of_ble_eq_true rfl) (by exact Nat.le_of_ble_eq_true rfl) (Nat.le_refl _) (Nat.le_refl _) ?_
        refine g_if_neN eX11_hide_5 (by omega) (fun c5 => ?_) (fun c5 => absurd c5 (by decide))
        refine g_iload eX11_hide_11 rfl ?_
        refine g_if_ltN eX11_hide_12 (by omega) ?_
        refine g_iload eX11_hide_15 rfl ?_
        refine g_push eX11_hide_16 ?_
        refine g_icmp_gtN eX11_hide_18 (by omega) (by omega) (fun c18 => by exfalso; omega) (fun c18 => ?_)
        refine g_iload eX11_hide_21 rfl ?_
        refine g_if_ltI eX11_hide_22 (fun c22 => ?_) (fun c22 => ?_)
        · refine g_push eX11_hide_30 ?_
          exact g_ret (eX11_hide_32 _) (Nat.le_refl _) (Nat.le_refl _) ⟨rfl, rfl⟩
        · refine g_iload eX11_hide_25 rfl ?_
          refine g_push eX11_hide_26 ?_
          refine g_icmp_leI eX11_hide_27 (by decide) (fun c27 => by exfalso; omega) (fun c27 => ?_)
          refine g_push eX11_hide_30 ?_
          exact g_ret (eX11_hide_32 _) (Nat.le_refl _) (Nat.le_refl _) ⟨rfl, rfl⟩
      | some w =>
        dsimp only
        obtain ⟨rfl, -, hw2⟩ := rg_some g
        have hb := basM_lt t a w6
        have hkd := w10 a
        have hwo := wth_lt (s := shW (shO (crO t))) (n := (shO (crO t)).length) (m := basM t a) n 0 (by decide)
        have hb2 : basM t a &&& (plM (shW (shO (crO t))) (shO (crO t)).length (hidW t a n) ^^^ 4294967295) < 1024 := Nat.lt_of_le_of_lt Nat.and_le_left hb
        refine g_aload eX11_hide_0 rfl ?_
        refine g_iload eX11_hide_1 rfl ?_
        refine g_callVp (r := (RX11, TX11, 10)) eX11_hide_2 kX11_156 e0 (by rfl) (c_isAccusedT hI' hwf' ha) (by rfl) (by rfl) (by exact Nat.le_of_ble_eq_true rfl) (by exact Nat.le_of_ble_eq_true rfl) (by exact Nat.le_of_ble_eq_true rfl) (Nat.le_refl _) (Nat.le_refl _) ?_
        refine g_if_neN eX11_hide_5 (by omega) (fun c5 => ?_) (fun c5 => absurd c5 (by decide))
        refine g_iload eX11_hide_11 rfl ?_
        refine g_if_ltN eX11_hide_12 (by omega) ?_
        refine g_iload eX11_hide_15 rfl ?_
        refine g_push eX11_hide_16 ?_
        refine g_icmp_gtN eX11_hide_18 (by omega) (by omega) (fun c18 => by exfalso; omega) (fun c18 => ?_)
        refine g_iload eX11_hide_21 rfl ?_
        refine g_if_ltN eX11_hide_22 (by omega) ?_
        refine g_iload eX11_hide_25 rfl ?_
        refine g_push eX11_hide_26 ?_
        refine g_icmp_leN eX11_hide_27 (by omega) (by omega) (fun c27 => ?_) (fun c27 => by exfalso; omega)
        refine g_aload eX11_hide_33 rfl ?_
        refine g_iload eX11_hide_34 rfl ?_
        refine g_aload eX11_hide_35 rfl ?_
        refine g_get eX11_hide_36 fX11_29_X11 e0 (by rfl) ?_
        refine g_get eX11_hide_39 fX11_79_X8 e6 (by rfl) ?_
        refine g_aload eX11_hide_42 rfl ?_
        refine g_iload eX11_hide_43 rfl ?_
        refine g_callVp (r := (RX11, TX11, 10)) eX11_hide_44 kX11_168 e0 (by rfl) (c_deedOf hI' hwf' ha) (by rfl) (by rfl) (by exact Nat.le_of_ble_eq_true rfl) (by exact Nat.le_of_ble_eq_true rfl) (by exact Nat.le_of_ble_eq_true rfl) (Nat.le_refl _) (Nat.le_refl _) ?_
        refine g_push eX11_hide_47 ?_
        refine g_callVp (r := (RX11, TX11, 10)) eX11_hide_48 kX11_171 e0 (by rfl) (c_wouldAlter hI' hwf' ha e7 e8 lws w6 hz (shw_eq hws w7) hkd.2.1 (hh := 0) (by decide)) (by rfl) (by rfl) (by exact Nat.le_of_ble_eq_true rfl) (by exact Nat.le_of_ble_eq_true rfl) (by exact Nat.le_of_ble_eq_true rfl) (Nat.le_refl _) (Nat.le_refl _) ?_
        rw [show msk (altA (manO (crO t) a).1 ((nrO t).getD (manO (crO t) a).2.1 0) 0 (shW ws)) (shO (crO t)).length = basM t a from mskA_congr hws]
        refine g_istore eX11_hide_51 rfl ?_
        refine g_aload eX11_hide_53 rfl ?_
        refine g_iload eX11_hide_54 rfl ?_
        refine g_iload eX11_hide_56 rfl ?_
        refine g_callVp (r := (RX11, TX11, 10)) eX11_hide_57 kX11_175 e0 (by rfl) (c_wordsToHide hI' hwf' hb (n := n) (by omega)) (by rfl) (by rfl) (by exact Nat.le_of_ble_eq_true rfl) (by exact Nat.le_of_ble_eq_true rfl) (by exact Nat.le_of_ble_eq_true rfl) (Nat.le_refl _) (Nat.le_refl _) ?_
        refine g_istore eX11_hide_60 rfl ?_
        refine g_iload eX11_hide_62 rfl ?_
        refine g_if_neN eX11_hide_63 (by omega) (fun c63 => ?_) (fun c63 => ?_)
        · refine g_iload eX11_hide_71 rfl ?_
          refine g_aload eX11_hide_73 rfl ?_
          refine g_get eX11_hide_74 fX11_29_X11 e0 (by rfl) ?_
          refine g_get eX11_hide_77 fX11_79_X8 e6 (by rfl) ?_
          refine g_iload eX11_hide_80 rfl ?_
          refine g_callVp (r := (RX6, TX6, 2)) eX11_hide_82 kX11_179 e7 (by rfl) (c_placesOf e7 e8 lws w6 (shw_eq hws w7) (w := hidW t a n) (Nat.lt_trans hwo (by decide))) (by rfl) (by rfl) (by exact Nat.le_of_ble_eq_true rfl) (by exact Nat.le_of_ble_eq_true rfl) (by exact Nat.le_of_ble_eq_true rfl) (Nat.le_refl _) (Nat.le_refl _) ?_
          rw [show msk (fun k => (hidW t a n).testBit (ws.getD k 0)) (shO (crO t)).length = plM (shW (shO (crO t))) (shO (crO t)).length (hidW t a n) from plM_congr (s := shW ws) hws]
          refine g_push (v := nI 4294967295) (nA_m1 ▸ eX11_hide_85) ?_
          refine g_ixorN eX11_hide_86 ?_
          refine g_iandN eX11_hide_87 ?_
          refine g_callSp eX11_hide_88 kX11_132 (c_bitCount hb2) (by rfl) (by rfl) (by exact Nat.le_of_ble_eq_true rfl) (by exact Nat.le_of_ble_eq_true rfl) (by exact Nat.le_of_ble_eq_true rfl) (Nat.le_refl _) (Nat.le_refl _) ?_
          exact g_ret (eX11_hide_91 _) (Nat.le_refl _) (Nat.le_refl _) ⟨by unfold hidA; first | (rw [if_pos c63]; done) | (rw [if_pos c63]; rfl) | (rw [if_neg c63]; done) | (rw [if_neg c63]; rfl), rfl⟩
        · refine g_iload eX11_hide_66 rfl ?_
          refine g_goto eX11_hide_68 ?_
          exact g_ret (eX11_hide_91 _) (Nat.le_refl _) (Nat.le_refl _) ⟨by unfold hidA; first | (rw [if_pos c63]; done) | (rw [if_pos c63]; rfl) | (rw [if_neg c63]; done) | (rw [if_neg c63]; rfl), rfl⟩
theorem fit_t {t : St} {a p : Nat} : msk (dalB t a p) 5 = msk (fitB (shW (nrO t)) (manO (crO t) a).1 (a, p, true, (manO (crO t) a).2.2, shO (crO t))) 5 := msk_congr (fun d _ => by
  unfold dalB fitB
  simp)
theorem fit_f {t : St} {a p : Nat} : 31 &&& (msk (dalB t a p) 5 ^^^ 4294967295) = msk (fitB (shW (nrO t)) (manO (crO t) a).1 (a, p, false, (manO (crO t) a).2.2, shO (crO t))) 5 := by
  refine msk_ext (Nat.lt_of_le_of_lt Nat.and_le_left (by decide)) (fun i hi => ?_)
  rw [Nat.testBit_and, Nat.testBit_xor, tb_ones i (by omega), msk_tb, co_dec (N := 5) (P := fun i => (31 : Nat).testBit i = true) (by decide +kernel) hi]
  unfold dalB fitB
  simp [hi]
set_option maxRecDepth 20000 in
theorem x_hear {σ : aH} {t : St} (hI : IX t σ) (hwf : WF t) {x y : Int32} {b : Bool} : MX11_hear 4 0 0 [.ref 0, .int x, .int y, .int (nI b.toNat)] σ (fun v σ' => v = some (.int (oHear t x y b).1) ∧ IX (oHear t x y b).2 σ' ∧ FrX σ σ') := by
  refine sX11_hear (Nat.le_of_ble_eq_true rfl) ?_
  have hI' := hI
  have hwf' := hwf
  obtain ⟨cd, x0, x1, x2, mr, dws, dsz, bp, bw, bs, e0, e1, e2, e3, e4, e5, e20, e21, e22, e23, e24, ⟨ws, wm, dm, hid, e6, e7, e8, e9, e10, e11, e12, lws, hws, lwm, ldm, bwm, lhid, hhid, hhd⟩, hk, hki, lcd, hcd, bcd, lmr, ldws, lbp, lbw, hmen⟩ := hI
  obtain ⟨w1, w2, w3, w4, w5, ⟨w6, w7, w8, w9, w10, w11, w12⟩, w13, w14, w15, w16, w17⟩ := hwf
  unfold oHear
  cases e : rg x 0 (mnO (crO t)).length with
  | none =>
    dsimp only
    have hr := rg_none e
    refine g_aload eX11_hear_0 rfl ?_
    refine g_iload eX11_hear_1 rfl ?_
    refine g_callVp (r := (RX11, TX11, 10)) eX11_hear_2 kX11_156 e0 (by rfl) (c_isAccusedN hI' hwf' hr) (by rfl) (by rfl) (by exact Nat.le_of_ble_eq_true rfl) (by exact Nat.le_of_ble_eq_true rfl) (by exact Nat.le_of_ble_eq_true rfl) (Nat.le_refl _) (Nat.le_refl _) ?_
    refine g_if_eqN eX11_hear_5 (by omega) (fun c5 => ?_) (fun c5 => absurd rfl c5)
    refine g_push eX11_hear_22 ?_
    exact g_ret (eX11_hear_24 _) (Nat.le_refl _) (Nat.le_refl _) ⟨rfl, hI', FrX.rf⟩
  | some a =>
    dsimp only
    obtain ⟨rfl, -, ha⟩ := rg_some e (by omega)
    cases f : rg y 0 (shO (crO t)).length with
    | none =>
      dsimp only
      have hr := rg_none f
      refine g_aload eX11_hear_0 rfl ?_
      refine g_iload eX11_hear_1 rfl ?_
      refine g_callVp (r := (RX11, TX11, 10)) eX11_hear_2 kX11_156 e0 (by rfl) (c_isAccusedT hI' hwf' ha) (by rfl) (by rfl) (by exact Nat.le_of_ble_eq_true rfl) (by exact Nat.le_of_ble_eq_true rfl) (by exact Nat.le_of_ble_eq_true rfl) (Nat.le_refl _) (Nat.le_refl _) ?_
      refine g_if_eqN eX11_hear_5 (by omega) (fun c5 => absurd c5 (by decide)) (fun c5 => ?_)
      refine g_aload eX11_hear_8 rfl ?_
      refine g_get eX11_hear_9 fX11_29_X11 e0 (by rfl) ?_
      refine g_get eX11_hear_12 fX11_79_X8 e6 (by rfl) ?_
      refine g_iload eX11_hear_15 rfl ?_
      refine g_callVp (r := (RX6, TX6, 2)) eX11_hear_16 kX11_86 e7 (by rfl) (c_hasN e7 w6 hr) (by rfl) (by rfl) (by exact Nat.le_of_ble_eq_true rfl) (by exact Nat.le_of_ble_eq_true rfl) (by exact Nat.le_of_ble_eq_true rfl) (Nat.le_refl _) (Nat.le_refl _) ?_
      refine g_if_neN eX11_hear_19 (by omega) (fun c19 => absurd rfl c19) (fun c19 => ?_)
      refine g_push eX11_hear_22 ?_
      exact g_ret (eX11_hear_24 _) (Nat.le_refl _) (Nat.le_refl _) ⟨rfl, hI', FrX.rf⟩
    | some p =>
      dsimp only
      obtain ⟨rfl, -, hp2⟩ := rg_some f (by omega)
      have fin : ∀ (w : Nat), w = msk (fitB (shW (nrO t)) (manO (crO t) a).1 (a, p, b, (manO (crO t) a).2.2, shO (crO t))) 5 → ∀ z5, GX11_hear 4 0 0 (fun v σ' => v = some (.int (if (hdO (crO t)).length < 8 then (nI ((hdO (crO t)).length + 1), wcr t (shO (crO t), lmO (crO t), mnO (crO t), chO (crO t), hdO (crO t) ++ [(a, p, b, (manO (crO t) a).2.2, shO (crO t))])) else (-104, t)).1) ∧ IX (if (hdO (crO t)).length < 8 then (nI ((hdO (crO t)).length + 1), wcr t (shO (crO t), lmO (crO t), mnO (crO t), chO (crO t), hdO (crO t) ++ [(a, p, b, (manO (crO t) a).2.2, shO (crO t))])) else (-104, t)).2 σ' ∧ FrX σ σ') 0 0 49 [some (.ref 0), some (.int (nI a)), some (.int (nI p)), some (.int (nI b.toNat)), some (.int (nI (msk (dalB t a p) 5))), z5] [.int (nI w)] σ := by
        intro w hw z5
        refine g_istore eX11_hear_49 rfl ?_
        refine g_aload eX11_hear_51 rfl ?_
        refine g_get eX11_hear_52 fX11_29_X11 e0 (by rfl) ?_
        refine g_get eX11_hear_55 fX11_140_X8 e6 (by rfl) ?_
        refine g_iload eX11_hear_58 rfl ?_
        refine g_iload eX11_hear_59 rfl ?_
        refine g_callV0 (r := (RX3, TX3, 3)) eX11_hear_61 kX11_185 e9 (by rfl) (c_hadd e9 e10 e11 lwm ldm w11 (by decide) (by decide) (by decide) a w) (by rfl) (by rfl) (by exact Nat.le_of_ble_eq_true rfl) (by exact Nat.le_of_ble_eq_true rfl) (by exact Nat.le_of_ble_eq_true rfl) (Nat.le_refl _) (Nat.le_refl _) (fun v61 σ61 hp61 hn61 => ?_)
        rcases hp61 with ⟨q1, rfl, rfl⟩ | ⟨q1, rfl, rfl⟩
        · refine g_if_eqN eX11_hear_64 (by omega) (fun c64 => by exfalso; omega) (fun c64 => ?_)
          refine g_aload eX11_hear_67 rfl ?_
          refine g_get eX11_hear_68 fX11_29_X11 (at_ne (by decide) (at_ne (by decide) (at_ne (by decide) e0))) (by rfl) ?_
          refine g_get eX11_hear_71 fX11_140_X8 (at_ne (by decide) (at_ne (by decide) (at_ne (by decide) e6))) (by rfl) ?_
          refine g_callVp (r := (RX3, TX3, 3)) eX11_hear_74 kX11_188 (at_eq (at_ne (by decide) (at_ne (by decide) e9))) (by rfl) (c_hsize (at_eq (at_ne (by decide) (at_ne (by decide) e9)))) (by rfl) (by rfl) (by exact Nat.le_of_ble_eq_true rfl) (by exact Nat.le_of_ble_eq_true rfl) (by exact Nat.le_of_ble_eq_true rfl) (Nat.le_refl _) (Nat.le_refl _) ?_
          refine g_goto eX11_hear_77 ?_
          exact g_ret (eX11_hear_82 _) (Nat.le_refl _) (Nat.le_refl _) (by
              rw [if_pos q1]
              refine ⟨rfl, hI'.core (((EqO.rf.st (by decide)).st (by decide)).st (by decide)) ⟨ws, wm.set (hdO (crO t)).length a, dm.set (hdO (crO t)).length w, hid, (at_ne (by decide) (at_ne (by decide) (at_ne (by decide) e6))), (at_ne (by decide) (at_ne (by decide) (at_ne (by decide) e7))), (at_ne (by decide) (at_ne (by decide) (at_ne (by decide) e8))), by rw [List.length_append]; exact at_eq (at_ne (by decide) (at_ne (by decide) e9)), (at_ne (by decide) (at_ne (by decide) (at_eq e10))), (at_ne (by decide) (at_eq (at_ne (by decide) e11))), (at_ne (by decide) (at_ne (by decide) (at_ne (by decide) e12))), lws, hws, by rw [List.length_set]; exact lwm, by rw [List.length_set]; exact ldm, fun k => ?_, lhid, hhid, fun i hi => ?_⟩ (fun i hi => ⟨hi, rfl, rfl⟩), ((FrX.rf.st (by decide)).st (by decide)).st (by decide)⟩
              · rw [getD_set]
                split
                · omega
                · exact bwm k
              · rw [getD_set, getD_set]
                rw [show (hdO (shO (crO t), lmO (crO t), mnO (crO t), chO (crO t), hdO (crO t) ++ [(a, p, b, (manO (crO t) a).2.2, shO (crO t))])) = hdO (crO t) ++ [(a, p, b, (manO (crO t) a).2.2, shO (crO t))] from rfl, List.length_append, List.length_singleton] at hi
                show _ = ((hdO (crO t) ++ [(a, p, b, (manO (crO t) a).2.2, shO (crO t))]).getD i h0).1 ∧ _ = msk (fitB (shW (nrO t)) (manO (crO t) ((hdO (crO t) ++ [(a, p, b, (manO (crO t) a).2.2, shO (crO t))]).getD i h0).1).1 ((hdO (crO t) ++ [(a, p, b, (manO (crO t) a).2.2, shO (crO t))]).getD i h0)) 5
                rw [getD_app]
                by_cases hi2 : i < (hdO (crO t)).length
                · have i1 : ¬ ((hdO (crO t)).length = i ∧ (hdO (crO t)).length < wm.length) := by omega
                  have i2 : ¬ ((hdO (crO t)).length = i ∧ (hdO (crO t)).length < dm.length) := by omega
                  rw [if_neg i1, if_neg i2, if_pos hi2]
                  exact hhd i hi2
                · have i1 : ((hdO (crO t)).length = i ∧ (hdO (crO t)).length < wm.length) := by omega
                  have i2 : ((hdO (crO t)).length = i ∧ (hdO (crO t)).length < dm.length) := by omega
                  have i3 : i = (hdO (crO t)).length := by omega
                  rw [if_pos i1, if_pos i2, if_neg hi2, if_pos i3]
                  exact ⟨rfl, hw⟩)
        · refine g_if_eqN eX11_hear_64 (by omega) (fun c64 => ?_) (fun c64 => absurd rfl c64)
          refine g_push eX11_hear_80 ?_
          exact g_ret (eX11_hear_82 _) (Nat.le_refl _) (Nat.le_refl _) (by rw [if_neg (by omega)]; exact ⟨rfl, hI', FrX.rf⟩)
      refine g_aload eX11_hear_0 rfl ?_
      refine g_iload eX11_hear_1 rfl ?_
      refine g_callVp (r := (RX11, TX11, 10)) eX11_hear_2 kX11_156 e0 (by rfl) (c_isAccusedT hI' hwf' ha) (by rfl) (by rfl) (by exact Nat.le_of_ble_eq_true rfl) (by exact Nat.le_of_ble_eq_true rfl) (by exact Nat.le_of_ble_eq_true rfl) (Nat.le_refl _) (Nat.le_refl _) ?_
      refine g_if_eqN eX11_hear_5 (by omega) (fun c5 => absurd c5 (by decide)) (fun c5 => ?_)
      refine g_aload eX11_hear_8 rfl ?_
      refine g_get eX11_hear_9 fX11_29_X11 e0 (by rfl) ?_
      refine g_get eX11_hear_12 fX11_79_X8 e6 (by rfl) ?_
      refine g_iload eX11_hear_15 rfl ?_
      refine g_callVp (r := (RX6, TX6, 2)) eX11_hear_16 kX11_86 e7 (by rfl) (c_hasT e7 w6 hp2) (by rfl) (by rfl) (by exact Nat.le_of_ble_eq_true rfl) (by exact Nat.le_of_ble_eq_true rfl) (by exact Nat.le_of_ble_eq_true rfl) (Nat.le_refl _) (Nat.le_refl _) ?_
      refine g_if_neN eX11_hear_19 (by omega) (fun c19 => ?_) (fun c19 => absurd c19 (by decide))
      refine g_aload eX11_hear_25 rfl ?_
      refine g_iload eX11_hear_26 rfl ?_
      refine g_iload eX11_hear_27 rfl ?_
      refine g_callVp (r := (RX11, TX11, 10)) eX11_hear_28 kX11_182 e0 (by rfl) (c_deedsAltering hI' hwf' ha hp2) (by rfl) (by rfl) (by exact Nat.le_of_ble_eq_true rfl) (by exact Nat.le_of_ble_eq_true rfl) (by exact Nat.le_of_ble_eq_true rfl) (Nat.le_refl _) (Nat.le_refl _) ?_
      refine g_istore eX11_hear_31 rfl ?_
      refine g_iload eX11_hear_33 rfl ?_
      refine g_if_eqN eX11_hear_34 (bt_lt _) (fun c34 => ?_) (fun c34 => ?_)
      · obtain rfl := bb_0 c34
        have fin2 := fin (31 &&& (msk (dalB t a p) 5 ^^^ 4294967295)) fit_f
        refine g_push eX11_hear_42 ?_
        refine g_iload eX11_hear_44 rfl ?_
        refine g_push (v := nI 4294967295) (nA_m1 ▸ eX11_hear_46) ?_
        refine g_ixorN eX11_hear_47 ?_
        refine g_iandN eX11_hear_48 ?_
        exact fin2 _
      · obtain rfl := bb_1 c34
        have fin2 := fin (msk (dalB t a p) 5) fit_t
        refine g_iload eX11_hear_37 rfl ?_
        refine g_goto eX11_hear_39 ?_
        exact fin2 _
set_option maxRecDepth 20000 in
theorem x_forget {σ : aH} {t : St} (hI : IX t σ) (hwf : WF t)  : MX11_forget 1 0 0 [.ref 0] σ (fun v σ' => v = some (.int (oForget t).1) ∧ IX (oForget t).2 σ' ∧ FrX σ σ') := by
  refine sX11_forget (Nat.le_of_ble_eq_true rfl) ?_
  have hI' := hI
  have hwf' := hwf
  obtain ⟨cd, x0, x1, x2, mr, dws, dsz, bp, bw, bs, e0, e1, e2, e3, e4, e5, e20, e21, e22, e23, e24, ⟨ws, wm, dm, hid, e6, e7, e8, e9, e10, e11, e12, lws, hws, lwm, ldm, bwm, lhid, hhid, hhd⟩, hk, hki, lcd, hcd, bcd, lmr, ldws, lbp, lbw, hmen⟩ := hI
  obtain ⟨w1, w2, w3, w4, w5, ⟨w6, w7, w8, w9, w10, w11, w12⟩, w13, w14, w15, w16, w17⟩ := hwf
  refine g_aload eX11_forget_0 rfl ?_
  refine g_get eX11_forget_1 fX11_29_X11 e0 (by rfl) ?_
  refine g_get eX11_forget_4 fX11_140_X8 e6 (by rfl) ?_
  refine g_callVp (r := (RX3, TX3, 3)) eX11_forget_7 kX11_188 e9 (by rfl) (c_hsize e9) (by rfl) (by rfl) (by exact Nat.le_of_ble_eq_true rfl) (by exact Nat.le_of_ble_eq_true rfl) (by exact Nat.le_of_ble_eq_true rfl) (Nat.le_refl _) (Nat.le_refl _) ?_
  refine g_istore eX11_forget_10 rfl ?_
  refine g_aload eX11_forget_11 rfl ?_
  refine g_get eX11_forget_12 fX11_29_X11 e0 (by rfl) ?_
  refine g_get eX11_forget_15 fX11_140_X8 e6 (by rfl) ?_
  refine g_callVp (r := (RX3, TX3, 3)) eX11_forget_18 kX11_189 e9 (by rfl) (c_hclear e9) (by rfl) (by rfl) (by exact Nat.le_of_ble_eq_true rfl) (by exact Nat.le_of_ble_eq_true rfl) (by exact Nat.le_of_ble_eq_true rfl) (Nat.le_refl _) (Nat.le_refl _) ?_
  refine g_iload eX11_forget_21 rfl ?_
  exact g_ret (eX11_forget_22 _) (Nat.le_refl _) (Nat.le_refl _) ⟨rfl, hI'.core (EqO.rf.st (by decide)) ⟨ws, wm, dm, hid, (at_ne (by decide) e6), (at_ne (by decide) e7), (at_ne (by decide) e8), at_eq e9, (at_ne (by decide) e10), (at_ne (by decide) e11), (at_ne (by decide) e12), lws, hws, lwm, ldm, bwm, lhid, hhid, fun i hi => absurd hi (Nat.not_lt_zero i)⟩ (fun i hi => ⟨hi, rfl, rfl⟩), FrX.rf.st (by decide)⟩
theorem IX.img {t : St} {σ τ : aH} (hI : IX t σ) (h : EqO [0, 13, 14, 15, 16, 17, 18, 19] σ τ) (g0 : τ[0]? = some (aO 11 [.ref 1, .ref 4, .ref 5, .ref 6, .ref 13, .ref 20, .ref 22, .int (nI 1), .int (nI (ctO t)), .int (nI (brO t))])) (g : IS 13 (shW (nrO t)) (crO t) τ) : IX (pgO t, nrO t, crO t, some (crO t), ctO t, brO t) τ := by
  obtain ⟨cd, y0, y1, y2, mr, dws, dsz, bp, bw, bs, e0, e1, e2, e3, e4, e5, e20, e21, e22, e23, e24, hn, hk, hki, lcd, hcd, bcd, lmr, ldws, lbp, lbw, hmen⟩ := hI
  refine ⟨cd, y0, y1, y2, mr, dws, dsz, bp, bw, bs, g0, h.at (by decide) e1, h.at (by decide) e2, h.at (by decide) e3, h.at (by decide) e4, h.at (by decide) e5, h.at (by decide) e20, h.at (by decide) e21, h.at (by decide) e22, h.at (by decide) e23, h.at (by decide) e24, hn.at (fun j a b => h.2 j ?_), g.sh, fun c hc => by cases hc; exact g, lcd, hcd, bcd, lmr, ldws, lbp, lbw, fun i hi => ?_⟩
  · simp only [List.mem_cons, List.not_mem_nil, or_false]; omega
  · obtain ⟨q, a1, a2, a3⟩ := hmen i hi
    exact ⟨q, a1, a2, h.at (nm7 (by decide) a2) a3⟩
theorem EqO.mono {l l' : List Nat} {σ τ : aH} (h : EqO l σ τ) (hl : ∀ i ∈ l, i ∈ l') : EqO l' σ τ := ⟨h.1, fun j hj => h.2 j (fun z => hj (hl j z))⟩
set_option maxRecDepth 20000 in
theorem x_image {σ : aH} {t : St} (hI : IX t σ) (hwf : WF t)  : MX11_image 3 0 0 [.ref 0] σ (fun v σ' => v = some (.int (oImage t).1) ∧ IX (oImage t).2 σ' ∧ FrX σ σ') := by
  refine sX11_image (Nat.le_of_ble_eq_true rfl) ?_
  have hI' := hI
  have hwf' := hwf
  obtain ⟨cd, x0, x1, x2, mr, dws, dsz, bp, bw, bs, e0, e1, e2, e3, e4, e5, e20, e21, e22, e23, e24, ⟨ws, wm, dm, hid, e6, e7, e8, e9, e10, e11, e12, lws, hws, lwm, ldm, bwm, lhid, hhid, hhd⟩, hk, hki, lcd, hcd, bcd, lmr, ldws, lbp, lbw, hmen⟩ := hI
  obtain ⟨w1, w2, w3, w4, w5, ⟨w6, w7, w8, w9, w10, w11, w12⟩, w13, w14, w15, w16, w17⟩ := hwf
  have hnow : IS 6 (shW (nrO t)) (crO t) σ := ⟨ws, wm, dm, hid, e6, e7, e8, e9, e10, e11, e12, lws, hws, lwm, ldm, bwm, lhid, hhid, hhd⟩
  have hk2 := hk
  obtain ⟨_, _, _, _, _, _, _, _, _, k0, _⟩ := hk2
  unfold oImage
  refine g_aload eX11_image_0 rfl ?_
  refine g_callVp (r := (RX11, TX11, 10)) eX11_image_1 kX11_83 e0 (by rfl) (c_hasCourt hI' hwf') (by rfl) (by rfl) (by exact Nat.le_of_ble_eq_true rfl) (by exact Nat.le_of_ble_eq_true rfl) (by exact Nat.le_of_ble_eq_true rfl) (Nat.le_refl _) (Nat.le_refl _) ?_
  refine g_if_neN eX11_image_4 (bt_lt _) (fun c4 => ?_) (fun c4 => ?_)
  · have hyes := bt_1 c4
    refine g_aload eX11_image_10 rfl ?_
    refine g_get eX11_image_11 fX11_33_X11 e0 (by rfl) ?_
    refine g_aload eX11_image_14 rfl ?_
    refine g_get eX11_image_15 fX11_29_X11 e0 (by rfl) ?_
    refine g_callV0 (r := (RX8, TX8, 6)) eX11_image_18 kX11_200 k0 (by rfl) (c_stCopy13 hk hnow) (by rfl) (by rfl) (by exact Nat.le_of_ble_eq_true rfl) (by exact Nat.le_of_ble_eq_true rfl) (by exact Nat.le_of_ble_eq_true rfl) (Nat.le_refl _) (Nat.le_refl _) (fun v18 σ18 hp18 hn18 => ?_)
    obtain ⟨rfl, hE, hN⟩ := hp18
    refine g_aload eX11_image_21 rfl ?_
    refine g_push eX11_image_22 ?_
    refine g_putZ eX11_image_23 fX11_71_X11 pX11_7 (Or.inr rfl) (hE.at (by decide) e0) (by exact Nat.le_of_ble_eq_true rfl) ?_
    refine g_aload eX11_image_26 rfl ?_
    refine g_get eX11_image_27 fX11_29_X11 (at_eq (hE.at (by decide) e0)) (by rfl) ?_
    refine g_get eX11_image_30 fX11_100_X8 (at_ne (by decide) (hE.at (by decide) e6)) (by rfl) ?_
    exact g_ret (eX11_image_33 _) (Nat.le_refl _) (Nat.le_refl _) (by rw [if_pos hyes]; exact ⟨rfl, hI'.img ((hE.mono (by decide)).st (by decide)) (at_eq (hE.at (by decide) e0)) (hN.at (fun j a b => List.getElem?_set_ne (by omega))), (hE.fr (by decide)).st (by decide)⟩)
  · have hno := bt_0 c4
    refine g_push eX11_image_7 ?_
    exact g_ret (eX11_image_9 _) (Nat.le_refl _) (Nat.le_refl _) (by rw [if_neg hno]; exact ⟨rfl, hI', FrX.rf⟩)
set_option maxRecDepth 20000 in
theorem x_restore {σ : aH} {t : St} (hI : IX t σ) (hwf : WF t)  : MX11_restore 3 0 0 [.ref 0] σ (fun v σ' => v = some (.int (oRestore t).1) ∧ IX (oRestore t).2 σ' ∧ FrX σ σ') := by
  refine sX11_restore (Nat.le_of_ble_eq_true rfl) ?_
  have hI' := hI
  have hwf' := hwf
  obtain ⟨cd, x0, x1, x2, mr, dws, dsz, bp, bw, bs, e0, e1, e2, e3, e4, e5, e20, e21, e22, e23, e24, ⟨ws, wm, dm, hid, e6, e7, e8, e9, e10, e11, e12, lws, hws, lwm, ldm, bwm, lhid, hhid, hhd⟩, hk, hki, lcd, hcd, bcd, lmr, ldws, lbp, lbw, hmen⟩ := hI
  obtain ⟨w1, w2, w3, w4, w5, ⟨w6, w7, w8, w9, w10, w11, w12⟩, w13, w14, w15, w16, w17⟩ := hwf
  have hnow : IS 6 (shW (nrO t)) (crO t) σ := ⟨ws, wm, dm, hid, e6, e7, e8, e9, e10, e11, e12, lws, hws, lwm, ldm, bwm, lhid, hhid, hhd⟩
  unfold oRestore
  cases e : imO t with
  | none =>
    have e0' : σ[0]? = some (aO 11 [.ref 1, .ref 4, .ref 5, .ref 6, .ref 13, .ref 20, .ref 22, .int (nI 0), .int (nI (ctO t)), .int (nI (brO t))]) := by rw [e0]; unfold imB; rw [e]
    refine g_aload eX11_restore_0 rfl ?_
    refine g_get eX11_restore_1 fX11_71_X11 e0' (by rfl) ?_
    refine g_if_neN eX11_restore_4 (by omega) (fun c4 => absurd rfl c4) (fun c4 => ?_)
    refine g_push eX11_restore_7 ?_
    exact g_ret (eX11_restore_9 _) (Nat.le_refl _) (Nat.le_refl _) ⟨rfl, hI', FrX.rf⟩
  | some c =>
    have e0' : σ[0]? = some (aO 11 [.ref 1, .ref 4, .ref 5, .ref 6, .ref 13, .ref 20, .ref 22, .int (nI 1), .int (nI (ctO t)), .int (nI (brO t))]) := by rw [e0]; unfold imB; rw [e]
    have hkc := hki c e
    obtain ⟨v1, v2, v3, v4⟩ := w13 c e
    refine g_aload eX11_restore_0 rfl ?_
    refine g_get eX11_restore_1 fX11_71_X11 e0' (by rfl) ?_
    refine g_if_neN eX11_restore_4 (by omega) (fun c4 => ?_) (fun c4 => absurd c4 (by decide))
    refine g_aload eX11_restore_10 rfl ?_
    refine g_get eX11_restore_11 fX11_29_X11 e0' (by rfl) ?_
    refine g_aload eX11_restore_14 rfl ?_
    refine g_get eX11_restore_15 fX11_33_X11 e0' (by rfl) ?_
    refine g_callV0 (r := (RX8, TX8, 6)) eX11_restore_18 kX11_200 e6 (by rfl) (c_stCopy6 hnow.sh hkc) (by rfl) (by rfl) (by exact Nat.le_of_ble_eq_true rfl) (by exact Nat.le_of_ble_eq_true rfl) (by exact Nat.le_of_ble_eq_true rfl) (Nat.le_refl _) (Nat.le_refl _) (fun v18 σ18 hp18 hn18 => ?_)
    obtain ⟨rfl, hE, hN⟩ := hp18
    obtain ⟨ws1, wm1, dm1, hid1, g6, gr⟩ := hN
    have hN : IS 6 (shW (nrO t)) c σ18 := ⟨ws1, wm1, dm1, hid1, g6, gr⟩
    refine g_aload eX11_restore_21 rfl ?_
    refine g_get eX11_restore_22 fX11_29_X11 (hE.at (by decide) e0') (by rfl) ?_
    refine g_get eX11_restore_25 fX11_100_X8 g6 (by rfl) ?_
    exact g_ret (eX11_restore_28 _) (Nat.le_refl _) (Nat.le_refl _) ⟨rfl, hI'.core hE hN (fun i hi => ⟨by omega, v3 i hi⟩), hE.fr (by decide)⟩
theorem orW_congr {s u : Nat → Nat} : ∀ {n}, (∀ j, j < n → s j = u j) → orW s n = orW u n
  | 0, _ => rfl
  | n + 1, h => by
    unfold orW
    rw [orW_congr (fun j hj => h j (by omega)), h n (by omega)]
set_option maxRecDepth 20000 in
theorem x_count {σ : aH} {t : St} (hI : IX t σ) (hwf : WF t) {x : Int32} : MX11_count 5 0 0 [.ref 0, .int x] σ (aPu (some (.int (oCount t x))) σ) := by
  refine sX11_count (Nat.le_of_ble_eq_true rfl) ?_
  have hI' := hI
  have hwf' := hwf
  obtain ⟨cd, x0, x1, x2, mr, dws, dsz, bp, bw, bs, e0, e1, e2, e3, e4, e5, e20, e21, e22, e23, e24, ⟨ws, wm, dm, hid, e6, e7, e8, e9, e10, e11, e12, lws, hws, lwm, ldm, bwm, lhid, hhid, hhd⟩, hk, hki, lcd, hcd, bcd, lmr, ldws, lbp, lbw, hmen⟩ := hI
  obtain ⟨w1, w2, w3, w4, w5, ⟨w6, w7, w8, w9, w10, w11, w12⟩, w13, w14, w15, w16, w17⟩ := hwf
  have hC := hwf'.hC
  unfold oCount
  cases e : rg x 0 10 with
  | none =>
    dsimp only
    have hr := rg_none e
    refine g_iload eX11_count_0 rfl ?_
    refine g_tswOut (tgt := 143) eX11_count_1 (by omega) (by decide) ?_
    refine g_push eX11_count_143 ?_
    exact g_ret (eX11_count_145 _) (Nat.le_refl _) (Nat.le_refl _) ⟨rfl, rfl⟩
  | some w =>
    dsimp only
    obtain ⟨rfl, -, hw8⟩ := rg_some e
    rcases (show w = 0 ∨ w = 1 ∨ w = 2 ∨ w = 3 ∨ w = 4 ∨ w = 5 ∨ w = 6 ∨ w = 7 ∨ w = 8 ∨ w = 9 by omega) with rfl | rfl | rfl | rfl | rfl | rfl | rfl | rfl | rfl | rfl
    · refine g_iload eX11_count_0 rfl ?_
      refine g_tswIn (off := 55) (tgt := 56) eX11_count_1 (by decide +kernel) (by decide +kernel) (by decide +kernel) (by decide) ?_
      refine g_aload eX11_count_56 rfl ?_
      refine g_get eX11_count_57 fX11_29_X11 e0 (by rfl) ?_
      refine g_get eX11_count_60 fX11_79_X8 e6 (by rfl) ?_
      refine g_callVp (r := (RX6, TX6, 2)) eX11_count_63 kX11_82 e7 (by rfl) (c_size e7) (by rfl) (by rfl) (by exact Nat.le_of_ble_eq_true rfl) (by exact Nat.le_of_ble_eq_true rfl) (by exact Nat.le_of_ble_eq_true rfl) (Nat.le_refl _) (Nat.le_refl _) ?_
      exact g_ret (eX11_count_66 _) (Nat.le_refl _) (Nat.le_refl _) ⟨rfl, rfl⟩
    · refine g_iload eX11_count_0 rfl ?_
      refine g_tswIn (off := 66) (tgt := 67) eX11_count_1 (by decide +kernel) (by decide +kernel) (by decide +kernel) (by decide) ?_
      refine g_aload eX11_count_67 rfl ?_
      refine g_get eX11_count_68 fX11_29_X11 e0 (by rfl) ?_
      refine g_get eX11_count_71 fX11_103_X8 e6 (by rfl) ?_
      exact g_ret (eX11_count_74 _) (Nat.le_refl _) (Nat.le_refl _) ⟨rfl, rfl⟩
    · refine g_iload eX11_count_0 rfl ?_
      refine g_tswIn (off := 74) (tgt := 75) eX11_count_1 (by decide +kernel) (by decide +kernel) (by decide +kernel) (by decide) ?_
      refine g_aload eX11_count_75 rfl ?_
      refine g_get eX11_count_76 fX11_29_X11 e0 (by rfl) ?_
      refine g_get eX11_count_79 fX11_109_X8 e6 (by rfl) ?_
      exact g_ret (eX11_count_82 _) (Nat.le_refl _) (Nat.le_refl _) ⟨rfl, rfl⟩
    · refine g_iload eX11_count_0 rfl ?_
      refine g_tswIn (off := 82) (tgt := 83) eX11_count_1 (by decide +kernel) (by decide +kernel) (by decide +kernel) (by decide) ?_
      refine g_aload eX11_count_83 rfl ?_
      refine g_aload eX11_count_84 rfl ?_
      refine g_get eX11_count_85 fX11_29_X11 e0 (by rfl) ?_
      refine g_get eX11_count_88 fX11_79_X8 e6 (by rfl) ?_
      refine g_callVp (r := (RX11, TX11, 10)) eX11_count_91 kX11_193 e0 (by rfl) (c_hangingAt hI' hwf' e7 e8 lws w6 hC (shw_eq hws w7)) (by rfl) (by rfl) (by exact Nat.le_of_ble_eq_true rfl) (by exact Nat.le_of_ble_eq_true rfl) (by exact Nat.le_of_ble_eq_true rfl) (Nat.le_refl _) (Nat.le_refl _) ?_
      exact g_ret (eX11_count_94 _) (Nat.le_refl _) (Nat.le_refl _) ⟨congrArg (fun x => some (Value.int (nI x))) (hangN_congr hws), rfl⟩
    · refine g_iload eX11_count_0 rfl ?_
      refine g_tswIn (off := 94) (tgt := 95) eX11_count_1 (by decide +kernel) (by decide +kernel) (by decide +kernel) (by decide) ?_
      refine g_aload eX11_count_95 rfl ?_
      refine g_get eX11_count_96 fX11_29_X11 e0 (by rfl) ?_
      refine g_get eX11_count_99 fX11_79_X8 e6 (by rfl) ?_
      refine g_callVp (r := (RX6, TX6, 2)) eX11_count_102 kX11_204 e7 (by rfl) (c_unlikeWords e7 e8 lws w6 (shw_eq hws w7)) (by rfl) (by rfl) (by exact Nat.le_of_ble_eq_true rfl) (by exact Nat.le_of_ble_eq_true rfl) (by exact Nat.le_of_ble_eq_true rfl) (Nat.le_refl _) (Nat.le_refl _) ?_
      exact g_ret (eX11_count_105 _) (Nat.le_refl _) (Nat.le_refl _) ⟨congrArg (fun x => some (Value.int (nI (popc x)))) (orW_congr hws), rfl⟩
    · refine g_iload eX11_count_0 rfl ?_
      refine g_tswIn (off := 105) (tgt := 106) eX11_count_1 (by decide +kernel) (by decide +kernel) (by decide +kernel) (by decide) ?_
      refine g_aload eX11_count_106 rfl ?_
      refine g_get eX11_count_107 fX11_29_X11 e0 (by rfl) ?_
      refine g_get eX11_count_110 fX11_100_X8 e6 (by rfl) ?_
      exact g_ret (eX11_count_113 _) (Nat.le_refl _) (Nat.le_refl _) ⟨rfl, rfl⟩
    · refine g_iload eX11_count_0 rfl ?_
      refine g_tswIn (off := 113) (tgt := 114) eX11_count_1 (by decide +kernel) (by decide +kernel) (by decide +kernel) (by decide) ?_
      refine g_aload eX11_count_114 rfl ?_
      refine g_get eX11_count_115 fX11_29_X11 e0 (by rfl) ?_
      refine g_get eX11_count_118 fX11_140_X8 e6 (by rfl) ?_
      refine g_callVp (r := (RX3, TX3, 3)) eX11_count_121 kX11_188 e9 (by rfl) (c_hsize e9) (by rfl) (by rfl) (by exact Nat.le_of_ble_eq_true rfl) (by exact Nat.le_of_ble_eq_true rfl) (by exact Nat.le_of_ble_eq_true rfl) (Nat.le_refl _) (Nat.le_refl _) ?_
      exact g_ret (eX11_count_124 _) (Nat.le_refl _) (Nat.le_refl _) ⟨rfl, rfl⟩
    · refine g_iload eX11_count_0 rfl ?_
      refine g_tswIn (off := 124) (tgt := 125) eX11_count_1 (by decide +kernel) (by decide +kernel) (by decide +kernel) (by decide) ?_
      refine g_aload eX11_count_125 rfl ?_
      refine g_get eX11_count_126 fX11_10_X11 e0 (by rfl) ?_
      refine g_callVp (r := (RX5, TX5, 3)) eX11_count_129 kX11_54 e1 (by rfl) (c_psize e1) (by rfl) (by rfl) (by exact Nat.le_of_ble_eq_true rfl) (by exact Nat.le_of_ble_eq_true rfl) (by exact Nat.le_of_ble_eq_true rfl) (Nat.le_refl _) (Nat.le_refl _) ?_
      exact g_ret (eX11_count_132 _) (Nat.le_refl _) (Nat.le_refl _) ⟨rfl, rfl⟩
    · refine g_iload eX11_count_0 rfl ?_
      refine g_tswIn (off := 132) (tgt := 133) eX11_count_1 (by decide +kernel) (by decide +kernel) (by decide +kernel) (by decide) ?_
      refine g_aload eX11_count_133 rfl ?_
      refine g_get eX11_count_134 fX11_75_X11 e0 (by rfl) ?_
      exact g_ret (eX11_count_137 _) (Nat.le_refl _) (Nat.le_refl _) ⟨rfl, rfl⟩
    · refine g_iload eX11_count_0 rfl ?_
      refine g_tswIn (off := 137) (tgt := 138) eX11_count_1 (by decide +kernel) (by decide +kernel) (by decide +kernel) (by decide) ?_
      refine g_aload eX11_count_138 rfl ?_
      refine g_get eX11_count_139 fX11_159_X11 e0 (by rfl) ?_
      exact g_ret (eX11_count_142 _) (Nat.le_refl _) (Nat.le_refl _) ⟨rfl, rfl⟩
