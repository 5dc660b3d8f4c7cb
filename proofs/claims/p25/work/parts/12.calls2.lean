/-! the class's calls: blank, fault, near, word, put, limit -/
theorem wfa_congr {p q : Nat → Nat} : ∀ d k s, (∀ j, j < k + d → p j = q j) → wfa p d k s = wfa q d k s
  | 0, _, _, _ => rfl
  | d + 1, k, s, h => by
    unfold wfa
    rw [h k (by omega)]
    cases wstep s (q k) with
    | none => rfl
    | some s' => exact wfa_congr d (k + 1) s' (fun j hj => h j (by omega))
theorem wcourt_congr {p q : Nat → Nat} {n : Nat} (h : ∀ j, j < n → p j = q j) : wcourt p n = wcourt q n := by
  unfold wcourt
  rw [wfa_congr n 0 (0, 0, 0) (fun j hj => h j (by omega))]
set_option maxRecDepth 20000 in
theorem x_fault {σ : aH} {t : St} (hI : IX t σ) (hwf : WF t)  : MX11_fault 3 0 0 [.ref 0] σ (fun v σ' => v = some (.int (oFault t)) ∧ IX t σ' ∧ FrX σ σ') := by
  refine sX11_fault (Nat.le_of_ble_eq_true rfl) ?_
  have hI' := hI
  have hwf' := hwf
  obtain ⟨cd, x0, x1, x2, mr, dws, dsz, bp, bw, bs, e0, e1, e2, e3, e4, e5, e20, e21, e22, e23, e24, ⟨ws, wm, dm, hid, e6, e7, e8, e9, e10, e11, e12, lws, hws, lwm, ldm, bwm, lhid, hhid, hhd⟩, hk, hki, lcd, hcd, bcd, lmr, ldws, lbp, lbw, hmen⟩ := hI
  obtain ⟨w1, w2, w3, w4, w5, ⟨w6, w7, w8, w9, w10, w11, w12⟩, w13, w14, w15, w16, w17⟩ := hwf
  refine g_aload eX11_fault_0 rfl ?_
  refine g_get eX11_fault_1 fX11_10_X11 e0 (by rfl) ?_
  refine g_callVp (r := (RX5, TX5, 3)) eX11_fault_4 kX11_61 e1 (by rfl) (c_faultPlace e1 e2 lcd w1 e3 (by decide) (by decide) bcd) (by rfl) (by rfl) (by exact Nat.le_of_ble_eq_true rfl) (by exact Nat.le_of_ble_eq_true rfl) (by exact Nat.le_of_ble_eq_true rfl) (Nat.le_refl _) (Nat.le_refl _) ?_
  exact g_ret (eX11_fault_7 _) (Nat.le_refl _) (Nat.le_refl _) ⟨by unfold oFault; rw [wfa_congr (p := shW cd) (q := shW (pgO t)) _ _ _ (fun j hj => hcd j (by omega))], hI'.junk (EqO.rf.st (by decide)) (at_eq e3) (at_ne (by decide) e20) (at_ne (by decide) e21) (at_ne (by decide) e22) (at_ne (by decide) e23) (at_ne (by decide) e24) ldws lbp lbw, FrX.rf.st (by decide)⟩
theorem bt_lt (b : Bool) : b.toNat < 2147483648 := Nat.lt_of_le_of_lt (Bool.toNat_le b) (by decide)
theorem bt_0 {P : Prop} [Decidable P] (h : (decide P).toNat = 0) : ¬ P := fun p => by rw [decide_eq_true p] at h; cases h
theorem bt_1 {P : Prop} [Decidable P] (h : ¬ (decide P).toNat = 0) : P := Classical.byContradiction fun p => h (by rw [decide_eq_false p]; rfl)
set_option maxRecDepth 20000 in
theorem x_near {σ : aH} {t : St} (hI : IX t σ) (hwf : WF t) {x : Int32} : MX11_near 1 0 0 [.ref 0, .int x] σ (aPu (some (.int (oNear t x))) σ) := by
  refine sX11_near (Nat.le_of_ble_eq_true rfl) ?_
  have hI' := hI
  have hwf' := hwf
  obtain ⟨cd, x0, x1, x2, mr, dws, dsz, bp, bw, bs, e0, e1, e2, e3, e4, e5, e20, e21, e22, e23, e24, ⟨ws, wm, dm, hid, e6, e7, e8, e9, e10, e11, e12, lws, hws, lwm, ldm, bwm, lhid, hhid, hhd⟩, hk, hki, lcd, hcd, bcd, lmr, ldws, lbp, lbw, hmen⟩ := hI
  obtain ⟨w1, w2, w3, w4, w5, ⟨w6, w7, w8, w9, w10, w11, w12⟩, w13, w14, w15, w16, w17⟩ := hwf
  unfold oNear
  cases e : rg x 0 5 with
  | none =>
    dsimp only
    have hr := rg_none e
    refine g_aload eX11_near_0 rfl ?_
    refine g_callVp (r := (RX11, TX11, 10)) eX11_near_1 kX11_83 e0 (by rfl) (c_hasCourt hI' hwf') (by rfl) (by rfl) (by exact Nat.le_of_ble_eq_true rfl) (by exact Nat.le_of_ble_eq_true rfl) (by exact Nat.le_of_ble_eq_true rfl) (Nat.le_refl _) (Nat.le_refl _) ?_
    refine g_if_eqN eX11_near_4 (bt_lt _) (fun c4 => ?_) (fun c4 => ?_)
    · refine g_push eX11_near_16 ?_
      exact g_ret (eX11_near_18 _) (Nat.le_refl _) (Nat.le_refl _) ⟨rfl, rfl⟩
    · refine g_iload eX11_near_7 rfl ?_
      refine g_if_ltI eX11_near_8 (fun c8 => ?_) (fun c8 => ?_)
      · refine g_push eX11_near_16 ?_
        exact g_ret (eX11_near_18 _) (Nat.le_refl _) (Nat.le_refl _) ⟨rfl, rfl⟩
      · refine g_iload eX11_near_11 rfl ?_
        refine g_push eX11_near_12 ?_
        refine g_icmp_ltI eX11_near_13 (by decide) (fun c13 => by exfalso; omega) (fun c13 => ?_)
        refine g_push eX11_near_16 ?_
        exact g_ret (eX11_near_18 _) (Nat.le_refl _) (Nat.le_refl _) ⟨rfl, rfl⟩
  | some d =>
    dsimp only
    obtain ⟨rfl, -, hc2⟩ := rg_some e
    refine g_aload eX11_near_0 rfl ?_
    refine g_callVp (r := (RX11, TX11, 10)) eX11_near_1 kX11_83 e0 (by rfl) (c_hasCourt hI' hwf') (by rfl) (by rfl) (by exact Nat.le_of_ble_eq_true rfl) (by exact Nat.le_of_ble_eq_true rfl) (by exact Nat.le_of_ble_eq_true rfl) (Nat.le_refl _) (Nat.le_refl _) ?_
    refine g_if_eqN eX11_near_4 (bt_lt _) (fun c4 => ?_) (fun c4 => ?_)
    · have hno := bt_0 c4
      refine g_push eX11_near_16 ?_
      exact g_ret (eX11_near_18 _) (Nat.le_refl _) (Nat.le_refl _) ⟨by rw [if_neg hno], rfl⟩
    · have hyes := bt_1 c4
      refine g_iload eX11_near_7 rfl ?_
      refine g_if_ltN eX11_near_8 (by omega) ?_
      refine g_iload eX11_near_11 rfl ?_
      refine g_push eX11_near_12 ?_
      refine g_icmp_ltN eX11_near_13 (by omega) (by omega) (fun c13 => ?_) (fun c13 => by exfalso; omega)
      refine g_aload eX11_near_19 rfl ?_
      refine g_get eX11_near_20 fX11_16_X11 e0 (by rfl) ?_
      refine g_iload eX11_near_23 rfl ?_
      refine g_ialdN eX11_near_24 e4 (by omega) (by omega) ?_
      exact g_ret (eX11_near_25 _) (Nat.le_refl _) (Nat.le_refl _) ⟨by rw [if_pos hyes], rfl⟩
set_option maxRecDepth 20000 in
theorem x_word {σ : aH} {t : St} (hI : IX t σ) (hwf : WF t) {x : Int32} : MX11_word 2 0 0 [.ref 0, .int x] σ (aPu (some (.int (oWord t x))) σ) := by
  refine sX11_word (Nat.le_of_ble_eq_true rfl) ?_
  have hI' := hI
  have hwf' := hwf
  obtain ⟨cd, x0, x1, x2, mr, dws, dsz, bp, bw, bs, e0, e1, e2, e3, e4, e5, e20, e21, e22, e23, e24, ⟨ws, wm, dm, hid, e6, e7, e8, e9, e10, e11, e12, lws, hws, lwm, ldm, bwm, lhid, hhid, hhd⟩, hk, hki, lcd, hcd, bcd, lmr, ldws, lbp, lbw, hmen⟩ := hI
  obtain ⟨w1, w2, w3, w4, w5, ⟨w6, w7, w8, w9, w10, w11, w12⟩, w13, w14, w15, w16, w17⟩ := hwf
  unfold oWord
  cases e : rg x 0 (shO (crO t)).length with
  | none =>
    dsimp only
    have hr := rg_none e
    refine g_aload eX11_word_0 rfl ?_
    refine g_get eX11_word_1 fX11_29_X11 e0 (by rfl) ?_
    refine g_get eX11_word_4 fX11_79_X8 e6 (by rfl) ?_
    refine g_iload eX11_word_7 rfl ?_
    refine g_callVp (r := (RX6, TX6, 2)) eX11_word_8 kX11_86 e7 (by rfl) (c_hasN e7 w6 hr) (by rfl) (by rfl) (by exact Nat.le_of_ble_eq_true rfl) (by exact Nat.le_of_ble_eq_true rfl) (by exact Nat.le_of_ble_eq_true rfl) (Nat.le_refl _) (Nat.le_refl _) ?_
    refine g_if_eqN eX11_word_11 (by omega) (fun c11 => ?_) (fun c11 => absurd rfl c11)
    refine g_push eX11_word_28 ?_
    exact g_ret (eX11_word_30 _) (Nat.le_refl _) (Nat.le_refl _) ⟨rfl, rfl⟩
  | some k =>
    dsimp only
    obtain ⟨rfl, -, hk2⟩ := rg_some e (by omega)
    rw [← hws k hk2]
    refine g_aload eX11_word_0 rfl ?_
    refine g_get eX11_word_1 fX11_29_X11 e0 (by rfl) ?_
    refine g_get eX11_word_4 fX11_79_X8 e6 (by rfl) ?_
    refine g_iload eX11_word_7 rfl ?_
    refine g_callVp (r := (RX6, TX6, 2)) eX11_word_8 kX11_86 e7 (by rfl) (c_hasT e7 w6 hk2) (by rfl) (by rfl) (by exact Nat.le_of_ble_eq_true rfl) (by exact Nat.le_of_ble_eq_true rfl) (by exact Nat.le_of_ble_eq_true rfl) (Nat.le_refl _) (Nat.le_refl _) ?_
    refine g_if_eqN eX11_word_11 (by omega) (fun c11 => absurd c11 (by decide)) (fun c11 => ?_)
    refine g_aload eX11_word_14 rfl ?_
    refine g_get eX11_word_15 fX11_29_X11 e0 (by rfl) ?_
    refine g_get eX11_word_18 fX11_79_X8 e6 (by rfl) ?_
    refine g_iload eX11_word_21 rfl ?_
    refine g_callVp (r := (RX6, TX6, 2)) eX11_word_22 kX11_89 e7 (by rfl) (c_at e7 e8 lws w6 hk2) (by rfl) (by rfl) (by exact Nat.le_of_ble_eq_true rfl) (by exact Nat.le_of_ble_eq_true rfl) (by exact Nat.le_of_ble_eq_true rfl) (Nat.le_refl _) (Nat.le_refl _) ?_
    refine g_goto eX11_word_25 ?_
    exact g_ret (eX11_word_30 _) (Nat.le_refl _) (Nat.le_refl _) ⟨rfl, rfl⟩
set_option maxRecDepth 20000 in
theorem x_put {σ : aH} {t : St} (hI : IX t σ) (hwf : WF t) {x y : Int32} : MX11_put 2 0 0 [.ref 0, .int x, .int y] σ (fun v σ' => v = some (.int (oPut t x y).1) ∧ IX (oPut t x y).2 σ' ∧ FrX σ σ') := by
  refine sX11_put (Nat.le_of_ble_eq_true rfl) ?_
  have hI' := hI
  have hwf' := hwf
  obtain ⟨cd, x0, x1, x2, mr, dws, dsz, bp, bw, bs, e0, e1, e2, e3, e4, e5, e20, e21, e22, e23, e24, ⟨ws, wm, dm, hid, e6, e7, e8, e9, e10, e11, e12, lws, hws, lwm, ldm, bwm, lhid, hhid, hhd⟩, hk, hki, lcd, hcd, bcd, lmr, ldws, lbp, lbw, hmen⟩ := hI
  obtain ⟨w1, w2, w3, w4, w5, ⟨w6, w7, w8, w9, w10, w11, w12⟩, w13, w14, w15, w16, w17⟩ := hwf
  unfold oPut
  cases e : rg x 0 (shO (crO t)).length with
  | none =>
    dsimp only
    have hr := rg_none e
    refine g_aload eX11_put_0 rfl ?_
    refine g_get eX11_put_1 fX11_29_X11 e0 (by rfl) ?_
    refine g_get eX11_put_4 fX11_79_X8 e6 (by rfl) ?_
    refine g_iload eX11_put_7 rfl ?_
    refine g_callVp (r := (RX6, TX6, 2)) eX11_put_8 kX11_86 e7 (by rfl) (c_hasN e7 w6 hr) (by rfl) (by rfl) (by exact Nat.le_of_ble_eq_true rfl) (by exact Nat.le_of_ble_eq_true rfl) (by exact Nat.le_of_ble_eq_true rfl) (Nat.le_refl _) (Nat.le_refl _) ?_
    refine g_if_neN eX11_put_11 (by omega) (fun c11 => absurd rfl c11) (fun c11 => ?_)
    refine g_push eX11_put_14 ?_
    exact g_ret (eX11_put_16 _) (Nat.le_refl _) (Nat.le_refl _) ⟨rfl, hI', FrX.rf⟩
  | some k =>
    dsimp only
    obtain ⟨rfl, -, hk2⟩ := rg_some e (by omega)
    cases f : rg y 0 8 with
    | none =>
      dsimp only
      have hr := rg_none f
      refine g_aload eX11_put_0 rfl ?_
      refine g_get eX11_put_1 fX11_29_X11 e0 (by rfl) ?_
      refine g_get eX11_put_4 fX11_79_X8 e6 (by rfl) ?_
      refine g_iload eX11_put_7 rfl ?_
      refine g_callVp (r := (RX6, TX6, 2)) eX11_put_8 kX11_86 e7 (by rfl) (c_hasT e7 w6 hk2) (by rfl) (by rfl) (by exact Nat.le_of_ble_eq_true rfl) (by exact Nat.le_of_ble_eq_true rfl) (by exact Nat.le_of_ble_eq_true rfl) (Nat.le_refl _) (Nat.le_refl _) ?_
      refine g_if_neN eX11_put_11 (by omega) (fun c11 => ?_) (fun c11 => absurd c11 (by decide))
      refine g_iload eX11_put_17 rfl ?_
      refine g_callSp eX11_put_18 kX11_93 (c_isWordN hr) (by rfl) (by rfl) (by exact Nat.le_of_ble_eq_true rfl) (by exact Nat.le_of_ble_eq_true rfl) (by exact Nat.le_of_ble_eq_true rfl) (Nat.le_refl _) (Nat.le_refl _) ?_
      refine g_if_neN eX11_put_21 (by omega) (fun c21 => absurd rfl c21) (fun c21 => ?_)
      refine g_push eX11_put_24 ?_
      exact g_ret (eX11_put_26 _) (Nat.le_refl _) (Nat.le_refl _) ⟨rfl, hI', FrX.rf⟩
    | some w =>
      dsimp only
      obtain ⟨rfl, -, hw2⟩ := rg_some f
      refine g_aload eX11_put_0 rfl ?_
      refine g_get eX11_put_1 fX11_29_X11 e0 (by rfl) ?_
      refine g_get eX11_put_4 fX11_79_X8 e6 (by rfl) ?_
      refine g_iload eX11_put_7 rfl ?_
      refine g_callVp (r := (RX6, TX6, 2)) eX11_put_8 kX11_86 e7 (by rfl) (c_hasT e7 w6 hk2) (by rfl) (by rfl) (by exact Nat.le_of_ble_eq_true rfl) (by exact Nat.le_of_ble_eq_true rfl) (by exact Nat.le_of_ble_eq_true rfl) (Nat.le_refl _) (Nat.le_refl _) ?_
      refine g_if_neN eX11_put_11 (by omega) (fun c11 => ?_) (fun c11 => absurd c11 (by decide))
      refine g_iload eX11_put_17 rfl ?_
      refine g_callSp eX11_put_18 kX11_93 (c_isWordT hw2) (by rfl) (by rfl) (by exact Nat.le_of_ble_eq_true rfl) (by exact Nat.le_of_ble_eq_true rfl) (by exact Nat.le_of_ble_eq_true rfl) (Nat.le_refl _) (Nat.le_refl _) ?_
      refine g_if_neN eX11_put_21 (by omega) (fun c21 => ?_) (fun c21 => absurd c21 (by decide))
      refine g_aload eX11_put_27 rfl ?_
      refine g_get eX11_put_28 fX11_29_X11 e0 (by rfl) ?_
      refine g_get eX11_put_31 fX11_79_X8 e6 (by rfl) ?_
      refine g_iload eX11_put_34 rfl ?_
      refine g_callVp (r := (RX6, TX6, 2)) eX11_put_35 kX11_89 e7 (by rfl) (c_at e7 e8 lws w6 hk2) (by rfl) (by rfl) (by exact Nat.le_of_ble_eq_true rfl) (by exact Nat.le_of_ble_eq_true rfl) (by exact Nat.le_of_ble_eq_true rfl) (Nat.le_refl _) (Nat.le_refl _) ?_
      refine g_istore eX11_put_38 rfl ?_
      refine g_aload eX11_put_39 rfl ?_
      refine g_get eX11_put_40 fX11_29_X11 e0 (by rfl) ?_
      refine g_get eX11_put_43 fX11_79_X8 e6 (by rfl) ?_
      refine g_iload eX11_put_46 rfl ?_
      refine g_iload eX11_put_47 rfl ?_
      refine g_callVp (r := (RX6, TX6, 2)) eX11_put_48 kX11_96 e7 (by rfl) (c_set e7 e8 lws w6 (v := w) hk2) (by rfl) (by rfl) (by exact Nat.le_of_ble_eq_true rfl) (by exact Nat.le_of_ble_eq_true rfl) (by exact Nat.le_of_ble_eq_true rfl) (Nat.le_refl _) (Nat.le_refl _) ?_
      refine g_aload eX11_put_51 rfl ?_
      refine g_get eX11_put_52 fX11_29_X11 (at_ne (by decide) e0) (by rfl) ?_
      refine g_dup eX11_put_55 rfl ?_
      refine g_get eX11_put_56 fX11_100_X8 (at_ne (by decide) e6) (by rfl) ?_
      refine g_push eX11_put_59 ?_
      refine g_iaddN eX11_put_60 ?_
      refine g_putI eX11_put_61 fX11_100_X8 pX8_5 (at_ne (by decide) e6) (by exact Nat.le_of_ble_eq_true rfl) ?_
      refine g_iload eX11_put_64 rfl ?_
      exact g_ret (eX11_put_65 _) (Nat.le_refl _) (Nat.le_refl _) ⟨by rw [hws k hk2], hI'.core ((EqO.rf.st (by decide)).st (by decide)) ⟨ws.set k w, wm, dm, hid, at_eq (at_ne (by decide) e6), by rw [List.length_set]; exact (at_ne (by decide) (at_ne (by decide) e7)), at_ne (by decide) (at_eq e8), (at_ne (by decide) (at_ne (by decide) e9)), (at_ne (by decide) (at_ne (by decide) e10)), (at_ne (by decide) (at_ne (by decide) e11)), (at_ne (by decide) (at_ne (by decide) e12)), by rw [List.length_set]; exact lws, fun j hj => by
            rw [List.length_set] at hj
            rw [getD_set, getD_set, hws j hj, lws]
            by_cases hkj : k = j
            · rw [if_pos ⟨hkj, by omega⟩, if_pos ⟨hkj, hk2⟩]
            · rw [if_neg (fun z => hkj z.1), if_neg (fun z => hkj z.1)], lwm, ldm, bwm, lhid, hhid, hhd⟩ (fun i hi => ⟨hi, rfl, rfl⟩), (FrX.rf.st (by decide)).st (by decide)⟩
set_option maxRecDepth 20000 in
theorem x_limit {σ : aH} {t : St} (hI : IX t σ) (hwf : WF t) {x : Int32} : MX11_limit 1 0 0 [.ref 0, .int x] σ (fun v σ' => v = some (.int (oLimit t x).1) ∧ IX (oLimit t x).2 σ' ∧ FrX σ σ') := by
  refine sX11_limit (Nat.le_of_ble_eq_true rfl) ?_
  have hI' := hI
  have hwf' := hwf
  obtain ⟨cd, x0, x1, x2, mr, dws, dsz, bp, bw, bs, e0, e1, e2, e3, e4, e5, e20, e21, e22, e23, e24, ⟨ws, wm, dm, hid, e6, e7, e8, e9, e10, e11, e12, lws, hws, lwm, ldm, bwm, lhid, hhid, hhd⟩, hk, hki, lcd, hcd, bcd, lmr, ldws, lbp, lbw, hmen⟩ := hI
  obtain ⟨w1, w2, w3, w4, w5, ⟨w6, w7, w8, w9, w10, w11, w12⟩, w13, w14, w15, w16, w17⟩ := hwf
  unfold oLimit
  cases e : rg x 1 11 with
  | none =>
    dsimp only
    have hr := rg_none e
    refine g_iload eX11_limit_0 rfl ?_
    refine g_push eX11_limit_1 ?_
    refine g_icmp_ltI eX11_limit_2 (by decide) (fun c2 => ?_) (fun c2 => ?_)
    · refine g_push eX11_limit_11 ?_
      exact g_ret (eX11_limit_13 _) (Nat.le_refl _) (Nat.le_refl _) ⟨rfl, hI', FrX.rf⟩
    · refine g_iload eX11_limit_5 rfl ?_
      refine g_push eX11_limit_6 ?_
      refine g_icmp_leI eX11_limit_8 (by decide) (fun c8 => by exfalso; omega) (fun c8 => ?_)
      refine g_push eX11_limit_11 ?_
      exact g_ret (eX11_limit_13 _) (Nat.le_refl _) (Nat.le_refl _) ⟨rfl, hI', FrX.rf⟩
  | some v =>
    dsimp only
    obtain ⟨rfl, hv1, hv2⟩ := rg_some e
    refine g_iload eX11_limit_0 rfl ?_
    refine g_push eX11_limit_1 ?_
    refine g_icmp_ltN eX11_limit_2 (by omega) (by omega) (fun c2 => by exfalso; omega) (fun c2 => ?_)
    refine g_iload eX11_limit_5 rfl ?_
    refine g_push eX11_limit_6 ?_
    refine g_icmp_leN eX11_limit_8 (by omega) (by omega) (fun c8 => ?_) (fun c8 => by exfalso; omega)
    refine g_aload eX11_limit_14 rfl ?_
    refine g_callVp (r := (RX11, TX11, 10)) eX11_limit_15 kX11_83 e0 (by rfl) (c_hasCourt hI' hwf') (by rfl) (by rfl) (by exact Nat.le_of_ble_eq_true rfl) (by exact Nat.le_of_ble_eq_true rfl) (by exact Nat.le_of_ble_eq_true rfl) (Nat.le_refl _) (Nat.le_refl _) ?_
    refine g_if_neN eX11_limit_18 (bt_lt _) (fun c18 => ?_) (fun c18 => ?_)
    · have hyes := bt_1 c18
      refine g_aload eX11_limit_24 rfl ?_
      refine g_get eX11_limit_25 fX11_29_X11 e0 (by rfl) ?_
      refine g_get eX11_limit_28 fX11_103_X8 e6 (by rfl) ?_
      refine g_istore eX11_limit_31 rfl ?_
      refine g_aload eX11_limit_32 rfl ?_
      refine g_get eX11_limit_33 fX11_29_X11 e0 (by rfl) ?_
      refine g_iload eX11_limit_36 rfl ?_
      refine g_putI eX11_limit_37 fX11_103_X8 pX8_3 e6 (by exact Nat.le_of_ble_eq_true rfl) ?_
      refine g_aload eX11_limit_40 rfl ?_
      refine g_get eX11_limit_41 fX11_29_X11 (at_ne (by decide) e0) (by rfl) ?_
      refine g_dup eX11_limit_44 rfl ?_
      refine g_get eX11_limit_45 fX11_100_X8 (at_eq e6) (by rfl) ?_
      refine g_push eX11_limit_48 ?_
      refine g_iaddN eX11_limit_49 ?_
      refine g_putI eX11_limit_50 fX11_100_X8 pX8_5 (at_eq e6) (by exact Nat.le_of_ble_eq_true rfl) ?_
      refine g_iload eX11_limit_53 rfl ?_
      exact g_ret (eX11_limit_54 _) (Nat.le_refl _) (Nat.le_refl _) (by
            rw [if_pos hyes]
            exact ⟨rfl, hI'.core ((EqO.rf.st (by decide)).st (by decide)) ⟨ws, wm, dm, hid, at_eq (at_eq e6), (at_ne (by decide) (at_ne (by decide) e7)), (at_ne (by decide) (at_ne (by decide) e8)), (at_ne (by decide) (at_ne (by decide) e9)), (at_ne (by decide) (at_ne (by decide) e10)), (at_ne (by decide) (at_ne (by decide) e11)), (at_ne (by decide) (at_ne (by decide) e12)), lws, hws, lwm, ldm, bwm, lhid, hhid, hhd⟩ (fun i hi => ⟨hi, rfl, rfl⟩), (FrX.rf.st (by decide)).st (by decide)⟩)
    · have hno := bt_0 c18
      refine g_push eX11_limit_21 ?_
      exact g_ret (eX11_limit_23 _) (Nat.le_refl _) (Nat.le_refl _) (by rw [if_neg hno]; exact ⟨rfl, hI', FrX.rf⟩)
