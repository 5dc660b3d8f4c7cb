/-! the class's calls: trials, brief, digest -/
theorem drw_lt (x k : Nat) : drw x k < 8 := Nat.mod_lt _ (by decide)
theorem trl_sd (t : St) (x : Nat) (h : x < 2147483648) : ∀ n, (trl t x n).2.2 < 2147483648
  | 0 => h
  | n + 1 => sdN_lt (trl_sd t x h n) _
set_option maxRecDepth 20000 in
theorem x_trials {σ : aH} {t : St} (hI : IX t σ) (hwf : WF t) {x y z : Int32} : MX11_trials 5 0 0 [.ref 0, .int x, .int y, .int z] σ (fun v σ' => v = some (.int (oTrials t x y z)) ∧ IX t σ' ∧ FrX σ σ') := by
  refine sX11_trials (Nat.le_of_ble_eq_true rfl) ?_
  have hI' := hI
  have hwf' := hwf
  obtain ⟨cd, x0, x1, x2, mr, dws, dsz, bp, bw, bs, e0, e1, e2, e3, e4, e5, e20, e21, e22, e23, e24, ⟨ws, wm, dm, hid, e6, e7, e8, e9, e10, e11, e12, lws, hws, lwm, ldm, bwm, lhid, hhid, hhd⟩, hk, hki, lcd, hcd, bcd, lmr, ldws, lbp, lbw, hmen⟩ := hI
  obtain ⟨w1, w2, w3, w4, w5, ⟨w6, w7, w8, w9, w10, w11, w12⟩, w13, w14, w15, w16, w17⟩ := hwf
  have hC := hwf'.hC
  have hSs := hwf'.hS
  unfold oTrials
  cases e : rg x 1 41 with
  | none =>
    dsimp only
    have hr := rg_none e
    refine g_iload eX11_trials_0 rfl ?_
    refine g_push eX11_trials_1 ?_
    refine g_icmp_ltI eX11_trials_2 (by decide) (fun c2 => ?_) (fun c2 => ?_)
    · refine g_push eX11_trials_24 ?_
      exact g_ret (eX11_trials_26 _) (Nat.le_refl _) (Nat.le_refl _) ⟨rfl, hI', FrX.rf⟩
    · refine g_iload eX11_trials_5 rfl ?_
      refine g_push eX11_trials_6 ?_
      refine g_icmp_gtI eX11_trials_8 (by decide) (fun c8 => ?_) (fun c8 => by exfalso; omega)
      refine g_push eX11_trials_24 ?_
      exact g_ret (eX11_trials_26 _) (Nat.le_refl _) (Nat.le_refl _) ⟨rfl, hI', FrX.rf⟩
  | some m =>
    dsimp only
    obtain ⟨rfl, hm1, hm2⟩ := rg_some e
    cases f : rg y 0 2147483648 with
    | none =>
      dsimp only
      have hr := rg_none f
      have hym := Int32.toInt_lt y
      refine g_iload eX11_trials_0 rfl ?_
      refine g_push eX11_trials_1 ?_
      refine g_icmp_ltN eX11_trials_2 (by omega) (by omega) (fun c2 => by exfalso; omega) (fun c2 => ?_)
      refine g_iload eX11_trials_5 rfl ?_
      refine g_push eX11_trials_6 ?_
      refine g_icmp_gtN eX11_trials_8 (by omega) (by omega) (fun c8 => by exfalso; omega) (fun c8 => ?_)
      refine g_iload eX11_trials_11 rfl ?_
      refine g_if_ltI eX11_trials_12 (fun c12 => ?_) (fun c12 => by exfalso; omega)
      refine g_push eX11_trials_24 ?_
      exact g_ret (eX11_trials_26 _) (Nat.le_refl _) (Nat.le_refl _) ⟨rfl, hI', FrX.rf⟩
    | some sd =>
      dsimp only
      obtain ⟨rfl, -, hsd⟩ := rg_some f
      cases g : rg z 0 3 with
      | none =>
        dsimp only
        have hr := rg_none g
        refine g_iload eX11_trials_0 rfl ?_
        refine g_push eX11_trials_1 ?_
        refine g_icmp_ltN eX11_trials_2 (by omega) (by omega) (fun c2 => by exfalso; omega) (fun c2 => ?_)
        refine g_iload eX11_trials_5 rfl ?_
        refine g_push eX11_trials_6 ?_
        refine g_icmp_gtN eX11_trials_8 (by omega) (by omega) (fun c8 => by exfalso; omega) (fun c8 => ?_)
        refine g_iload eX11_trials_11 rfl ?_
        refine g_if_ltN eX11_trials_12 (by omega) ?_
        refine g_iload eX11_trials_15 rfl ?_
        refine g_if_ltI eX11_trials_16 (fun c16 => ?_) (fun c16 => ?_)
        · refine g_push eX11_trials_24 ?_
          exact g_ret (eX11_trials_26 _) (Nat.le_refl _) (Nat.le_refl _) ⟨rfl, hI', FrX.rf⟩
        · refine g_iload eX11_trials_19 rfl ?_
          refine g_push eX11_trials_20 ?_
          refine g_icmp_leI eX11_trials_21 (by decide) (fun c21 => by exfalso; omega) (fun c21 => ?_)
          refine g_push eX11_trials_24 ?_
          exact g_ret (eX11_trials_26 _) (Nat.le_refl _) (Nat.le_refl _) ⟨rfl, hI', FrX.rf⟩
      | some w =>
        dsimp only
        obtain ⟨rfl, -, hw3⟩ := rg_some g
        by_cases hyes : hasC t
        · skip
          rw [if_pos hyes]
          have hz : 0 < (shO (crO t)).length := hSs.mp hyes
          have key : ∀ d j τ, j + d = m → IX t τ → FrX σ τ → GX11_trials 5 0 0 (fun v σ' => v = some (.int (trW w (trl t sd m))) ∧ IX t σ' ∧ FrX σ σ') 0 0 49 [some (.ref 0), some (.int (nI m)), some (.int (nI sd)), some (.int (nI w)), some (.int (nI (trl t sd j).1)), some (.int (nI (trl t sd j).2.1)), some (.int (nI (trl t sd j).2.2)), some (.int (nI j))] [] τ := by
            intro d
            induction d with
            | zero =>
              intro j τ hj hT hF
              obtain rfl : j = m := by omega
              refine g_iload eX11_trials_49 rfl ?_
              refine g_iload eX11_trials_51 rfl ?_
              refine g_icmp_geN eX11_trials_52 (by omega) (by omega) (fun c52 => ?_) (fun c52 => by exfalso; omega)
              refine g_iload eX11_trials_95 rfl ?_
              refine g_if_neN eX11_trials_96 (by omega) (fun c96 => ?_) (fun c96 => ?_)
              · obtain ⟨w, rfl⟩ := Nat.exists_eq_succ_of_ne_zero c96
                refine g_iload eX11_trials_102 rfl ?_
                refine g_push eX11_trials_103 ?_
                refine g_icmp_neN eX11_trials_104 (by omega) (by omega) (fun c104 => ?_) (fun c104 => ?_)
                · obtain ⟨w, rfl⟩ := Nat.exists_eq_succ_of_ne_zero (fun z : w = 0 => c104 (by rw [z]))
                  refine g_iload eX11_trials_112 rfl ?_
                  exact g_ret (eX11_trials_114 _) (Nat.le_refl _) (Nat.le_refl _) ⟨rfl, hT, hF⟩
                · obtain rfl : w = 0 := by omega
                  refine g_iload eX11_trials_107 rfl ?_
                  refine g_goto eX11_trials_109 ?_
                  exact g_ret (eX11_trials_114 _) (Nat.le_refl _) (Nat.le_refl _) ⟨rfl, hT, hF⟩
              · subst c96
                refine g_iload eX11_trials_99 rfl ?_
                exact g_ret (eX11_trials_101 _) (Nat.le_refl _) (Nat.le_refl _) ⟨rfl, hT, hF⟩
            | succ d ih =>
              intro j τ hj hT hF
              have hT' := hT
              have hsj := trl_sd t sd hsd j
              obtain ⟨_, _, _, _, _, _, _, _, _, _, a0, -⟩ := hT
              refine g_iload eX11_trials_49 rfl ?_
              refine g_iload eX11_trials_51 rfl ?_
              refine g_icmp_geN eX11_trials_52 (by omega) (by omega) (fun c52 => by exfalso; omega) (fun c52 => ?_)
              refine g_aload eX11_trials_55 rfl ?_
              refine g_iload eX11_trials_56 rfl ?_
              refine g_callV0 (r := (RX11, TX11, 10)) eX11_trials_58 kX11_190 a0 (by rfl) (c_drawSheet hT' hwf' hsj) (by rfl) (by rfl) (by exact Nat.le_of_ble_eq_true rfl) (by exact Nat.le_of_ble_eq_true rfl) (by exact Nat.le_of_ble_eq_true rfl) (Nat.le_refl _) (Nat.le_refl _) (fun v58 σ58 hp58 hn58 => ?_)
              obtain ⟨w', lw', hw', rfl, hE, k20, k21⟩ := hp58
              have hT2 : IX t σ58 := by
                have hT3 := hT'
                obtain ⟨_, _, _, _, _, _, _, _, _, _, -, -, -, b3, -, -, -, -, b22, b23, b24, -, -, -, -, -, -, -, -, l2, l3, -⟩ := hT3
                exact hT'.junk (hE.mono (by decide)) (hE.at (by decide) b3) k20 k21 (hE.at (by decide) b22) (hE.at (by decide) b23) (hE.at (by decide) b24) lw' l2 l3
              have a0 := hE.at (by decide) a0
              have h8 : ∀ k, k < (shO (crO t)).length → w'.getD k 0 < 8 := fun k hk => by rw [hw' k hk]; exact drw_lt _ _
              have hF2 : FrX σ σ58 := hF.tr (hE.fr (by decide))
              refine g_istore eX11_trials_61 rfl ?_
              refine g_iload eX11_trials_63 rfl ?_
              refine g_aload eX11_trials_65 rfl ?_
              refine g_aload eX11_trials_66 rfl ?_
              refine g_get eX11_trials_67 fX11_39_X11 a0 (by rfl) ?_
              refine g_callVp (r := (RX11, TX11, 10)) eX11_trials_70 kX11_193 a0 (by rfl) (c_hangingAt hT2 hwf' k20 k21 lw' w6 hC h8) (by rfl) (by rfl) (by exact Nat.le_of_ble_eq_true rfl) (by exact Nat.le_of_ble_eq_true rfl) (by exact Nat.le_of_ble_eq_true rfl) (Nat.le_refl _) (Nat.le_refl _) ?_
              rw [show hangN t (shW w') (shO (crO t)).length = hangN t (drw (trl t sd j).2.2) (shO (crO t)).length from hangN_congr hw']
              refine g_iaddN eX11_trials_73 ?_
              refine g_istore eX11_trials_74 rfl ?_
              refine g_iload eX11_trials_76 rfl ?_
              refine g_aload eX11_trials_78 rfl ?_
              refine g_aload eX11_trials_79 rfl ?_
              refine g_get eX11_trials_80 fX11_39_X11 a0 (by rfl) ?_
              refine g_callVp (r := (RX11, TX11, 10)) eX11_trials_83 kX11_197 a0 (by rfl) (c_allAltering hT2 hwf' k20 k21 lw' w6 hC h8) (by rfl) (by rfl) (by exact Nat.le_of_ble_eq_true rfl) (by exact Nat.le_of_ble_eq_true rfl) (by exact Nat.le_of_ble_eq_true rfl) (Nat.le_refl _) (Nat.le_refl _) ?_
              rw [show allN t (shW w') (shO (crO t)).length = allN t (drw (trl t sd j).2.2) (shO (crO t)).length from allN_congr hw']
              refine g_iaddN eX11_trials_86 ?_
              refine g_istore eX11_trials_87 rfl ?_
              refine g_iincN eX11_trials_89 rfl rfl ?_
              refine g_goto eX11_trials_92 ?_
              exact ih (j + 1) _ (by omega) hT2 hF2
          refine g_iload eX11_trials_0 rfl ?_
          refine g_push eX11_trials_1 ?_
          refine g_icmp_ltN eX11_trials_2 (by omega) (by omega) (fun c2 => by exfalso; omega) (fun c2 => ?_)
          refine g_iload eX11_trials_5 rfl ?_
          refine g_push eX11_trials_6 ?_
          refine g_icmp_gtN eX11_trials_8 (by omega) (by omega) (fun c8 => by exfalso; omega) (fun c8 => ?_)
          refine g_iload eX11_trials_11 rfl ?_
          refine g_if_ltN eX11_trials_12 (by omega) ?_
          refine g_iload eX11_trials_15 rfl ?_
          refine g_if_ltN eX11_trials_16 (by omega) ?_
          refine g_iload eX11_trials_19 rfl ?_
          refine g_push eX11_trials_20 ?_
          refine g_icmp_leN eX11_trials_21 (by omega) (by omega) (fun c21 => ?_) (fun c21 => by exfalso; omega)
          refine g_aload eX11_trials_27 rfl ?_
          refine g_callVp (r := (RX11, TX11, 10)) eX11_trials_28 kX11_83 e0 (by rfl) (c_hasCourt hI' hwf') (by rfl) (by rfl) (by exact Nat.le_of_ble_eq_true rfl) (by exact Nat.le_of_ble_eq_true rfl) (by exact Nat.le_of_ble_eq_true rfl) (Nat.le_refl _) (Nat.le_refl _) ?_
          refine g_if_neN eX11_trials_31 (bt_lt _) (fun c31 => ?_) (fun c31 => absurd hyes (bt_0 c31))
          refine g_push eX11_trials_37 ?_
          refine g_istore eX11_trials_38 rfl ?_
          refine g_push eX11_trials_40 ?_
          refine g_istore eX11_trials_41 rfl ?_
          refine g_iload eX11_trials_43 rfl ?_
          refine g_istore eX11_trials_44 rfl ?_
          refine g_push eX11_trials_46 ?_
          refine g_istore eX11_trials_47 rfl ?_
          exact key m 0 σ (by omega) hI' FrX.rf
        · have hno := hyes
          refine g_iload eX11_trials_0 rfl ?_
          refine g_push eX11_trials_1 ?_
          refine g_icmp_ltN eX11_trials_2 (by omega) (by omega) (fun c2 => by exfalso; omega) (fun c2 => ?_)
          refine g_iload eX11_trials_5 rfl ?_
          refine g_push eX11_trials_6 ?_
          refine g_icmp_gtN eX11_trials_8 (by omega) (by omega) (fun c8 => by exfalso; omega) (fun c8 => ?_)
          refine g_iload eX11_trials_11 rfl ?_
          refine g_if_ltN eX11_trials_12 (by omega) ?_
          refine g_iload eX11_trials_15 rfl ?_
          refine g_if_ltN eX11_trials_16 (by omega) ?_
          refine g_iload eX11_trials_19 rfl ?_
          refine g_push eX11_trials_20 ?_
          refine g_icmp_leN eX11_trials_21 (by omega) (by omega) (fun c21 => ?_) (fun c21 => by exfalso; omega)
          refine g_aload eX11_trials_27 rfl ?_
          refine g_callVp (r := (RX11, TX11, 10)) eX11_trials_28 kX11_83 e0 (by rfl) (c_hasCourt hI' hwf') (by rfl) (by rfl) (by exact Nat.le_of_ble_eq_true rfl) (by exact Nat.le_of_ble_eq_true rfl) (by exact Nat.le_of_ble_eq_true rfl) (Nat.le_refl _) (Nat.le_refl _) ?_
          refine g_if_neN eX11_trials_31 (bt_lt _) (fun c31 => absurd (bt_1 c31) hno) (fun c31 => ?_)
          refine g_push eX11_trials_34 ?_
          exact g_ret (eX11_trials_36 _) (Nat.le_refl _) (Nat.le_refl _) (by rw [if_neg hno]; exact ⟨rfl, hI', FrX.rf⟩)
theorem IX.brf {t : St} {σ τ : aH} (hI : IX t σ) (h : EqO [0, 22, 23, 24] σ τ) {bs : Int32} {bp bw : List Nat} (g0 : τ[0]? = some (aO 11 [.ref 1, .ref 4, .ref 5, .ref 6, .ref 13, .ref 20, .ref 22, .int (nI (imB t)), .int (nI (ctO t)), .int (nI (brO t + 1))])) (g22 : τ[22]? = some (aO 2 [.ref 23, .ref 24, .int bs])) (g23 : τ[23]? = some (aA bp)) (g24 : τ[24]? = some (aA bw)) (l2 : bp.length = 8) (l3 : bw.length = 4) : IX (pgO t, nrO t, crO t, imO t, ctO t, brO t + 1) τ := by
  obtain ⟨cd, y0, y1, y2, mr, dws, dsz, bp0, bw0, bs0, e0, e1, e2, e3, e4, e5, e20, e21, e22, e23, e24, hn, hk, hki, lcd, hcd, bcd, lmr, ldws, lbp, lbw, hmen⟩ := hI
  refine ⟨cd, y0, y1, y2, mr, dws, dsz, bp, bw, bs, g0, h.at (by decide) e1, h.at (by decide) e2, h.at (by decide) e3, h.at (by decide) e4, h.at (by decide) e5, h.at (by decide) e20, h.at (by decide) e21, g22, g23, g24, hn.at (fun j a b => h.2 j ?_), hk.at (fun j a b => h.2 j ?_), fun c hc => (hki c hc).at (fun j a b => h.2 j ?_), lcd, hcd, bcd, lmr, ldws, l2, l3, fun i hi => ?_⟩
  · simp only [List.mem_cons, List.not_mem_nil, or_false]; omega
  · simp only [List.mem_cons, List.not_mem_nil, or_false]; omega
  · simp only [List.mem_cons, List.not_mem_nil, or_false]; omega
  · obtain ⟨q, a1, a2, a3⟩ := hmen i hi
    exact ⟨q, a1, a2, h.at (nm7 (by decide) a2) a3⟩
