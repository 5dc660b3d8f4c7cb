/-! the reference: put, limit, forget, fault, court -/
set_option maxRecDepth 20000 in
theorem m_put {σ : aH} {t : St} (hI : IM t σ) (hwf : WF t) {x y : Int32} : MX12_put 2 0 0 [.ref 25, .int x, .int y] σ (fun v σ' => v = some (.int (oPut t x y).1) ∧ IM (oPut t x y).2 σ' ∧ FrM σ σ') := by
  refine sX12_put (Nat.le_of_ble_eq_true rfl) ?_
  have hI' := hI
  have hwf' := hwf
  have hSs := hwf.hS
  obtain ⟨pg, rn, rs, nr, sh, rw, ro, he, hs, th, dr, ks, kr, kh, x2, x3, x4, sd, kc, kl, ka, kg, kd, ha, e25, e26, e27, e28, e29, e30, e31, e32, e33, e34, e35, e36, e37, e38, e39, lpg, lrn, lrs, lnr, lro, lhe, lth, ldr, lks, lkr, lkh, hpg, hnr, ⟨lsh, lrw, lhs, hsh, hrw, hhs⟩, hk0, hk1⟩ := hI
  obtain ⟨w1, w2, w3, w4, w5, ⟨w6, w7, w8, w9, w10, w11, w12⟩, w13, w14, w15, w16, w17⟩ := hwf
  unfold oPut
  cases e : rg x 0 (shO (crO t)).length with
  | none =>
    dsimp only
    refine g_aload eX12_put_0 rfl ?_
    refine g_iload eX12_put_1 rfl ?_
    refine g_callVp (r := (RX12, TX12, 32)) eX12_put_2 kX12_112 e25 (by rfl) (c_isPlaceN e25 w6 e) (by rfl) (by rfl) (by exact Nat.le_of_ble_eq_true rfl) (by exact Nat.le_of_ble_eq_true rfl) (by exact Nat.le_of_ble_eq_true rfl) (Nat.le_refl _) (Nat.le_refl _) ?_
    refine g_if_neN eX12_put_5 (by omega) (fun c5 => absurd rfl c5) (fun c5 => ?_)
    refine g_push eX12_put_8 ?_
    exact g_ret (eX12_put_10 _) (Nat.le_refl _) (Nat.le_refl _) ⟨rfl, hI', EqO.rf⟩
  | some k =>
    dsimp only
    have e' := e
    obtain ⟨rfl, -, hk⟩ := rg_some e (by omega)
    cases f : rg y 0 8 with
    | none =>
      dsimp only
      refine g_aload eX12_put_0 rfl ?_
      refine g_iload eX12_put_1 rfl ?_
      refine g_callVp (r := (RX12, TX12, 32)) eX12_put_2 kX12_112 e25 (by rfl) (c_isPlaceT e25 w6 e') (by rfl) (by rfl) (by exact Nat.le_of_ble_eq_true rfl) (by exact Nat.le_of_ble_eq_true rfl) (by exact Nat.le_of_ble_eq_true rfl) (Nat.le_refl _) (Nat.le_refl _) ?_
      refine g_if_neN eX12_put_5 (by omega) (fun c5 => ?_) (fun c5 => absurd c5 (by decide))
      refine g_iload eX12_put_11 rfl ?_
      refine g_i2l eX12_put_12 ?_
      refine g_lconst eX12_put_13 rfl ?_
      refine g_ldc2 eX12_put_14 lX12_74 ?_
      refine g_callSp eX12_put_17 kX12_58 (c_inN f rfl rfl) (by rfl) (by rfl) (by exact Nat.le_of_ble_eq_true rfl) (by exact Nat.le_of_ble_eq_true rfl) (by exact Nat.le_of_ble_eq_true rfl) (Nat.le_refl _) (Nat.le_refl _) ?_
      refine g_if_neN eX12_put_20 (by omega) (fun c20 => absurd rfl c20) (fun c20 => ?_)
      refine g_push eX12_put_23 ?_
      exact g_ret (eX12_put_25 _) (Nat.le_refl _) (Nat.le_refl _) ⟨rfl, hI', EqO.rf⟩
    | some w =>
      dsimp only
      have f' := f
      obtain ⟨rfl, -, hw⟩ := rg_some f
      refine g_aload eX12_put_0 rfl ?_
      refine g_iload eX12_put_1 rfl ?_
      refine g_callVp (r := (RX12, TX12, 32)) eX12_put_2 kX12_112 e25 (by rfl) (c_isPlaceT e25 w6 e') (by rfl) (by rfl) (by exact Nat.le_of_ble_eq_true rfl) (by exact Nat.le_of_ble_eq_true rfl) (by exact Nat.le_of_ble_eq_true rfl) (Nat.le_refl _) (Nat.le_refl _) ?_
      refine g_if_neN eX12_put_5 (by omega) (fun c5 => ?_) (fun c5 => absurd c5 (by decide))
      refine g_iload eX12_put_11 rfl ?_
      refine g_i2l eX12_put_12 ?_
      refine g_lconst eX12_put_13 rfl ?_
      refine g_ldc2 eX12_put_14 lX12_74 ?_
      refine g_callSp eX12_put_17 kX12_58 (c_inT f' rfl rfl) (by rfl) (by rfl) (by exact Nat.le_of_ble_eq_true rfl) (by exact Nat.le_of_ble_eq_true rfl) (by exact Nat.le_of_ble_eq_true rfl) (Nat.le_refl _) (Nat.le_refl _) ?_
      refine g_if_neN eX12_put_20 (by omega) (fun c20 => ?_) (fun c20 => absurd c20 (by decide))
      refine g_aload eX12_put_26 rfl ?_
      refine g_get eX12_put_27 fX12_22_X12 e25 (by rfl) ?_
      refine g_iload eX12_put_30 rfl ?_
      refine g_ialdN eX12_put_31 e30 (by omega) (by omega) ?_
      refine g_istore eX12_put_32 rfl ?_
      refine g_aload eX12_put_33 rfl ?_
      refine g_get eX12_put_34 fX12_22_X12 e25 (by rfl) ?_
      refine g_iload eX12_put_37 rfl ?_
      refine g_iload eX12_put_38 rfl ?_
      refine g_iastN eX12_put_39 e30 (by omega) (by omega) ?_
      refine g_aload eX12_put_40 rfl ?_
      refine g_dup eX12_put_41 rfl ?_
      refine g_get eX12_put_42 fX12_94_X12 (at_ne (by decide) e25) (by rfl) ?_
      refine g_push eX12_put_45 ?_
      refine g_iaddN eX12_put_46 ?_
      refine g_putI eX12_put_47 fX12_94_X12 pX12_9 (at_ne (by decide) e25) (by exact Nat.le_of_ble_eq_true rfl) ?_
      refine g_iload eX12_put_50 rfl ?_
      exact g_ret (eX12_put_51 _) (Nat.le_refl _) (Nat.le_refl _) (by
        rw [hsh k hk]
        have hll : ((shO (crO t)).set k w).length = (shO (crO t)).length := List.length_set
        refine ⟨rfl, ⟨_, _, _, _, _, _, _, _, _, _, _, _, _, _, _, _, _, _, _, _, _, _, _, _, (by show _ = some (mob _ _ _ _ _ ((shO (crO t)).set k w).length _ _ _ _ _ _ _ _ _ _ _ _); rw [hll]; exact (at_eq (at_ne (by decide) e25))), (at_ne (by decide) (at_ne (by decide) e26)), (at_ne (by decide) (at_ne (by decide) e27)), (at_ne (by decide) (at_ne (by decide) e28)), (at_ne (by decide) (at_ne (by decide) e29)), (at_ne (by decide) (at_eq e30)), (at_ne (by decide) (at_ne (by decide) e31)), (at_ne (by decide) (at_ne (by decide) e32)), (at_ne (by decide) (at_ne (by decide) e33)), (at_ne (by decide) (at_ne (by decide) e34)), (at_ne (by decide) (at_ne (by decide) e35)), (at_ne (by decide) (at_ne (by decide) e36)), (at_ne (by decide) (at_ne (by decide) e37)), (at_ne (by decide) (at_ne (by decide) e38)), (at_ne (by decide) (at_ne (by decide) e39)), lpg, lrn, lrs, lnr, lro, lhe, lth, ldr, lks, lkr, lkh, hpg, hnr, ⟨by rw [List.length_set]; exact lsh, lrw, lhs, fun j hj => ?_, hrw, hhs⟩, hk0, fun c hc => by obtain ⟨a1, a2, a3, a4, a5, a6, a7⟩ := hk1 c hc; exact ⟨a1, a2, a3, a4, a5, a6, a7.trans hll.symm⟩⟩, ((EqO.rf.st (by decide)).st (by decide))⟩
        have hj2 : j < (shO (crO t)).length := hll ▸ hj
        show _ = ((shO (crO t)).set k w).getD j 0
        rw [getD_set, getD_set, hsh j hj2, lsh]
        by_cases hkj : k = j
        · rw [if_pos ⟨hkj, by omega⟩, if_pos ⟨hkj, hk⟩]
        · rw [if_neg (fun z => hkj z.1), if_neg (fun z => hkj z.1)])
set_option maxRecDepth 20000 in
theorem m_limit {σ : aH} {t : St} (hI : IM t σ) (hwf : WF t) {x : Int32} : MX12_limit 1 0 0 [.ref 25, .int x] σ (fun v σ' => v = some (.int (oLimit t x).1) ∧ IM (oLimit t x).2 σ' ∧ FrM σ σ') := by
  refine sX12_limit (Nat.le_of_ble_eq_true rfl) ?_
  have hI' := hI
  have hwf' := hwf
  have hSs := hwf.hS
  obtain ⟨pg, rn, rs, nr, sh, rw, ro, he, hs, th, dr, ks, kr, kh, x2, x3, x4, sd, kc, kl, ka, kg, kd, ha, e25, e26, e27, e28, e29, e30, e31, e32, e33, e34, e35, e36, e37, e38, e39, lpg, lrn, lrs, lnr, lro, lhe, lth, ldr, lks, lkr, lkh, hpg, hnr, ⟨lsh, lrw, lhs, hsh, hrw, hhs⟩, hk0, hk1⟩ := hI
  obtain ⟨w1, w2, w3, w4, w5, ⟨w6, w7, w8, w9, w10, w11, w12⟩, w13, w14, w15, w16, w17⟩ := hwf
  unfold oLimit
  cases e : rg x 1 11 with
  | none =>
    dsimp only
    refine g_iload eX12_limit_0 rfl ?_
    refine g_i2l eX12_limit_1 ?_
    refine g_lconst eX12_limit_2 rfl ?_
    refine g_ldc2 eX12_limit_3 lX12_115 ?_
    refine g_callSp eX12_limit_6 kX12_58 (c_inN e rfl rfl) (by rfl) (by rfl) (by exact Nat.le_of_ble_eq_true rfl) (by exact Nat.le_of_ble_eq_true rfl) (by exact Nat.le_of_ble_eq_true rfl) (Nat.le_refl _) (Nat.le_refl _) ?_
    refine g_if_neN eX12_limit_9 (by omega) (fun c9 => absurd rfl c9) (fun c9 => ?_)
    refine g_push eX12_limit_12 ?_
    exact g_ret (eX12_limit_14 _) (Nat.le_refl _) (Nat.le_refl _) ⟨rfl, hI', EqO.rf⟩
  | some v =>
    dsimp only
    have e' := e
    obtain ⟨rfl, hv1, hv2⟩ := rg_some e
    refine g_iload eX12_limit_0 rfl ?_
    refine g_i2l eX12_limit_1 ?_
    refine g_lconst eX12_limit_2 rfl ?_
    refine g_ldc2 eX12_limit_3 lX12_115 ?_
    refine g_callSp eX12_limit_6 kX12_58 (c_inT e' rfl rfl) (by rfl) (by rfl) (by exact Nat.le_of_ble_eq_true rfl) (by exact Nat.le_of_ble_eq_true rfl) (by exact Nat.le_of_ble_eq_true rfl) (Nat.le_refl _) (Nat.le_refl _) ?_
    refine g_if_neN eX12_limit_9 (by omega) (fun c9 => ?_) (fun c9 => absurd c9 (by decide))
    refine g_aload eX12_limit_15 rfl ?_
    refine g_callVp (r := (RX12, TX12, 32)) eX12_limit_16 kX12_106 e25 (by rfl) (c_mlacks e25 w6) (by rfl) (by rfl) (by exact Nat.le_of_ble_eq_true rfl) (by exact Nat.le_of_ble_eq_true rfl) (by exact Nat.le_of_ble_eq_true rfl) (Nat.le_refl _) (Nat.le_refl _) ?_
    refine g_if_eqN eX12_limit_19 (bt_lt _) (fun c19 => ?_) (fun c19 => ?_)
    · have hyes := bt_0 c19
      refine g_aload eX12_limit_25 rfl ?_
      refine g_get eX12_limit_26 fX12_91_X12 e25 (by rfl) ?_
      refine g_istore eX12_limit_29 rfl ?_
      refine g_aload eX12_limit_30 rfl ?_
      refine g_iload eX12_limit_31 rfl ?_
      refine g_putI eX12_limit_32 fX12_91_X12 pX12_7 e25 (by exact Nat.le_of_ble_eq_true rfl) ?_
      refine g_aload eX12_limit_35 rfl ?_
      refine g_dup eX12_limit_36 rfl ?_
      refine g_get eX12_limit_37 fX12_94_X12 (at_eq e25) (by rfl) ?_
      refine g_push eX12_limit_40 ?_
      refine g_iaddN eX12_limit_41 ?_
      refine g_putI eX12_limit_42 fX12_94_X12 pX12_9 (at_eq e25) (by exact Nat.le_of_ble_eq_true rfl) ?_
      refine g_iload eX12_limit_45 rfl ?_
      exact g_ret (eX12_limit_46 _) (Nat.le_refl _) (Nat.le_refl _) (by rw [if_pos (show hasC t from hSs.mpr (by omega))]; exact ⟨rfl, ⟨_, _, _, _, _, _, _, _, _, _, _, _, _, _, _, _, _, _, _, _, _, _, _, _, (at_eq (at_eq e25)), (at_ne (by decide) (at_ne (by decide) e26)), (at_ne (by decide) (at_ne (by decide) e27)), (at_ne (by decide) (at_ne (by decide) e28)), (at_ne (by decide) (at_ne (by decide) e29)), (at_ne (by decide) (at_ne (by decide) e30)), (at_ne (by decide) (at_ne (by decide) e31)), (at_ne (by decide) (at_ne (by decide) e32)), (at_ne (by decide) (at_ne (by decide) e33)), (at_ne (by decide) (at_ne (by decide) e34)), (at_ne (by decide) (at_ne (by decide) e35)), (at_ne (by decide) (at_ne (by decide) e36)), (at_ne (by decide) (at_ne (by decide) e37)), (at_ne (by decide) (at_ne (by decide) e38)), (at_ne (by decide) (at_ne (by decide) e39)), lpg, lrn, lrs, lnr, lro, lhe, lth, ldr, lks, lkr, lkh, hpg, hnr, ⟨lsh, lrw, lhs, hsh, hrw, hhs⟩, hk0, hk1⟩, ((EqO.rf.st (by decide)).st (by decide))⟩)
    · have hno := bt_1 c19
      refine g_push eX12_limit_22 ?_
      exact g_ret (eX12_limit_24 _) (Nat.le_refl _) (Nat.le_refl _) (by rw [if_neg (show ¬ hasC t from fun h => by have := hSs.mp h; omega)]; exact ⟨rfl, hI', EqO.rf⟩)
set_option maxRecDepth 20000 in
theorem m_forget {σ : aH} {t : St} (hI : IM t σ) (hwf : WF t)  : MX12_forget 0 0 0 [.ref 25] σ (fun v σ' => v = some (.int (oForget t).1) ∧ IM (oForget t).2 σ' ∧ FrM σ σ') := by
  refine sX12_forget (Nat.le_of_ble_eq_true rfl) ?_
  have hI' := hI
  have hwf' := hwf
  have hSs := hwf.hS
  obtain ⟨pg, rn, rs, nr, sh, rw, ro, he, hs, th, dr, ks, kr, kh, x2, x3, x4, sd, kc, kl, ka, kg, kd, ha, e25, e26, e27, e28, e29, e30, e31, e32, e33, e34, e35, e36, e37, e38, e39, lpg, lrn, lrs, lnr, lro, lhe, lth, ldr, lks, lkr, lkh, hpg, hnr, ⟨lsh, lrw, lhs, hsh, hrw, hhs⟩, hk0, hk1⟩ := hI
  obtain ⟨w1, w2, w3, w4, w5, ⟨w6, w7, w8, w9, w10, w11, w12⟩, w13, w14, w15, w16, w17⟩ := hwf
  refine g_aload eX12_forget_0 rfl ?_
  refine g_get eX12_forget_1 fX12_100_X12 e25 (by rfl) ?_
  refine g_istore eX12_forget_4 rfl ?_
  refine g_aload eX12_forget_5 rfl ?_
  refine g_push eX12_forget_6 ?_
  refine g_putI eX12_forget_7 fX12_100_X12 pX12_18 e25 (by exact Nat.le_of_ble_eq_true rfl) ?_
  refine g_iload eX12_forget_10 rfl ?_
  exact g_ret (eX12_forget_11 _) (Nat.le_refl _) (Nat.le_refl _) ⟨rfl, ⟨_, _, _, _, _, _, _, _, _, _, _, _, _, _, _, _, _, _, _, _, _, _, _, _, (at_eq e25), (at_ne (by decide) e26), (at_ne (by decide) e27), (at_ne (by decide) e28), (at_ne (by decide) e29), (at_ne (by decide) e30), (at_ne (by decide) e31), (at_ne (by decide) e32), (at_ne (by decide) e33), (at_ne (by decide) e34), (at_ne (by decide) e35), (at_ne (by decide) e36), (at_ne (by decide) e37), (at_ne (by decide) e38), (at_ne (by decide) e39), lpg, lrn, lrs, lnr, lro, lhe, lth, ldr, lks, lkr, lkh, hpg, hnr, ⟨lsh, lrw, lhs, hsh, hrw, fun i hi => absurd hi (Nat.not_lt_zero i)⟩, hk0, hk1⟩, (EqO.rf.st (by decide))⟩
/-- the last word as the reference keeps it -/
def lwI (l : Nat) : Int32 := nI l - nI 1
theorem lwI_s (v : Nat) : nI v = lwI (v + 1) := by
  unfold lwI
  rw [pk_sub (by omega), Nat.add_sub_cancel]
theorem lwI_lt {l v : Nat} (hl : l ≤ 8) (hv : v < 8) : lwI l < nI v ↔ l ≤ v := by
  rcases l with _ | l
  · refine ⟨fun _ => Nat.zero_le _, fun _ => ?_⟩
    rw [Int32.lt_iff_toInt_lt, nI_toInt (by omega), show (lwI 0).toInt = -1 by decide]
    omega
  · rw [← lwI_s, nI_ltI (by omega) (by omega)]
    omega
theorem sub97 {c : Nat} (hc : c < 127) (h : ¬ (97 ≤ c ∧ c < 105)) : rg (nI c - nI 97) 0 8 = none := by
  have h2 := co_dec (N := 127) (P := fun c => (97 ≤ c ∧ c < 105) ∨ rg (nI c - nI 97) 0 8 = none) (by decide +kernel) hc
  exact h2.resolve_left h
theorem wsO {s : Nat × Nat × Nat} {c : Nat} (h : ¬ (97 ≤ c ∧ c < 105)) (h1 : s.1 < 4) (h2 : ¬ s.2.1 = 0) (h3 : (c = 59 ∧ s.1 = 3) ∨ (c = 44 ∧ ¬ s.1 = 3)) : wstep s c = some (s.1 + 1, 0, 0) := by
  have hq : c = if s.1 = 3 then 59 else 44 := by
    rcases h3 with ⟨a, b⟩ | ⟨a, b⟩
    · rw [if_pos b]; exact a
    · rw [if_neg b]; exact a
  unfold wstep
  rw [if_neg h, if_pos ⟨h1, by omega, hq⟩]
theorem wsN {s : Nat × Nat × Nat} {c : Nat} (h : ¬ (97 ≤ c ∧ c < 105)) (h3 : 4 ≤ s.1 ∨ s.2.1 = 0 ∨ ¬ ((c = 59 ∧ s.1 = 3) ∨ (c = 44 ∧ ¬ s.1 = 3))) : wstep s c = none := by
  unfold wstep
  rw [if_neg h, if_neg ?_]
  rintro ⟨a, b, d⟩
  rcases h3 with z | z | z
  · omega
  · omega
  · apply z
    by_cases h4 : s.1 = 3
    · rw [if_pos h4] at d
      exact Or.inl ⟨d, h4⟩
    · rw [if_neg h4] at d
      exact Or.inr ⟨d, h4⟩
theorem wsL {s : Nat × Nat × Nat} {c : Nat} (h : 97 ≤ c ∧ c < 105) (hp : (s.1 < 4 ∧ s.2.1 < 3 ∧ s.2.2 ≤ c - 97) ∨ (4 ≤ s.1 ∧ s.2.1 < 10)) : wstep s c = some (s.1, s.2.1 + 1, c - 97 + 1) := by
  unfold wstep pword
  rw [if_pos h]
  by_cases h4 : s.1 < 4
  · rw [if_pos h4, decide_eq_true (show s.2.1 < 3 ∧ s.2.2 ≤ c - 97 by omega)]
    rfl
  · rw [if_neg h4, decide_eq_true (show s.2.1 < 10 by omega)]
    rfl
theorem wsK {s : Nat × Nat × Nat} {c : Nat} (h : 97 ≤ c ∧ c < 105) (hp : (s.1 < 4 ∧ (3 ≤ s.2.1 ∨ c - 97 < s.2.2)) ∨ (4 ≤ s.1 ∧ 10 ≤ s.2.1)) : wstep s c = none := by
  unfold wstep pword
  rw [if_pos h]
  by_cases h4 : s.1 < 4
  · rw [if_pos h4, decide_eq_false (show ¬ (s.2.1 < 3 ∧ s.2.2 ≤ c - 97) by omega)]
    rfl
  · rw [if_neg h4, decide_eq_false (show ¬ s.2.1 < 10 by omega)]
    rfl
def rnE (s : Nat × Nat × Nat) (c : Nat) (rn : List Nat) : List Nat := if 97 ≤ c ∧ c < 105 then (if s.1 < 4 then rn.set s.1 (if s.2.1 = 0 then 2 ^ (c - 97) else rn.getD s.1 0 ||| 2 ^ (c - 97)) else rn) else rn
def rsE (s : Nat × Nat × Nat) (c : Nat) (rs : List Nat) : List Nat := if 97 ≤ c ∧ c < 105 then (if s.1 < 4 then rs else rs.set s.2.1 (c - 97)) else rs
theorem rnE_a {s : Nat × Nat × Nat} {c : Nat} {rn : List Nat} (h : 97 ≤ c ∧ c < 105) (h4 : s.1 < 4) (h0 : s.2.1 = 0) : rn.set s.1 (1 * 2 ^ (c - 97)) = rnE s c rn := by
  unfold rnE
  rw [if_pos h, if_pos h4, if_pos h0, Nat.one_mul]
theorem rnE_b {s : Nat × Nat × Nat} {c : Nat} {rn : List Nat} (h : 97 ≤ c ∧ c < 105) (h4 : s.1 < 4) (h0 : ¬ s.2.1 = 0) : rn.set s.1 (rn.getD s.1 0 ||| 1 * 2 ^ (c - 97)) = rnE s c rn := by
  unfold rnE
  rw [if_pos h, if_pos h4, if_neg h0, Nat.one_mul]
theorem rnE_c {s : Nat × Nat × Nat} {c : Nat} {rn : List Nat} (h4 : 4 ≤ s.1) : rn = rnE s c rn := by
  unfold rnE
  by_cases h : 97 ≤ c ∧ c < 105
  · rw [if_pos h, if_neg (by omega)]
  · rw [if_neg h]
theorem rsE_a {s : Nat × Nat × Nat} {c : Nat} {rs : List Nat} (h4 : s.1 < 4) : rs = rsE s c rs := by
  unfold rsE
  by_cases h : 97 ≤ c ∧ c < 105
  · rw [if_pos h, if_pos h4]
  · rw [if_neg h]
theorem rsE_b {s : Nat × Nat × Nat} {c : Nat} {rs : List Nat} (h : 97 ≤ c ∧ c < 105) (h4 : 4 ≤ s.1) : rs.set s.2.1 (c - 97) = rsE s c rs := by
  unfold rsE
  rw [if_pos h, if_neg (by omega)]
def wok3 (s : Nat × Nat × Nat) : Prop := s.1 < 4 → s.2.1 ≤ 3
theorem wok3_s {s s' : Nat × Nat × Nat} {c : Nat} (h : wok3 s) (e : wstep s c = some s') : wok3 s' := by
  by_cases hl : 97 ≤ c ∧ c < 105
  · obtain ⟨hp, rfl⟩ := wstep_l e hl
    intro h4
    unfold pword at hp
    rw [if_pos h4] at hp
    have := of_decide_eq_true hp
    show s.2.1 + 1 ≤ 3
    omega
  · obtain ⟨-, -, -, rfl⟩ := wstep_o e hl
    intro _
    exact Nat.zero_le _
theorem wok3_of {pg : Nat → Nat} : ∀ k s, wpre pg k = some s → wok3 s
  | 0, s, h => by
    obtain rfl : (0, 0, 0) = s := Option.some.inj h
    exact fun _ => Nat.zero_le _
  | k + 1, s', h => by
    cases e : wpre pg k with
    | none =>
      rw [wpre_n e] at h
      cases h
    | some s =>
      rw [wpre_s e] at h
      exact wok3_s (wok3_of k s e) h
set_option maxRecDepth 20000 in
theorem c_go {σ : aH} {pn lm wd ch ct ac br hm : Nat} {sd kc kl ka kg kd : Int32} {ha : Int64} {s : Nat × Nat × Nat} {rn rs : List Nat} {c : Nat} (e25 : σ[25]? = some (mob pn (nI s.1) (nI s.2.1) (lwI s.2.2) lm wd ch ct ac br hm sd kc kl ka kg kd ha)) (e27 : σ[27]? = some (aA rn)) (e28 : σ[28]? = some (aA rs)) (lrn : rn.length = 5) (lrs : rs.length = 10) (ho : wok s) (ho3 : wok3 s) (hc : c < 127) : MX12_go 1 0 0 [.ref 25, .int (nI c)] σ (fun v σ' => ∃ (y2 y3 y4 : Int32) (rn' rs' : List Nat), EqO [25, 27, 28] σ σ' ∧ σ'[25]? = some (mob pn (y2) (y3) (y4) lm wd ch ct ac br hm sd kc kl ka kg kd ha) ∧ σ'[27]? = some (aA rn') ∧ σ'[28]? = some (aA rs') ∧ rn'.length = 5 ∧ rs'.length = 10 ∧ ((∃ s', wstep s c = some s' ∧ v = some (.int (nI 1)) ∧ y2 = nI s'.1 ∧ y3 = nI s'.2.1 ∧ y4 = lwI s'.2.2 ∧ rn' = rnE s c rn ∧ rs' = rsE s c rs) ∨ (wstep s c = none ∧ v = some (.int (nI 0))))) := by
  refine sX12_go (Nat.le_of_ble_eq_true rfl) ?_
  obtain ⟨o1, o2, o3⟩ := ho
  unfold wok3 at ho3
  by_cases hl : 97 ≤ c ∧ c < 105
  · refine g_iload eX12_go_0 rfl ?_
    refine g_push eX12_go_1 ?_
    refine g_isubN eX12_go_3 (by omega) ?_
    refine g_istore eX12_go_4 rfl ?_
    refine g_iload eX12_go_5 rfl ?_
    refine g_push eX12_go_6 ?_
    refine g_icmp_eqN eX12_go_8 (by omega) (by omega) (fun c8 => by exfalso; omega) (fun c8 => ?_)
    refine g_iload eX12_go_11 rfl ?_
    refine g_push eX12_go_12 ?_
    refine g_icmp_neN eX12_go_14 (by omega) (by omega) (fun c14 => ?_) (fun c14 => by exfalso; omega)
    refine g_iload eX12_go_87 rfl ?_
    refine g_i2l eX12_go_88 ?_
    refine g_lconst eX12_go_89 rfl ?_
    refine g_ldc2 eX12_go_90 lX12_74 ?_
    refine g_callSp eX12_go_93 kX12_58 (c_inT (rg_nI (Nat.zero_le _) (show c - 97 < 8 by omega)) rfl rfl) (by rfl) (by rfl) (by exact Nat.le_of_ble_eq_true rfl) (by exact Nat.le_of_ble_eq_true rfl) (by exact Nat.le_of_ble_eq_true rfl) (Nat.le_refl _) (Nat.le_refl _) ?_
    refine g_if_eqN eX12_go_96 (by omega) (fun c96 => absurd c96 (by decide)) (fun c96 => ?_)
    refine g_aload eX12_go_99 rfl ?_
    refine g_get eX12_go_100 fX12_68_X12 e25 (by rfl) ?_
    refine g_aload eX12_go_103 rfl ?_
    refine g_get eX12_go_104 fX12_65_X12 e25 (by rfl) ?_
    refine g_push eX12_go_107 ?_
    refine g_icmp_geN eX12_go_108 (by omega) (by omega) (fun c108 => ?_) (fun c108 => ?_)
    · refine g_push eX12_go_115 ?_
      refine g_icmp_eqN eX12_go_117 (by omega) (by omega) (fun c117 => ?_) (fun c117 => ?_)
      · refine g_push eX12_go_136 ?_
        exact g_ret (eX12_go_137 _ (by first | exact Or.inl rfl | exact Or.inr rfl)) (Nat.le_refl _) (Nat.le_refl _) (by first | (exfalso; omega) | exact ⟨_, _, _, rn, rs, EqO.rf, e25, e27, e28, lrn, lrs, Or.inr ⟨wsK hl (by omega), rfl⟩⟩)
      · refine g_aload eX12_go_120 rfl ?_
        refine g_get eX12_go_121 fX12_65_X12 e25 (by rfl) ?_
        refine g_push eX12_go_124 ?_
        refine g_icmp_geN eX12_go_125 (by omega) (by omega) (fun c125 => ?_) (fun c125 => ?_)
        · refine g_aload eX12_go_138 rfl ?_
          refine g_get eX12_go_139 fX12_65_X12 e25 (by rfl) ?_
          refine g_push eX12_go_142 ?_
          refine g_icmp_geN eX12_go_143 (by omega) (by omega) (fun c143 => ?_) (fun c143 => ?_)
          · refine g_aload eX12_go_184 rfl ?_
            refine g_get eX12_go_185 fX12_16_X12 e25 (by rfl) ?_
            refine g_aload eX12_go_188 rfl ?_
            refine g_get eX12_go_189 fX12_68_X12 e25 (by rfl) ?_
            refine g_iload eX12_go_192 rfl ?_
            refine g_iastN eX12_go_193 e28 (by omega) (by omega) ?_
            refine g_aload eX12_go_194 rfl ?_
            refine g_dup eX12_go_195 rfl ?_
            refine g_get eX12_go_196 fX12_68_X12 (at_ne (by decide) e25) (by rfl) ?_
            refine g_push eX12_go_199 ?_
            refine g_iaddN eX12_go_200 ?_
            refine g_putI eX12_go_201 fX12_68_X12 pX12_3 (at_ne (by decide) e25) (by exact Nat.le_of_ble_eq_true rfl) ?_
            refine g_aload eX12_go_204 rfl ?_
            refine g_iload eX12_go_205 rfl ?_
            refine g_putI eX12_go_206 fX12_71_X12 pX12_4 (at_eq (at_ne (by decide) e25)) (by exact Nat.le_of_ble_eq_true rfl) ?_
            refine g_push eX12_go_209 ?_
            exact g_ret (eX12_go_210 _ (by first | exact Or.inl rfl | exact Or.inr rfl)) (Nat.le_refl _) (Nat.le_refl _) (by first | (exfalso; omega) | exact ⟨_, _, _, rn, _, (((EqO.rf.st (by decide)).st (by decide)).st (by decide)), (at_eq (at_eq (at_ne (by decide) e25))), (at_ne (by decide) (at_ne (by decide) (at_ne (by decide) e27))), (at_ne (by decide) (at_ne (by decide) (at_eq e28))), lrn, (by rw [List.length_set]; exact lrs), Or.inl ⟨_, wsL hl (by omega), rfl, rfl, rfl, lwI_s _, rnE_c (by omega), rsE_b hl (by omega)⟩⟩)
          · refine g_aload eX12_go_146 rfl ?_
            refine g_get eX12_go_147 fX12_13_X12 e25 (by rfl) ?_
            refine g_aload eX12_go_150 rfl ?_
            refine g_get eX12_go_151 fX12_65_X12 e25 (by rfl) ?_
            refine g_aload eX12_go_154 rfl ?_
            refine g_get eX12_go_155 fX12_68_X12 e25 (by rfl) ?_
            refine g_if_neN eX12_go_158 (by omega) (fun c158 => ?_) (fun c158 => ?_)
            · refine g_aload eX12_go_167 rfl ?_
              refine g_get eX12_go_168 fX12_13_X12 e25 (by rfl) ?_
              refine g_aload eX12_go_171 rfl ?_
              refine g_get eX12_go_172 fX12_65_X12 e25 (by rfl) ?_
              refine g_ialdN eX12_go_175 e27 (by omega) (by omega) ?_
              refine g_push eX12_go_176 ?_
              refine g_iload eX12_go_177 rfl ?_
              refine g_ishlN eX12_go_178 (by omega) (one_shl _ (by omega)) ?_
              refine g_iorN eX12_go_179 ?_
              refine g_iastN eX12_go_180 e27 (by omega) (by omega) ?_
              refine g_goto eX12_go_181 ?_
              refine g_aload eX12_go_194 rfl ?_
              refine g_dup eX12_go_195 rfl ?_
              refine g_get eX12_go_196 fX12_68_X12 (at_ne (by decide) e25) (by rfl) ?_
              refine g_push eX12_go_199 ?_
              refine g_iaddN eX12_go_200 ?_
              refine g_putI eX12_go_201 fX12_68_X12 pX12_3 (at_ne (by decide) e25) (by exact Nat.le_of_ble_eq_true rfl) ?_
              refine g_aload eX12_go_204 rfl ?_
              refine g_iload eX12_go_205 rfl ?_
              refine g_putI eX12_go_206 fX12_71_X12 pX12_4 (at_eq (at_ne (by decide) e25)) (by exact Nat.le_of_ble_eq_true rfl) ?_
              refine g_push eX12_go_209 ?_
              exact g_ret (eX12_go_210 _ (by first | exact Or.inl rfl | exact Or.inr rfl)) (Nat.le_refl _) (Nat.le_refl _) (by first | (exfalso; omega) | exact ⟨_, _, _, _, rs, (((EqO.rf.st (by decide)).st (by decide)).st (by decide)), (at_eq (at_eq (at_ne (by decide) e25))), (at_ne (by decide) (at_ne (by decide) (at_eq e27))), (at_ne (by decide) (at_ne (by decide) (at_ne (by decide) e28))), (by rw [List.length_set]; exact lrn), lrs, Or.inl ⟨_, wsL hl (by omega), rfl, rfl, rfl, lwI_s _, (by first | exact rnE_a hl (by omega) (by omega) | exact rnE_b hl (by omega) (by omega)), rsE_a (by omega)⟩⟩)
            · refine g_push eX12_go_161 ?_
              refine g_iload eX12_go_162 rfl ?_
              refine g_ishlN eX12_go_163 (by omega) (one_shl _ (by omega)) ?_
              refine g_goto eX12_go_164 ?_
              refine g_iastN eX12_go_180 e27 (by omega) (by omega) ?_
              refine g_goto eX12_go_181 ?_
              refine g_aload eX12_go_194 rfl ?_
              refine g_dup eX12_go_195 rfl ?_
              refine g_get eX12_go_196 fX12_68_X12 (at_ne (by decide) e25) (by rfl) ?_
              refine g_push eX12_go_199 ?_
              refine g_iaddN eX12_go_200 ?_
              refine g_putI eX12_go_201 fX12_68_X12 pX12_3 (at_ne (by decide) e25) (by exact Nat.le_of_ble_eq_true rfl) ?_
              refine g_aload eX12_go_204 rfl ?_
              refine g_iload eX12_go_205 rfl ?_
              refine g_putI eX12_go_206 fX12_71_X12 pX12_4 (at_eq (at_ne (by decide) e25)) (by exact Nat.le_of_ble_eq_true rfl) ?_
              refine g_push eX12_go_209 ?_
              exact g_ret (eX12_go_210 _ (by first | exact Or.inl rfl | exact Or.inr rfl)) (Nat.le_refl _) (Nat.le_refl _) (by first | (exfalso; omega) | exact ⟨_, _, _, _, rs, (((EqO.rf.st (by decide)).st (by decide)).st (by decide)), (at_eq (at_eq (at_ne (by decide) e25))), (at_ne (by decide) (at_ne (by decide) (at_eq e27))), (at_ne (by decide) (at_ne (by decide) (at_ne (by decide) e28))), (by rw [List.length_set]; exact lrn), lrs, Or.inl ⟨_, wsL hl (by omega), rfl, rfl, rfl, lwI_s _, (by first | exact rnE_a hl (by omega) (by omega) | exact rnE_b hl (by omega) (by omega)), rsE_a (by omega)⟩⟩)
        · refine g_iload eX12_go_128 rfl ?_
          refine g_aload eX12_go_129 rfl ?_
          refine g_get eX12_go_130 fX12_71_X12 e25 (by rfl) ?_
          refine g_icmp_gt eX12_go_133 (fun c133 => ?_) (fun c133 => ?_)
          · rw [lwI_lt o3 (by omega)] at c133
            refine g_aload eX12_go_138 rfl ?_
            refine g_get eX12_go_139 fX12_65_X12 e25 (by rfl) ?_
            refine g_push eX12_go_142 ?_
            refine g_icmp_geN eX12_go_143 (by omega) (by omega) (fun c143 => ?_) (fun c143 => ?_)
            · refine g_aload eX12_go_184 rfl ?_
              refine g_get eX12_go_185 fX12_16_X12 e25 (by rfl) ?_
              refine g_aload eX12_go_188 rfl ?_
              refine g_get eX12_go_189 fX12_68_X12 e25 (by rfl) ?_
              refine g_iload eX12_go_192 rfl ?_
              refine g_iastN eX12_go_193 e28 (by omega) (by omega) ?_
              refine g_aload eX12_go_194 rfl ?_
              refine g_dup eX12_go_195 rfl ?_
              refine g_get eX12_go_196 fX12_68_X12 (at_ne (by decide) e25) (by rfl) ?_
              refine g_push eX12_go_199 ?_
              refine g_iaddN eX12_go_200 ?_
              refine g_putI eX12_go_201 fX12_68_X12 pX12_3 (at_ne (by decide) e25) (by exact Nat.le_of_ble_eq_true rfl) ?_
              refine g_aload eX12_go_204 rfl ?_
              refine g_iload eX12_go_205 rfl ?_
              refine g_putI eX12_go_206 fX12_71_X12 pX12_4 (at_eq (at_ne (by decide) e25)) (by exact Nat.le_of_ble_eq_true rfl) ?_
              refine g_push eX12_go_209 ?_
              exact g_ret (eX12_go_210 _ (by first | exact Or.inl rfl | exact Or.inr rfl)) (Nat.le_refl _) (Nat.le_refl _) (by first | (exfalso; omega) | exact ⟨_, _, _, rn, _, (((EqO.rf.st (by decide)).st (by decide)).st (by decide)), (at_eq (at_eq (at_ne (by decide) e25))), (at_ne (by decide) (at_ne (by decide) (at_ne (by decide) e27))), (at_ne (by decide) (at_ne (by decide) (at_eq e28))), lrn, (by rw [List.length_set]; exact lrs), Or.inl ⟨_, wsL hl (by omega), rfl, rfl, rfl, lwI_s _, rnE_c (by omega), rsE_b hl (by omega)⟩⟩)
            · refine g_aload eX12_go_146 rfl ?_
              refine g_get eX12_go_147 fX12_13_X12 e25 (by rfl) ?_
              refine g_aload eX12_go_150 rfl ?_
              refine g_get eX12_go_151 fX12_65_X12 e25 (by rfl) ?_
              refine g_aload eX12_go_154 rfl ?_
              refine g_get eX12_go_155 fX12_68_X12 e25 (by rfl) ?_
              refine g_if_neN eX12_go_158 (by omega) (fun c158 => ?_) (fun c158 => ?_)
              · refine g_aload eX12_go_167 rfl ?_
                refine g_get eX12_go_168 fX12_13_X12 e25 (by rfl) ?_
                refine g_aload eX12_go_171 rfl ?_
                refine g_get eX12_go_172 fX12_65_X12 e25 (by rfl) ?_
                refine g_ialdN eX12_go_175 e27 (by omega) (by omega) ?_
                refine g_push eX12_go_176 ?_
                refine g_iload eX12_go_177 rfl ?_
                refine g_ishlN eX12_go_178 (by omega) (one_shl _ (by omega)) ?_
                refine g_iorN eX12_go_179 ?_
                refine g_iastN eX12_go_180 e27 (by omega) (by omega) ?_
                refine g_goto eX12_go_181 ?_
                refine g_aload eX12_go_194 rfl ?_
                refine g_dup eX12_go_195 rfl ?_
                refine g_get eX12_go_196 fX12_68_X12 (at_ne (by decide) e25) (by rfl) ?_
                refine g_push eX12_go_199 ?_
                refine g_iaddN eX12_go_200 ?_
                refine g_putI eX12_go_201 fX12_68_X12 pX12_3 (at_ne (by decide) e25) (by exact Nat.le_of_ble_eq_true rfl) ?_
                refine g_aload eX12_go_204 rfl ?_
                refine g_iload eX12_go_205 rfl ?_
                refine g_putI eX12_go_206 fX12_71_X12 pX12_4 (at_eq (at_ne (by decide) e25)) (by exact Nat.le_of_ble_eq_true rfl) ?_
                refine g_push eX12_go_209 ?_
                exact g_ret (eX12_go_210 _ (by first | exact Or.inl rfl | exact Or.inr rfl)) (Nat.le_refl _) (Nat.le_refl _) (by first | (exfalso; omega) | exact ⟨_, _, _, _, rs, (((EqO.rf.st (by decide)).st (by decide)).st (by decide)), (at_eq (at_eq (at_ne (by decide) e25))), (at_ne (by decide) (at_ne (by decide) (at_eq e27))), (at_ne (by decide) (at_ne (by decide) (at_ne (by decide) e28))), (by rw [List.length_set]; exact lrn), lrs, Or.inl ⟨_, wsL hl (by omega), rfl, rfl, rfl, lwI_s _, (by first | exact rnE_a hl (by omega) (by omega) | exact rnE_b hl (by omega) (by omega)), rsE_a (by omega)⟩⟩)
              · refine g_push eX12_go_161 ?_
                refine g_iload eX12_go_162 rfl ?_
                refine g_ishlN eX12_go_163 (by omega) (one_shl _ (by omega)) ?_
                refine g_goto eX12_go_164 ?_
                refine g_iastN eX12_go_180 e27 (by omega) (by omega) ?_
                refine g_goto eX12_go_181 ?_
                refine g_aload eX12_go_194 rfl ?_
                refine g_dup eX12_go_195 rfl ?_
                refine g_get eX12_go_196 fX12_68_X12 (at_ne (by decide) e25) (by rfl) ?_
                refine g_push eX12_go_199 ?_
                refine g_iaddN eX12_go_200 ?_
                refine g_putI eX12_go_201 fX12_68_X12 pX12_3 (at_ne (by decide) e25) (by exact Nat.le_of_ble_eq_true rfl) ?_
                refine g_aload eX12_go_204 rfl ?_
                refine g_iload eX12_go_205 rfl ?_
                refine g_putI eX12_go_206 fX12_71_X12 pX12_4 (at_eq (at_ne (by decide) e25)) (by exact Nat.le_of_ble_eq_true rfl) ?_
                refine g_push eX12_go_209 ?_
                exact g_ret (eX12_go_210 _ (by first | exact Or.inl rfl | exact Or.inr rfl)) (Nat.le_refl _) (Nat.le_refl _) (by first | (exfalso; omega) | exact ⟨_, _, _, _, rs, (((EqO.rf.st (by decide)).st (by decide)).st (by decide)), (at_eq (at_eq (at_ne (by decide) e25))), (at_ne (by decide) (at_ne (by decide) (at_eq e27))), (at_ne (by decide) (at_ne (by decide) (at_ne (by decide) e28))), (by rw [List.length_set]; exact lrn), lrs, Or.inl ⟨_, wsL hl (by omega), rfl, rfl, rfl, lwI_s _, (by first | exact rnE_a hl (by omega) (by omega) | exact rnE_b hl (by omega) (by omega)), rsE_a (by omega)⟩⟩)
          · rw [lwI_lt o3 (by omega)] at c133
            refine g_push eX12_go_136 ?_
            exact g_ret (eX12_go_137 _ (by first | exact Or.inl rfl | exact Or.inr rfl)) (Nat.le_refl _) (Nat.le_refl _) (by first | (exfalso; omega) | exact ⟨_, _, _, rn, rs, EqO.rf, e25, e27, e28, lrn, lrs, Or.inr ⟨wsK hl (by omega), rfl⟩⟩)
    · refine g_push eX12_go_111 ?_
      refine g_goto eX12_go_112 ?_
      refine g_icmp_eqN eX12_go_117 (by omega) (by omega) (fun c117 => ?_) (fun c117 => ?_)
      · refine g_push eX12_go_136 ?_
        exact g_ret (eX12_go_137 _ (by first | exact Or.inl rfl | exact Or.inr rfl)) (Nat.le_refl _) (Nat.le_refl _) (by first | (exfalso; omega) | exact ⟨_, _, _, rn, rs, EqO.rf, e25, e27, e28, lrn, lrs, Or.inr ⟨wsK hl (by omega), rfl⟩⟩)
      · refine g_aload eX12_go_120 rfl ?_
        refine g_get eX12_go_121 fX12_65_X12 e25 (by rfl) ?_
        refine g_push eX12_go_124 ?_
        refine g_icmp_geN eX12_go_125 (by omega) (by omega) (fun c125 => ?_) (fun c125 => ?_)
        · refine g_aload eX12_go_138 rfl ?_
          refine g_get eX12_go_139 fX12_65_X12 e25 (by rfl) ?_
          refine g_push eX12_go_142 ?_
          refine g_icmp_geN eX12_go_143 (by omega) (by omega) (fun c143 => ?_) (fun c143 => ?_)
          · refine g_aload eX12_go_184 rfl ?_
            refine g_get eX12_go_185 fX12_16_X12 e25 (by rfl) ?_
            refine g_aload eX12_go_188 rfl ?_
            refine g_get eX12_go_189 fX12_68_X12 e25 (by rfl) ?_
            refine g_iload eX12_go_192 rfl ?_
            refine g_iastN eX12_go_193 e28 (by omega) (by omega) ?_
            refine g_aload eX12_go_194 rfl ?_
            refine g_dup eX12_go_195 rfl ?_
            refine g_get eX12_go_196 fX12_68_X12 (at_ne (by decide) e25) (by rfl) ?_
            refine g_push eX12_go_199 ?_
            refine g_iaddN eX12_go_200 ?_
            refine g_putI eX12_go_201 fX12_68_X12 pX12_3 (at_ne (by decide) e25) (by exact Nat.le_of_ble_eq_true rfl) ?_
            refine g_aload eX12_go_204 rfl ?_
            refine g_iload eX12_go_205 rfl ?_
            refine g_putI eX12_go_206 fX12_71_X12 pX12_4 (at_eq (at_ne (by decide) e25)) (by exact Nat.le_of_ble_eq_true rfl) ?_
            refine g_push eX12_go_209 ?_
            exact g_ret (eX12_go_210 _ (by first | exact Or.inl rfl | exact Or.inr rfl)) (Nat.le_refl _) (Nat.le_refl _) (by first | (exfalso; omega) | exact ⟨_, _, _, rn, _, (((EqO.rf.st (by decide)).st (by decide)).st (by decide)), (at_eq (at_eq (at_ne (by decide) e25))), (at_ne (by decide) (at_ne (by decide) (at_ne (by decide) e27))), (at_ne (by decide) (at_ne (by decide) (at_eq e28))), lrn, (by rw [List.length_set]; exact lrs), Or.inl ⟨_, wsL hl (by omega), rfl, rfl, rfl, lwI_s _, rnE_c (by omega), rsE_b hl (by omega)⟩⟩)
          · refine g_aload eX12_go_146 rfl ?_
            refine g_get eX12_go_147 fX12_13_X12 e25 (by rfl) ?_
            refine g_aload eX12_go_150 rfl ?_
            refine g_get eX12_go_151 fX12_65_X12 e25 (by rfl) ?_
            refine g_aload eX12_go_154 rfl ?_
            refine g_get eX12_go_155 fX12_68_X12 e25 (by rfl) ?_
            refine g_if_neN eX12_go_158 (by omega) (fun c158 => ?_) (fun c158 => ?_)
            · refine g_aload eX12_go_167 rfl ?_
              refine g_get eX12_go_168 fX12_13_X12 e25 (by rfl) ?_
              refine g_aload eX12_go_171 rfl ?_
              refine g_get eX12_go_172 fX12_65_X12 e25 (by rfl) ?_
              refine g_ialdN eX12_go_175 e27 (by omega) (by omega) ?_
              refine g_push eX12_go_176 ?_
              refine g_iload eX12_go_177 rfl ?_
              refine g_ishlN eX12_go_178 (by omega) (one_shl _ (by omega)) ?_
              refine g_iorN eX12_go_179 ?_
              refine g_iastN eX12_go_180 e27 (by omega) (by omega) ?_
              refine g_goto eX12_go_181 ?_
              refine g_aload eX12_go_194 rfl ?_
              refine g_dup eX12_go_195 rfl ?_
              refine g_get eX12_go_196 fX12_68_X12 (at_ne (by decide) e25) (by rfl) ?_
              refine g_push eX12_go_199 ?_
              refine g_iaddN eX12_go_200 ?_
              refine g_putI eX12_go_201 fX12_68_X12 pX12_3 (at_ne (by decide) e25) (by exact Nat.le_of_ble_eq_true rfl) ?_
              refine g_aload eX12_go_204 rfl ?_
              refine g_iload eX12_go_205 rfl ?_
              refine g_putI eX12_go_206 fX12_71_X12 pX12_4 (at_eq (at_ne (by decide) e25)) (by exact Nat.le_of_ble_eq_true rfl) ?_
              refine g_push eX12_go_209 ?_
              exact g_ret (eX12_go_210 _ (by first | exact Or.inl rfl | exact Or.inr rfl)) (Nat.le_refl _) (Nat.le_refl _) (by first | (exfalso; omega) | exact ⟨_, _, _, _, rs, (((EqO.rf.st (by decide)).st (by decide)).st (by decide)), (at_eq (at_eq (at_ne (by decide) e25))), (at_ne (by decide) (at_ne (by decide) (at_eq e27))), (at_ne (by decide) (at_ne (by decide) (at_ne (by decide) e28))), (by rw [List.length_set]; exact lrn), lrs, Or.inl ⟨_, wsL hl (by omega), rfl, rfl, rfl, lwI_s _, (by first | exact rnE_a hl (by omega) (by omega) | exact rnE_b hl (by omega) (by omega)), rsE_a (by omega)⟩⟩)
            · refine g_push eX12_go_161 ?_
              refine g_iload eX12_go_162 rfl ?_
              refine g_ishlN eX12_go_163 (by omega) (one_shl _ (by omega)) ?_
              refine g_goto eX12_go_164 ?_
              refine g_iastN eX12_go_180 e27 (by omega) (by omega) ?_
              refine g_goto eX12_go_181 ?_
              refine g_aload eX12_go_194 rfl ?_
              refine g_dup eX12_go_195 rfl ?_
              refine g_get eX12_go_196 fX12_68_X12 (at_ne (by decide) e25) (by rfl) ?_
              refine g_push eX12_go_199 ?_
              refine g_iaddN eX12_go_200 ?_
              refine g_putI eX12_go_201 fX12_68_X12 pX12_3 (at_ne (by decide) e25) (by exact Nat.le_of_ble_eq_true rfl) ?_
              refine g_aload eX12_go_204 rfl ?_
              refine g_iload eX12_go_205 rfl ?_
              refine g_putI eX12_go_206 fX12_71_X12 pX12_4 (at_eq (at_ne (by decide) e25)) (by exact Nat.le_of_ble_eq_true rfl) ?_
              refine g_push eX12_go_209 ?_
              exact g_ret (eX12_go_210 _ (by first | exact Or.inl rfl | exact Or.inr rfl)) (Nat.le_refl _) (Nat.le_refl _) (by first | (exfalso; omega) | exact ⟨_, _, _, _, rs, (((EqO.rf.st (by decide)).st (by decide)).st (by decide)), (at_eq (at_eq (at_ne (by decide) e25))), (at_ne (by decide) (at_ne (by decide) (at_eq e27))), (at_ne (by decide) (at_ne (by decide) (at_ne (by decide) e28))), (by rw [List.length_set]; exact lrn), lrs, Or.inl ⟨_, wsL hl (by omega), rfl, rfl, rfl, lwI_s _, (by first | exact rnE_a hl (by omega) (by omega) | exact rnE_b hl (by omega) (by omega)), rsE_a (by omega)⟩⟩)
        · refine g_iload eX12_go_128 rfl ?_
          refine g_aload eX12_go_129 rfl ?_
          refine g_get eX12_go_130 fX12_71_X12 e25 (by rfl) ?_
          refine g_icmp_gt eX12_go_133 (fun c133 => ?_) (fun c133 => ?_)
          · rw [lwI_lt o3 (by omega)] at c133
            refine g_aload eX12_go_138 rfl ?_
            refine g_get eX12_go_139 fX12_65_X12 e25 (by rfl) ?_
            refine g_push eX12_go_142 ?_
            refine g_icmp_geN eX12_go_143 (by omega) (by omega) (fun c143 => ?_) (fun c143 => ?_)
            · refine g_aload eX12_go_184 rfl ?_
              refine g_get eX12_go_185 fX12_16_X12 e25 (by rfl) ?_
              refine g_aload eX12_go_188 rfl ?_
              refine g_get eX12_go_189 fX12_68_X12 e25 (by rfl) ?_
              refine g_iload eX12_go_192 rfl ?_
              refine g_iastN eX12_go_193 e28 (by omega) (by omega) ?_
              refine g_aload eX12_go_194 rfl ?_
              refine g_dup eX12_go_195 rfl ?_
              refine g_get eX12_go_196 fX12_68_X12 (at_ne (by decide) e25) (by rfl) ?_
              refine g_push eX12_go_199 ?_
              refine g_iaddN eX12_go_200 ?_
              refine g_putI eX12_go_201 fX12_68_X12 pX12_3 (at_ne (by decide) e25) (by exact Nat.le_of_ble_eq_true rfl) ?_
              refine g_aload eX12_go_204 rfl ?_
              refine g_iload eX12_go_205 rfl ?_
              refine g_putI eX12_go_206 fX12_71_X12 pX12_4 (at_eq (at_ne (by decide) e25)) (by exact Nat.le_of_ble_eq_true rfl) ?_
              refine g_push eX12_go_209 ?_
              exact g_ret (eX12_go_210 _ (by first | exact Or.inl rfl | exact Or.inr rfl)) (Nat.le_refl _) (Nat.le_refl _) (by first | (exfalso; omega) | exact ⟨_, _, _, rn, _, (((EqO.rf.st (by decide)).st (by decide)).st (by decide)), (at_eq (at_eq (at_ne (by decide) e25))), (at_ne (by decide) (at_ne (by decide) (at_ne (by decide) e27))), (at_ne (by decide) (at_ne (by decide) (at_eq e28))), lrn, (by rw [List.length_set]; exact lrs), Or.inl ⟨_, wsL hl (by omega), rfl, rfl, rfl, lwI_s _, rnE_c (by omega), rsE_b hl (by omega)⟩⟩)
            · refine g_aload eX12_go_146 rfl ?_
              refine g_get eX12_go_147 fX12_13_X12 e25 (by rfl) ?_
              refine g_aload eX12_go_150 rfl ?_
              refine g_get eX12_go_151 fX12_65_X12 e25 (by rfl) ?_
              refine g_aload eX12_go_154 rfl ?_
              refine g_get eX12_go_155 fX12_68_X12 e25 (by rfl) ?_
              refine g_if_neN eX12_go_158 (by omega) (fun c158 => ?_) (fun c158 => ?_)
              · refine g_aload eX12_go_167 rfl ?_
                refine g_get eX12_go_168 fX12_13_X12 e25 (by rfl) ?_
                refine g_aload eX12_go_171 rfl ?_
                refine g_get eX12_go_172 fX12_65_X12 e25 (by rfl) ?_
                refine g_ialdN eX12_go_175 e27 (by omega) (by omega) ?_
                refine g_push eX12_go_176 ?_
                refine g_iload eX12_go_177 rfl ?_
                refine g_ishlN eX12_go_178 (by omega) (one_shl _ (by omega)) ?_
                refine g_iorN eX12_go_179 ?_
                refine g_iastN eX12_go_180 e27 (by omega) (by omega) ?_
                refine g_goto eX12_go_181 ?_
                refine g_aload eX12_go_194 rfl ?_
                refine g_dup eX12_go_195 rfl ?_
                refine g_get eX12_go_196 fX12_68_X12 (at_ne (by decide) e25) (by rfl) ?_
                refine g_push eX12_go_199 ?_
                refine g_iaddN eX12_go_200 ?_
                refine g_putI eX12_go_201 fX12_68_X12 pX12_3 (at_ne (by decide) e25) (by exact Nat.le_of_ble_eq_true rfl) ?_
                refine g_aload eX12_go_204 rfl ?_
                refine g_iload eX12_go_205 rfl ?_
                refine g_putI eX12_go_206 fX12_71_X12 pX12_4 (at_eq (at_ne (by decide) e25)) (by exact Nat.le_of_ble_eq_true rfl) ?_
                refine g_push eX12_go_209 ?_
                exact g_ret (eX12_go_210 _ (by first | exact Or.inl rfl | exact Or.inr rfl)) (Nat.le_refl _) (Nat.le_refl _) (by first | (exfalso; omega) | exact ⟨_, _, _, _, rs, (((EqO.rf.st (by decide)).st (by decide)).st (by decide)), (at_eq (at_eq (at_ne (by decide) e25))), (at_ne (by decide) (at_ne (by decide) (at_eq e27))), (at_ne (by decide) (at_ne (by decide) (at_ne (by decide) e28))), (by rw [List.length_set]; exact lrn), lrs, Or.inl ⟨_, wsL hl (by omega), rfl, rfl, rfl, lwI_s _, (by first | exact rnE_a hl (by omega) (by omega) | exact rnE_b hl (by omega) (by omega)), rsE_a (by omega)⟩⟩)
              · refine g_push eX12_go_161 ?_
                refine g_iload eX12_go_162 rfl ?_
                refine g_ishlN eX12_go_163 (by omega) (one_shl _ (by omega)) ?_
                refine g_goto eX12_go_164 ?_
                refine g_iastN eX12_go_180 e27 (by omega) (by omega) ?_
                refine g_goto eX12_go_181 ?_
                refine g_aload eX12_go_194 rfl ?_
                refine g_dup eX12_go_195 rfl ?_
                refine g_get eX12_go_196 fX12_68_X12 (at_ne (by decide) e25) (by rfl) ?_
                refine g_push eX12_go_199 ?_
                refine g_iaddN eX12_go_200 ?_
                refine g_putI eX12_go_201 fX12_68_X12 pX12_3 (at_ne (by decide) e25) (by exact Nat.le_of_ble_eq_true rfl) ?_
                refine g_aload eX12_go_204 rfl ?_
                refine g_iload eX12_go_205 rfl ?_
                refine g_putI eX12_go_206 fX12_71_X12 pX12_4 (at_eq (at_ne (by decide) e25)) (by exact Nat.le_of_ble_eq_true rfl) ?_
                refine g_push eX12_go_209 ?_
                exact g_ret (eX12_go_210 _ (by first | exact Or.inl rfl | exact Or.inr rfl)) (Nat.le_refl _) (Nat.le_refl _) (by first | (exfalso; omega) | exact ⟨_, _, _, _, rs, (((EqO.rf.st (by decide)).st (by decide)).st (by decide)), (at_eq (at_eq (at_ne (by decide) e25))), (at_ne (by decide) (at_ne (by decide) (at_eq e27))), (at_ne (by decide) (at_ne (by decide) (at_ne (by decide) e28))), (by rw [List.length_set]; exact lrn), lrs, Or.inl ⟨_, wsL hl (by omega), rfl, rfl, rfl, lwI_s _, (by first | exact rnE_a hl (by omega) (by omega) | exact rnE_b hl (by omega) (by omega)), rsE_a (by omega)⟩⟩)
          · rw [lwI_lt o3 (by omega)] at c133
            refine g_push eX12_go_136 ?_
            exact g_ret (eX12_go_137 _ (by first | exact Or.inl rfl | exact Or.inr rfl)) (Nat.le_refl _) (Nat.le_refl _) (by first | (exfalso; omega) | exact ⟨_, _, _, rn, rs, EqO.rf, e25, e27, e28, lrn, lrs, Or.inr ⟨wsK hl (by omega), rfl⟩⟩)
  · refine g_iload eX12_go_0 rfl ?_
    refine g_push eX12_go_1 ?_
    refine g_isub eX12_go_3 ?_
    refine g_istore eX12_go_4 rfl ?_
    refine g_iload eX12_go_5 rfl ?_
    refine g_push eX12_go_6 ?_
    refine g_icmp_eqN eX12_go_8 (by omega) (by omega) (fun c8 => ?_) (fun c8 => ?_)
    · refine g_aload eX12_go_17 rfl ?_
      refine g_get eX12_go_18 fX12_65_X12 e25 (by rfl) ?_
      refine g_push eX12_go_21 ?_
      refine g_icmp_geN eX12_go_22 (by omega) (by omega) (fun c22 => ?_) (fun c22 => ?_)
      · refine g_push eX12_go_63 ?_
        refine g_istore eX12_go_64 rfl ?_
        refine g_aload eX12_go_65 rfl ?_
        refine g_dup eX12_go_66 rfl ?_
        refine g_get eX12_go_67 fX12_65_X12 e25 (by rfl) ?_
        refine g_push eX12_go_70 ?_
        refine g_iaddN eX12_go_71 ?_
        refine g_putI eX12_go_72 fX12_65_X12 pX12_2 e25 (by exact Nat.le_of_ble_eq_true rfl) ?_
        refine g_aload eX12_go_75 rfl ?_
        refine g_push eX12_go_76 ?_
        refine g_putI eX12_go_77 fX12_68_X12 pX12_3 (at_eq e25) (by exact Nat.le_of_ble_eq_true rfl) ?_
        refine g_aload eX12_go_80 rfl ?_
        refine g_push (v := -1) eX12_go_81 ?_
        refine g_putI eX12_go_82 fX12_71_X12 pX12_4 (at_eq (at_eq e25)) (by exact Nat.le_of_ble_eq_true rfl) ?_
        refine g_iload eX12_go_85 rfl ?_
        exact g_ret (eX12_go_86 _ (by first | exact Or.inl rfl | exact Or.inr rfl)) (Nat.le_refl _) (Nat.le_refl _) (by first | exact ⟨_, _, _, rn, rs, (((EqO.rf.st (by decide)).st (by decide)).st (by decide)), (at_eq (at_eq (at_eq e25))), (at_ne (by decide) (at_ne (by decide) (at_ne (by decide) e27))), (at_ne (by decide) (at_ne (by decide) (at_ne (by decide) e28))), lrn, lrs, Or.inr ⟨wsN hl (by omega), rfl⟩⟩ | exact ⟨_, _, _, rn, rs, (((EqO.rf.st (by decide)).st (by decide)).st (by decide)), (at_eq (at_eq (at_eq e25))), (at_ne (by decide) (at_ne (by decide) (at_ne (by decide) e27))), (at_ne (by decide) (at_ne (by decide) (at_ne (by decide) e28))), lrn, lrs, Or.inl ⟨_, wsO hl (by omega) (by omega) (by omega), rfl, rfl, rfl, rfl, by unfold rnE; rw [if_neg hl], by unfold rsE; rw [if_neg hl]⟩⟩ | (exfalso; omega))
      · refine g_aload eX12_go_25 rfl ?_
        refine g_get eX12_go_26 fX12_68_X12 e25 (by rfl) ?_
        refine g_if_leN eX12_go_29 (by omega) (fun c29 => ?_) (fun c29 => ?_)
        · refine g_push eX12_go_63 ?_
          refine g_istore eX12_go_64 rfl ?_
          refine g_aload eX12_go_65 rfl ?_
          refine g_dup eX12_go_66 rfl ?_
          refine g_get eX12_go_67 fX12_65_X12 e25 (by rfl) ?_
          refine g_push eX12_go_70 ?_
          refine g_iaddN eX12_go_71 ?_
          refine g_putI eX12_go_72 fX12_65_X12 pX12_2 e25 (by exact Nat.le_of_ble_eq_true rfl) ?_
          refine g_aload eX12_go_75 rfl ?_
          refine g_push eX12_go_76 ?_
          refine g_putI eX12_go_77 fX12_68_X12 pX12_3 (at_eq e25) (by exact Nat.le_of_ble_eq_true rfl) ?_
          refine g_aload eX12_go_80 rfl ?_
          refine g_push (v := -1) eX12_go_81 ?_
          refine g_putI eX12_go_82 fX12_71_X12 pX12_4 (at_eq (at_eq e25)) (by exact Nat.le_of_ble_eq_true rfl) ?_
          refine g_iload eX12_go_85 rfl ?_
          exact g_ret (eX12_go_86 _ (by first | exact Or.inl rfl | exact Or.inr rfl)) (Nat.le_refl _) (Nat.le_refl _) (by first | exact ⟨_, _, _, rn, rs, (((EqO.rf.st (by decide)).st (by decide)).st (by decide)), (at_eq (at_eq (at_eq e25))), (at_ne (by decide) (at_ne (by decide) (at_ne (by decide) e27))), (at_ne (by decide) (at_ne (by decide) (at_ne (by decide) e28))), lrn, lrs, Or.inr ⟨wsN hl (by omega), rfl⟩⟩ | exact ⟨_, _, _, rn, rs, (((EqO.rf.st (by decide)).st (by decide)).st (by decide)), (at_eq (at_eq (at_eq e25))), (at_ne (by decide) (at_ne (by decide) (at_ne (by decide) e27))), (at_ne (by decide) (at_ne (by decide) (at_ne (by decide) e28))), lrn, lrs, Or.inl ⟨_, wsO hl (by omega) (by omega) (by omega), rfl, rfl, rfl, rfl, by unfold rnE; rw [if_neg hl], by unfold rsE; rw [if_neg hl]⟩⟩ | (exfalso; omega))
        · refine g_iload eX12_go_32 rfl ?_
          refine g_push eX12_go_33 ?_
          refine g_icmp_neN eX12_go_35 (by omega) (by omega) (fun c35 => ?_) (fun c35 => ?_)
          · refine g_push eX12_go_42 ?_
            refine g_aload eX12_go_43 rfl ?_
            refine g_get eX12_go_44 fX12_65_X12 e25 (by rfl) ?_
            refine g_push eX12_go_47 ?_
            refine g_icmp_neN eX12_go_48 (by omega) (by omega) (fun c48 => ?_) (fun c48 => ?_)
            · refine g_push eX12_go_55 ?_
              refine g_icmp_neN eX12_go_56 (by omega) (by omega) (fun c56 => ?_) (fun c56 => ?_)
              · refine g_push eX12_go_63 ?_
                refine g_istore eX12_go_64 rfl ?_
                refine g_aload eX12_go_65 rfl ?_
                refine g_dup eX12_go_66 rfl ?_
                refine g_get eX12_go_67 fX12_65_X12 e25 (by rfl) ?_
                refine g_push eX12_go_70 ?_
                refine g_iaddN eX12_go_71 ?_
                refine g_putI eX12_go_72 fX12_65_X12 pX12_2 e25 (by exact Nat.le_of_ble_eq_true rfl) ?_
                refine g_aload eX12_go_75 rfl ?_
                refine g_push eX12_go_76 ?_
                refine g_putI eX12_go_77 fX12_68_X12 pX12_3 (at_eq e25) (by exact Nat.le_of_ble_eq_true rfl) ?_
                refine g_aload eX12_go_80 rfl ?_
                refine g_push (v := -1) eX12_go_81 ?_
                refine g_putI eX12_go_82 fX12_71_X12 pX12_4 (at_eq (at_eq e25)) (by exact Nat.le_of_ble_eq_true rfl) ?_
                refine g_iload eX12_go_85 rfl ?_
                exact g_ret (eX12_go_86 _ (by first | exact Or.inl rfl | exact Or.inr rfl)) (Nat.le_refl _) (Nat.le_refl _) (by first | exact ⟨_, _, _, rn, rs, (((EqO.rf.st (by decide)).st (by decide)).st (by decide)), (at_eq (at_eq (at_eq e25))), (at_ne (by decide) (at_ne (by decide) (at_ne (by decide) e27))), (at_ne (by decide) (at_ne (by decide) (at_ne (by decide) e28))), lrn, lrs, Or.inr ⟨wsN hl (by omega), rfl⟩⟩ | exact ⟨_, _, _, rn, rs, (((EqO.rf.st (by decide)).st (by decide)).st (by decide)), (at_eq (at_eq (at_eq e25))), (at_ne (by decide) (at_ne (by decide) (at_ne (by decide) e27))), (at_ne (by decide) (at_ne (by decide) (at_ne (by decide) e28))), lrn, lrs, Or.inl ⟨_, wsO hl (by omega) (by omega) (by omega), rfl, rfl, rfl, rfl, by unfold rnE; rw [if_neg hl], by unfold rsE; rw [if_neg hl]⟩⟩ | (exfalso; omega))
              · refine g_push eX12_go_59 ?_
                refine g_goto eX12_go_60 ?_
                refine g_istore eX12_go_64 rfl ?_
                refine g_aload eX12_go_65 rfl ?_
                refine g_dup eX12_go_66 rfl ?_
                refine g_get eX12_go_67 fX12_65_X12 e25 (by rfl) ?_
                refine g_push eX12_go_70 ?_
                refine g_iaddN eX12_go_71 ?_
                refine g_putI eX12_go_72 fX12_65_X12 pX12_2 e25 (by exact Nat.le_of_ble_eq_true rfl) ?_
                refine g_aload eX12_go_75 rfl ?_
                refine g_push eX12_go_76 ?_
                refine g_putI eX12_go_77 fX12_68_X12 pX12_3 (at_eq e25) (by exact Nat.le_of_ble_eq_true rfl) ?_
                refine g_aload eX12_go_80 rfl ?_
                refine g_push (v := -1) eX12_go_81 ?_
                refine g_putI eX12_go_82 fX12_71_X12 pX12_4 (at_eq (at_eq e25)) (by exact Nat.le_of_ble_eq_true rfl) ?_
                refine g_iload eX12_go_85 rfl ?_
                exact g_ret (eX12_go_86 _ (by first | exact Or.inl rfl | exact Or.inr rfl)) (Nat.le_refl _) (Nat.le_refl _) (by first | exact ⟨_, _, _, rn, rs, (((EqO.rf.st (by decide)).st (by decide)).st (by decide)), (at_eq (at_eq (at_eq e25))), (at_ne (by decide) (at_ne (by decide) (at_ne (by decide) e27))), (at_ne (by decide) (at_ne (by decide) (at_ne (by decide) e28))), lrn, lrs, Or.inr ⟨wsN hl (by omega), rfl⟩⟩ | exact ⟨_, _, _, rn, rs, (((EqO.rf.st (by decide)).st (by decide)).st (by decide)), (at_eq (at_eq (at_eq e25))), (at_ne (by decide) (at_ne (by decide) (at_ne (by decide) e27))), (at_ne (by decide) (at_ne (by decide) (at_ne (by decide) e28))), lrn, lrs, Or.inl ⟨_, wsO hl (by omega) (by omega) (by omega), rfl, rfl, rfl, rfl, by unfold rnE; rw [if_neg hl], by unfold rsE; rw [if_neg hl]⟩⟩ | (exfalso; omega))
            · refine g_push eX12_go_51 ?_
              refine g_goto eX12_go_52 ?_
              refine g_icmp_neN eX12_go_56 (by omega) (by omega) (fun c56 => ?_) (fun c56 => ?_)
              · refine g_push eX12_go_63 ?_
                refine g_istore eX12_go_64 rfl ?_
                refine g_aload eX12_go_65 rfl ?_
                refine g_dup eX12_go_66 rfl ?_
                refine g_get eX12_go_67 fX12_65_X12 e25 (by rfl) ?_
                refine g_push eX12_go_70 ?_
                refine g_iaddN eX12_go_71 ?_
                refine g_putI eX12_go_72 fX12_65_X12 pX12_2 e25 (by exact Nat.le_of_ble_eq_true rfl) ?_
                refine g_aload eX12_go_75 rfl ?_
                refine g_push eX12_go_76 ?_
                refine g_putI eX12_go_77 fX12_68_X12 pX12_3 (at_eq e25) (by exact Nat.le_of_ble_eq_true rfl) ?_
                refine g_aload eX12_go_80 rfl ?_
                refine g_push (v := -1) eX12_go_81 ?_
                refine g_putI eX12_go_82 fX12_71_X12 pX12_4 (at_eq (at_eq e25)) (by exact Nat.le_of_ble_eq_true rfl) ?_
                refine g_iload eX12_go_85 rfl ?_
                exact g_ret (eX12_go_86 _ (by first | exact Or.inl rfl | exact Or.inr rfl)) (Nat.le_refl _) (Nat.le_refl _) (by first | exact ⟨_, _, _, rn, rs, (((EqO.rf.st (by decide)).st (by decide)).st (by decide)), (at_eq (at_eq (at_eq e25))), (at_ne (by decide) (at_ne (by decide) (at_ne (by decide) e27))), (at_ne (by decide) (at_ne (by decide) (at_ne (by decide) e28))), lrn, lrs, Or.inr ⟨wsN hl (by omega), rfl⟩⟩ | exact ⟨_, _, _, rn, rs, (((EqO.rf.st (by decide)).st (by decide)).st (by decide)), (at_eq (at_eq (at_eq e25))), (at_ne (by decide) (at_ne (by decide) (at_ne (by decide) e27))), (at_ne (by decide) (at_ne (by decide) (at_ne (by decide) e28))), lrn, lrs, Or.inl ⟨_, wsO hl (by omega) (by omega) (by omega), rfl, rfl, rfl, rfl, by unfold rnE; rw [if_neg hl], by unfold rsE; rw [if_neg hl]⟩⟩ | (exfalso; omega))
              · refine g_push eX12_go_59 ?_
                refine g_goto eX12_go_60 ?_
                refine g_istore eX12_go_64 rfl ?_
                refine g_aload eX12_go_65 rfl ?_
                refine g_dup eX12_go_66 rfl ?_
                refine g_get eX12_go_67 fX12_65_X12 e25 (by rfl) ?_
                refine g_push eX12_go_70 ?_
                refine g_iaddN eX12_go_71 ?_
                refine g_putI eX12_go_72 fX12_65_X12 pX12_2 e25 (by exact Nat.le_of_ble_eq_true rfl) ?_
                refine g_aload eX12_go_75 rfl ?_
                refine g_push eX12_go_76 ?_
                refine g_putI eX12_go_77 fX12_68_X12 pX12_3 (at_eq e25) (by exact Nat.le_of_ble_eq_true rfl) ?_
                refine g_aload eX12_go_80 rfl ?_
                refine g_push (v := -1) eX12_go_81 ?_
                refine g_putI eX12_go_82 fX12_71_X12 pX12_4 (at_eq (at_eq e25)) (by exact Nat.le_of_ble_eq_true rfl) ?_
                refine g_iload eX12_go_85 rfl ?_
                exact g_ret (eX12_go_86 _ (by first | exact Or.inl rfl | exact Or.inr rfl)) (Nat.le_refl _) (Nat.le_refl _) (by first | exact ⟨_, _, _, rn, rs, (((EqO.rf.st (by decide)).st (by decide)).st (by decide)), (at_eq (at_eq (at_eq e25))), (at_ne (by decide) (at_ne (by decide) (at_ne (by decide) e27))), (at_ne (by decide) (at_ne (by decide) (at_ne (by decide) e28))), lrn, lrs, Or.inr ⟨wsN hl (by omega), rfl⟩⟩ | exact ⟨_, _, _, rn, rs, (((EqO.rf.st (by decide)).st (by decide)).st (by decide)), (at_eq (at_eq (at_eq e25))), (at_ne (by decide) (at_ne (by decide) (at_ne (by decide) e27))), (at_ne (by decide) (at_ne (by decide) (at_ne (by decide) e28))), lrn, lrs, Or.inl ⟨_, wsO hl (by omega) (by omega) (by omega), rfl, rfl, rfl, rfl, by unfold rnE; rw [if_neg hl], by unfold rsE; rw [if_neg hl]⟩⟩ | (exfalso; omega))
          · refine g_push eX12_go_38 ?_
            refine g_goto eX12_go_39 ?_
            refine g_aload eX12_go_43 rfl ?_
            refine g_get eX12_go_44 fX12_65_X12 e25 (by rfl) ?_
            refine g_push eX12_go_47 ?_
            refine g_icmp_neN eX12_go_48 (by omega) (by omega) (fun c48 => ?_) (fun c48 => ?_)
            · refine g_push eX12_go_55 ?_
              refine g_icmp_neN eX12_go_56 (by omega) (by omega) (fun c56 => ?_) (fun c56 => ?_)
              · refine g_push eX12_go_63 ?_
                refine g_istore eX12_go_64 rfl ?_
                refine g_aload eX12_go_65 rfl ?_
                refine g_dup eX12_go_66 rfl ?_
                refine g_get eX12_go_67 fX12_65_X12 e25 (by rfl) ?_
                refine g_push eX12_go_70 ?_
                refine g_iaddN eX12_go_71 ?_
                refine g_putI eX12_go_72 fX12_65_X12 pX12_2 e25 (by exact Nat.le_of_ble_eq_true rfl) ?_
                refine g_aload eX12_go_75 rfl ?_
                refine g_push eX12_go_76 ?_
                refine g_putI eX12_go_77 fX12_68_X12 pX12_3 (at_eq e25) (by exact Nat.le_of_ble_eq_true rfl) ?_
                refine g_aload eX12_go_80 rfl ?_
                refine g_push (v := -1) eX12_go_81 ?_
                refine g_putI eX12_go_82 fX12_71_X12 pX12_4 (at_eq (at_eq e25)) (by exact Nat.le_of_ble_eq_true rfl) ?_
                refine g_iload eX12_go_85 rfl ?_
                exact g_ret (eX12_go_86 _ (by first | exact Or.inl rfl | exact Or.inr rfl)) (Nat.le_refl _) (Nat.le_refl _) (by first | exact ⟨_, _, _, rn, rs, (((EqO.rf.st (by decide)).st (by decide)).st (by decide)), (at_eq (at_eq (at_eq e25))), (at_ne (by decide) (at_ne (by decide) (at_ne (by decide) e27))), (at_ne (by decide) (at_ne (by decide) (at_ne (by decide) e28))), lrn, lrs, Or.inr ⟨wsN hl (by omega), rfl⟩⟩ | exact ⟨_, _, _, rn, rs, (((EqO.rf.st (by decide)).st (by decide)).st (by decide)), (at_eq (at_eq (at_eq e25))), (at_ne (by decide) (at_ne (by decide) (at_ne (by decide) e27))), (at_ne (by decide) (at_ne (by decide) (at_ne (by decide) e28))), lrn, lrs, Or.inl ⟨_, wsO hl (by omega) (by omega) (by omega), rfl, rfl, rfl, rfl, by unfold rnE; rw [if_neg hl], by unfold rsE; rw [if_neg hl]⟩⟩ | (exfalso; omega))
              · refine g_push eX12_go_59 ?_
                refine g_goto eX12_go_60 ?_
                refine g_istore eX12_go_64 rfl ?_
                refine g_aload eX12_go_65 rfl ?_
                refine g_dup eX12_go_66 rfl ?_
                refine g_get eX12_go_67 fX12_65_X12 e25 (by rfl) ?_
                refine g_push eX12_go_70 ?_
                refine g_iaddN eX12_go_71 ?_
                refine g_putI eX12_go_72 fX12_65_X12 pX12_2 e25 (by exact Nat.le_of_ble_eq_true rfl) ?_
                refine g_aload eX12_go_75 rfl ?_
                refine g_push eX12_go_76 ?_
                refine g_putI eX12_go_77 fX12_68_X12 pX12_3 (at_eq e25) (by exact Nat.le_of_ble_eq_true rfl) ?_
                refine g_aload eX12_go_80 rfl ?_
                refine g_push (v := -1) eX12_go_81 ?_
                refine g_putI eX12_go_82 fX12_71_X12 pX12_4 (at_eq (at_eq e25)) (by exact Nat.le_of_ble_eq_true rfl) ?_
                refine g_iload eX12_go_85 rfl ?_
                exact g_ret (eX12_go_86 _ (by first | exact Or.inl rfl | exact Or.inr rfl)) (Nat.le_refl _) (Nat.le_refl _) (by first | exact ⟨_, _, _, rn, rs, (((EqO.rf.st (by decide)).st (by decide)).st (by decide)), (at_eq (at_eq (at_eq e25))), (at_ne (by decide) (at_ne (by decide) (at_ne (by decide) e27))), (at_ne (by decide) (at_ne (by decide) (at_ne (by decide) e28))), lrn, lrs, Or.inr ⟨wsN hl (by omega), rfl⟩⟩ | exact ⟨_, _, _, rn, rs, (((EqO.rf.st (by decide)).st (by decide)).st (by decide)), (at_eq (at_eq (at_eq e25))), (at_ne (by decide) (at_ne (by decide) (at_ne (by decide) e27))), (at_ne (by decide) (at_ne (by decide) (at_ne (by decide) e28))), lrn, lrs, Or.inl ⟨_, wsO hl (by omega) (by omega) (by omega), rfl, rfl, rfl, rfl, by unfold rnE; rw [if_neg hl], by unfold rsE; rw [if_neg hl]⟩⟩ | (exfalso; omega))
            · refine g_push eX12_go_51 ?_
              refine g_goto eX12_go_52 ?_
              refine g_icmp_neN eX12_go_56 (by omega) (by omega) (fun c56 => ?_) (fun c56 => ?_)
              · refine g_push eX12_go_63 ?_
                refine g_istore eX12_go_64 rfl ?_
                refine g_aload eX12_go_65 rfl ?_
                refine g_dup eX12_go_66 rfl ?_
                refine g_get eX12_go_67 fX12_65_X12 e25 (by rfl) ?_
                refine g_push eX12_go_70 ?_
                refine g_iaddN eX12_go_71 ?_
                refine g_putI eX12_go_72 fX12_65_X12 pX12_2 e25 (by exact Nat.le_of_ble_eq_true rfl) ?_
                refine g_aload eX12_go_75 rfl ?_
                refine g_push eX12_go_76 ?_
                refine g_putI eX12_go_77 fX12_68_X12 pX12_3 (at_eq e25) (by exact Nat.le_of_ble_eq_true rfl) ?_
                refine g_aload eX12_go_80 rfl ?_
                refine g_push (v := -1) eX12_go_81 ?_
                refine g_putI eX12_go_82 fX12_71_X12 pX12_4 (at_eq (at_eq e25)) (by exact Nat.le_of_ble_eq_true rfl) ?_
                refine g_iload eX12_go_85 rfl ?_
                exact g_ret (eX12_go_86 _ (by first | exact Or.inl rfl | exact Or.inr rfl)) (Nat.le_refl _) (Nat.le_refl _) (by first | exact ⟨_, _, _, rn, rs, (((EqO.rf.st (by decide)).st (by decide)).st (by decide)), (at_eq (at_eq (at_eq e25))), (at_ne (by decide) (at_ne (by decide) (at_ne (by decide) e27))), (at_ne (by decide) (at_ne (by decide) (at_ne (by decide) e28))), lrn, lrs, Or.inr ⟨wsN hl (by omega), rfl⟩⟩ | exact ⟨_, _, _, rn, rs, (((EqO.rf.st (by decide)).st (by decide)).st (by decide)), (at_eq (at_eq (at_eq e25))), (at_ne (by decide) (at_ne (by decide) (at_ne (by decide) e27))), (at_ne (by decide) (at_ne (by decide) (at_ne (by decide) e28))), lrn, lrs, Or.inl ⟨_, wsO hl (by omega) (by omega) (by omega), rfl, rfl, rfl, rfl, by unfold rnE; rw [if_neg hl], by unfold rsE; rw [if_neg hl]⟩⟩ | (exfalso; omega))
              · refine g_push eX12_go_59 ?_
                refine g_goto eX12_go_60 ?_
                refine g_istore eX12_go_64 rfl ?_
                refine g_aload eX12_go_65 rfl ?_
                refine g_dup eX12_go_66 rfl ?_
                refine g_get eX12_go_67 fX12_65_X12 e25 (by rfl) ?_
                refine g_push eX12_go_70 ?_
                refine g_iaddN eX12_go_71 ?_
                refine g_putI eX12_go_72 fX12_65_X12 pX12_2 e25 (by exact Nat.le_of_ble_eq_true rfl) ?_
                refine g_aload eX12_go_75 rfl ?_
                refine g_push eX12_go_76 ?_
                refine g_putI eX12_go_77 fX12_68_X12 pX12_3 (at_eq e25) (by exact Nat.le_of_ble_eq_true rfl) ?_
                refine g_aload eX12_go_80 rfl ?_
                refine g_push (v := -1) eX12_go_81 ?_
                refine g_putI eX12_go_82 fX12_71_X12 pX12_4 (at_eq (at_eq e25)) (by exact Nat.le_of_ble_eq_true rfl) ?_
                refine g_iload eX12_go_85 rfl ?_
                exact g_ret (eX12_go_86 _ (by first | exact Or.inl rfl | exact Or.inr rfl)) (Nat.le_refl _) (Nat.le_refl _) (by first | exact ⟨_, _, _, rn, rs, (((EqO.rf.st (by decide)).st (by decide)).st (by decide)), (at_eq (at_eq (at_eq e25))), (at_ne (by decide) (at_ne (by decide) (at_ne (by decide) e27))), (at_ne (by decide) (at_ne (by decide) (at_ne (by decide) e28))), lrn, lrs, Or.inr ⟨wsN hl (by omega), rfl⟩⟩ | exact ⟨_, _, _, rn, rs, (((EqO.rf.st (by decide)).st (by decide)).st (by decide)), (at_eq (at_eq (at_eq e25))), (at_ne (by decide) (at_ne (by decide) (at_ne (by decide) e27))), (at_ne (by decide) (at_ne (by decide) (at_ne (by decide) e28))), lrn, lrs, Or.inl ⟨_, wsO hl (by omega) (by omega) (by omega), rfl, rfl, rfl, rfl, by unfold rnE; rw [if_neg hl], by unfold rsE; rw [if_neg hl]⟩⟩ | (exfalso; omega))
    · refine g_iload eX12_go_11 rfl ?_
      refine g_push eX12_go_12 ?_
      refine g_icmp_neN eX12_go_14 (by omega) (by omega) (fun c14 => ?_) (fun c14 => ?_)
      · refine g_iload eX12_go_87 rfl ?_
        refine g_i2l eX12_go_88 ?_
        refine g_lconst eX12_go_89 rfl ?_
        refine g_ldc2 eX12_go_90 lX12_74 ?_
        refine g_callSp eX12_go_93 kX12_58 (c_inN (sub97 hc hl) rfl rfl) (by rfl) (by rfl) (by exact Nat.le_of_ble_eq_true rfl) (by exact Nat.le_of_ble_eq_true rfl) (by exact Nat.le_of_ble_eq_true rfl) (Nat.le_refl _) (Nat.le_refl _) ?_
        refine g_if_eqN eX12_go_96 (by omega) (fun c96 => ?_) (fun c96 => absurd rfl c96)
        refine g_push eX12_go_136 ?_
        exact g_ret (eX12_go_137 _ (by first | exact Or.inl rfl | exact Or.inr rfl)) (Nat.le_refl _) (Nat.le_refl _) ⟨_, _, _, rn, rs, EqO.rf, e25, e27, e28, lrn, lrs, Or.inr ⟨wsN hl (by omega), rfl⟩⟩
      · refine g_aload eX12_go_17 rfl ?_
        refine g_get eX12_go_18 fX12_65_X12 e25 (by rfl) ?_
        refine g_push eX12_go_21 ?_
        refine g_icmp_geN eX12_go_22 (by omega) (by omega) (fun c22 => ?_) (fun c22 => ?_)
        · refine g_push eX12_go_63 ?_
          refine g_istore eX12_go_64 rfl ?_
          refine g_aload eX12_go_65 rfl ?_
          refine g_dup eX12_go_66 rfl ?_
          refine g_get eX12_go_67 fX12_65_X12 e25 (by rfl) ?_
          refine g_push eX12_go_70 ?_
          refine g_iaddN eX12_go_71 ?_
          refine g_putI eX12_go_72 fX12_65_X12 pX12_2 e25 (by exact Nat.le_of_ble_eq_true rfl) ?_
          refine g_aload eX12_go_75 rfl ?_
          refine g_push eX12_go_76 ?_
          refine g_putI eX12_go_77 fX12_68_X12 pX12_3 (at_eq e25) (by exact Nat.le_of_ble_eq_true rfl) ?_
          refine g_aload eX12_go_80 rfl ?_
          refine g_push (v := -1) eX12_go_81 ?_
          refine g_putI eX12_go_82 fX12_71_X12 pX12_4 (at_eq (at_eq e25)) (by exact Nat.le_of_ble_eq_true rfl) ?_
          refine g_iload eX12_go_85 rfl ?_
          exact g_ret (eX12_go_86 _ (by first | exact Or.inl rfl | exact Or.inr rfl)) (Nat.le_refl _) (Nat.le_refl _) (by first | exact ⟨_, _, _, rn, rs, (((EqO.rf.st (by decide)).st (by decide)).st (by decide)), (at_eq (at_eq (at_eq e25))), (at_ne (by decide) (at_ne (by decide) (at_ne (by decide) e27))), (at_ne (by decide) (at_ne (by decide) (at_ne (by decide) e28))), lrn, lrs, Or.inr ⟨wsN hl (by omega), rfl⟩⟩ | exact ⟨_, _, _, rn, rs, (((EqO.rf.st (by decide)).st (by decide)).st (by decide)), (at_eq (at_eq (at_eq e25))), (at_ne (by decide) (at_ne (by decide) (at_ne (by decide) e27))), (at_ne (by decide) (at_ne (by decide) (at_ne (by decide) e28))), lrn, lrs, Or.inl ⟨_, wsO hl (by omega) (by omega) (by omega), rfl, rfl, rfl, rfl, by unfold rnE; rw [if_neg hl], by unfold rsE; rw [if_neg hl]⟩⟩ | (exfalso; omega))
        · refine g_aload eX12_go_25 rfl ?_
          refine g_get eX12_go_26 fX12_68_X12 e25 (by rfl) ?_
          refine g_if_leN eX12_go_29 (by omega) (fun c29 => ?_) (fun c29 => ?_)
          · refine g_push eX12_go_63 ?_
            refine g_istore eX12_go_64 rfl ?_
            refine g_aload eX12_go_65 rfl ?_
            refine g_dup eX12_go_66 rfl ?_
            refine g_get eX12_go_67 fX12_65_X12 e25 (by rfl) ?_
            refine g_push eX12_go_70 ?_
            refine g_iaddN eX12_go_71 ?_
            refine g_putI eX12_go_72 fX12_65_X12 pX12_2 e25 (by exact Nat.le_of_ble_eq_true rfl) ?_
            refine g_aload eX12_go_75 rfl ?_
            refine g_push eX12_go_76 ?_
            refine g_putI eX12_go_77 fX12_68_X12 pX12_3 (at_eq e25) (by exact Nat.le_of_ble_eq_true rfl) ?_
            refine g_aload eX12_go_80 rfl ?_
            refine g_push (v := -1) eX12_go_81 ?_
            refine g_putI eX12_go_82 fX12_71_X12 pX12_4 (at_eq (at_eq e25)) (by exact Nat.le_of_ble_eq_true rfl) ?_
            refine g_iload eX12_go_85 rfl ?_
            exact g_ret (eX12_go_86 _ (by first | exact Or.inl rfl | exact Or.inr rfl)) (Nat.le_refl _) (Nat.le_refl _) (by first | exact ⟨_, _, _, rn, rs, (((EqO.rf.st (by decide)).st (by decide)).st (by decide)), (at_eq (at_eq (at_eq e25))), (at_ne (by decide) (at_ne (by decide) (at_ne (by decide) e27))), (at_ne (by decide) (at_ne (by decide) (at_ne (by decide) e28))), lrn, lrs, Or.inr ⟨wsN hl (by omega), rfl⟩⟩ | exact ⟨_, _, _, rn, rs, (((EqO.rf.st (by decide)).st (by decide)).st (by decide)), (at_eq (at_eq (at_eq e25))), (at_ne (by decide) (at_ne (by decide) (at_ne (by decide) e27))), (at_ne (by decide) (at_ne (by decide) (at_ne (by decide) e28))), lrn, lrs, Or.inl ⟨_, wsO hl (by omega) (by omega) (by omega), rfl, rfl, rfl, rfl, by unfold rnE; rw [if_neg hl], by unfold rsE; rw [if_neg hl]⟩⟩ | (exfalso; omega))
          · refine g_iload eX12_go_32 rfl ?_
            refine g_push eX12_go_33 ?_
            refine g_icmp_neN eX12_go_35 (by omega) (by omega) (fun c35 => ?_) (fun c35 => ?_)
            · refine g_push eX12_go_42 ?_
              refine g_aload eX12_go_43 rfl ?_
              refine g_get eX12_go_44 fX12_65_X12 e25 (by rfl) ?_
              refine g_push eX12_go_47 ?_
              refine g_icmp_neN eX12_go_48 (by omega) (by omega) (fun c48 => ?_) (fun c48 => ?_)
              · refine g_push eX12_go_55 ?_
                refine g_icmp_neN eX12_go_56 (by omega) (by omega) (fun c56 => ?_) (fun c56 => ?_)
                · refine g_push eX12_go_63 ?_
                  refine g_istore eX12_go_64 rfl ?_
                  refine g_aload eX12_go_65 rfl ?_
                  refine g_dup eX12_go_66 rfl ?_
                  refine g_get eX12_go_67 fX12_65_X12 e25 (by rfl) ?_
                  refine g_push eX12_go_70 ?_
                  refine g_iaddN eX12_go_71 ?_
                  refine g_putI eX12_go_72 fX12_65_X12 pX12_2 e25 (by exact Nat.le_of_ble_eq_true rfl) ?_
                  refine g_aload eX12_go_75 rfl ?_
                  refine g_push eX12_go_76 ?_
                  refine g_putI eX12_go_77 fX12_68_X12 pX12_3 (at_eq e25) (by exact Nat.le_of_ble_eq_true rfl) ?_
                  refine g_aload eX12_go_80 rfl ?_
                  refine g_push (v := -1) eX12_go_81 ?_
                  refine g_putI eX12_go_82 fX12_71_X12 pX12_4 (at_eq (at_eq e25)) (by exact Nat.le_of_ble_eq_true rfl) ?_
                  refine g_iload eX12_go_85 rfl ?_
                  exact g_ret (eX12_go_86 _ (by first | exact Or.inl rfl | exact Or.inr rfl)) (Nat.le_refl _) (Nat.le_refl _) (by first | exact ⟨_, _, _, rn, rs, (((EqO.rf.st (by decide)).st (by decide)).st (by decide)), (at_eq (at_eq (at_eq e25))), (at_ne (by decide) (at_ne (by decide) (at_ne (by decide) e27))), (at_ne (by decide) (at_ne (by decide) (at_ne (by decide) e28))), lrn, lrs, Or.inr ⟨wsN hl (by omega), rfl⟩⟩ | exact ⟨_, _, _, rn, rs, (((EqO.rf.st (by decide)).st (by decide)).st (by decide)), (at_eq (at_eq (at_eq e25))), (at_ne (by decide) (at_ne (by decide) (at_ne (by decide) e27))), (at_ne (by decide) (at_ne (by decide) (at_ne (by decide) e28))), lrn, lrs, Or.inl ⟨_, wsO hl (by omega) (by omega) (by omega), rfl, rfl, rfl, rfl, by unfold rnE; rw [if_neg hl], by unfold rsE; rw [if_neg hl]⟩⟩ | (exfalso; omega))
                · refine g_push eX12_go_59 ?_
                  refine g_goto eX12_go_60 ?_
                  refine g_istore eX12_go_64 rfl ?_
                  refine g_aload eX12_go_65 rfl ?_
                  refine g_dup eX12_go_66 rfl ?_
                  refine g_get eX12_go_67 fX12_65_X12 e25 (by rfl) ?_
                  refine g_push eX12_go_70 ?_
                  refine g_iaddN eX12_go_71 ?_
                  refine g_putI eX12_go_72 fX12_65_X12 pX12_2 e25 (by exact Nat.le_of_ble_eq_true rfl) ?_
                  refine g_aload eX12_go_75 rfl ?_
                  refine g_push eX12_go_76 ?_
                  refine g_putI eX12_go_77 fX12_68_X12 pX12_3 (at_eq e25) (by exact Nat.le_of_ble_eq_true rfl) ?_
                  refine g_aload eX12_go_80 rfl ?_
                  refine g_push (v := -1) eX12_go_81 ?_
                  refine g_putI eX12_go_82 fX12_71_X12 pX12_4 (at_eq (at_eq e25)) (by exact Nat.le_of_ble_eq_true rfl) ?_
                  refine g_iload eX12_go_85 rfl ?_
                  exact g_ret (eX12_go_86 _ (by first | exact Or.inl rfl | exact Or.inr rfl)) (Nat.le_refl _) (Nat.le_refl _) (by first | exact ⟨_, _, _, rn, rs, (((EqO.rf.st (by decide)).st (by decide)).st (by decide)), (at_eq (at_eq (at_eq e25))), (at_ne (by decide) (at_ne (by decide) (at_ne (by decide) e27))), (at_ne (by decide) (at_ne (by decide) (at_ne (by decide) e28))), lrn, lrs, Or.inr ⟨wsN hl (by omega), rfl⟩⟩ | exact ⟨_, _, _, rn, rs, (((EqO.rf.st (by decide)).st (by decide)).st (by decide)), (at_eq (at_eq (at_eq e25))), (at_ne (by decide) (at_ne (by decide) (at_ne (by decide) e27))), (at_ne (by decide) (at_ne (by decide) (at_ne (by decide) e28))), lrn, lrs, Or.inl ⟨_, wsO hl (by omega) (by omega) (by omega), rfl, rfl, rfl, rfl, by unfold rnE; rw [if_neg hl], by unfold rsE; rw [if_neg hl]⟩⟩ | (exfalso; omega))
              · refine g_push eX12_go_51 ?_
                refine g_goto eX12_go_52 ?_
                refine g_icmp_neN eX12_go_56 (by omega) (by omega) (fun c56 => ?_) (fun c56 => ?_)
                · refine g_push eX12_go_63 ?_
                  refine g_istore eX12_go_64 rfl ?_
                  refine g_aload eX12_go_65 rfl ?_
                  refine g_dup eX12_go_66 rfl ?_
                  refine g_get eX12_go_67 fX12_65_X12 e25 (by rfl) ?_
                  refine g_push eX12_go_70 ?_
                  refine g_iaddN eX12_go_71 ?_
                  refine g_putI eX12_go_72 fX12_65_X12 pX12_2 e25 (by exact Nat.le_of_ble_eq_true rfl) ?_
                  refine g_aload eX12_go_75 rfl ?_
                  refine g_push eX12_go_76 ?_
                  refine g_putI eX12_go_77 fX12_68_X12 pX12_3 (at_eq e25) (by exact Nat.le_of_ble_eq_true rfl) ?_
                  refine g_aload eX12_go_80 rfl ?_
                  refine g_push (v := -1) eX12_go_81 ?_
                  refine g_putI eX12_go_82 fX12_71_X12 pX12_4 (at_eq (at_eq e25)) (by exact Nat.le_of_ble_eq_true rfl) ?_
                  refine g_iload eX12_go_85 rfl ?_
                  exact g_ret (eX12_go_86 _ (by first | exact Or.inl rfl | exact Or.inr rfl)) (Nat.le_refl _) (Nat.le_refl _) (by first | exact ⟨_, _, _, rn, rs, (((EqO.rf.st (by decide)).st (by decide)).st (by decide)), (at_eq (at_eq (at_eq e25))), (at_ne (by decide) (at_ne (by decide) (at_ne (by decide) e27))), (at_ne (by decide) (at_ne (by decide) (at_ne (by decide) e28))), lrn, lrs, Or.inr ⟨wsN hl (by omega), rfl⟩⟩ | exact ⟨_, _, _, rn, rs, (((EqO.rf.st (by decide)).st (by decide)).st (by decide)), (at_eq (at_eq (at_eq e25))), (at_ne (by decide) (at_ne (by decide) (at_ne (by decide) e27))), (at_ne (by decide) (at_ne (by decide) (at_ne (by decide) e28))), lrn, lrs, Or.inl ⟨_, wsO hl (by omega) (by omega) (by omega), rfl, rfl, rfl, rfl, by unfold rnE; rw [if_neg hl], by unfold rsE; rw [if_neg hl]⟩⟩ | (exfalso; omega))
                · refine g_push eX12_go_59 ?_
                  refine g_goto eX12_go_60 ?_
                  refine g_istore eX12_go_64 rfl ?_
                  refine g_aload eX12_go_65 rfl ?_
                  refine g_dup eX12_go_66 rfl ?_
                  refine g_get eX12_go_67 fX12_65_X12 e25 (by rfl) ?_
                  refine g_push eX12_go_70 ?_
                  refine g_iaddN eX12_go_71 ?_
                  refine g_putI eX12_go_72 fX12_65_X12 pX12_2 e25 (by exact Nat.le_of_ble_eq_true rfl) ?_
                  refine g_aload eX12_go_75 rfl ?_
                  refine g_push eX12_go_76 ?_
                  refine g_putI eX12_go_77 fX12_68_X12 pX12_3 (at_eq e25) (by exact Nat.le_of_ble_eq_true rfl) ?_
                  refine g_aload eX12_go_80 rfl ?_
                  refine g_push (v := -1) eX12_go_81 ?_
                  refine g_putI eX12_go_82 fX12_71_X12 pX12_4 (at_eq (at_eq e25)) (by exact Nat.le_of_ble_eq_true rfl) ?_
                  refine g_iload eX12_go_85 rfl ?_
                  exact g_ret (eX12_go_86 _ (by first | exact Or.inl rfl | exact Or.inr rfl)) (Nat.le_refl _) (Nat.le_refl _) (by first | exact ⟨_, _, _, rn, rs, (((EqO.rf.st (by decide)).st (by decide)).st (by decide)), (at_eq (at_eq (at_eq e25))), (at_ne (by decide) (at_ne (by decide) (at_ne (by decide) e27))), (at_ne (by decide) (at_ne (by decide) (at_ne (by decide) e28))), lrn, lrs, Or.inr ⟨wsN hl (by omega), rfl⟩⟩ | exact ⟨_, _, _, rn, rs, (((EqO.rf.st (by decide)).st (by decide)).st (by decide)), (at_eq (at_eq (at_eq e25))), (at_ne (by decide) (at_ne (by decide) (at_ne (by decide) e27))), (at_ne (by decide) (at_ne (by decide) (at_ne (by decide) e28))), lrn, lrs, Or.inl ⟨_, wsO hl (by omega) (by omega) (by omega), rfl, rfl, rfl, rfl, by unfold rnE; rw [if_neg hl], by unfold rsE; rw [if_neg hl]⟩⟩ | (exfalso; omega))
            · refine g_push eX12_go_38 ?_
              refine g_goto eX12_go_39 ?_
              refine g_aload eX12_go_43 rfl ?_
              refine g_get eX12_go_44 fX12_65_X12 e25 (by rfl) ?_
              refine g_push eX12_go_47 ?_
              refine g_icmp_neN eX12_go_48 (by omega) (by omega) (fun c48 => ?_) (fun c48 => ?_)
              · refine g_push eX12_go_55 ?_
                refine g_icmp_neN eX12_go_56 (by omega) (by omega) (fun c56 => ?_) (fun c56 => ?_)
                · refine g_push eX12_go_63 ?_
                  refine g_istore eX12_go_64 rfl ?_
                  refine g_aload eX12_go_65 rfl ?_
                  refine g_dup eX12_go_66 rfl ?_
                  refine g_get eX12_go_67 fX12_65_X12 e25 (by rfl) ?_
                  refine g_push eX12_go_70 ?_
                  refine g_iaddN eX12_go_71 ?_
                  refine g_putI eX12_go_72 fX12_65_X12 pX12_2 e25 (by exact Nat.le_of_ble_eq_true rfl) ?_
                  refine g_aload eX12_go_75 rfl ?_
                  refine g_push eX12_go_76 ?_
                  refine g_putI eX12_go_77 fX12_68_X12 pX12_3 (at_eq e25) (by exact Nat.le_of_ble_eq_true rfl) ?_
                  refine g_aload eX12_go_80 rfl ?_
                  refine g_push (v := -1) eX12_go_81 ?_
                  refine g_putI eX12_go_82 fX12_71_X12 pX12_4 (at_eq (at_eq e25)) (by exact Nat.le_of_ble_eq_true rfl) ?_
                  refine g_iload eX12_go_85 rfl ?_
                  exact g_ret (eX12_go_86 _ (by first | exact Or.inl rfl | exact Or.inr rfl)) (Nat.le_refl _) (Nat.le_refl _) (by first | exact ⟨_, _, _, rn, rs, (((EqO.rf.st (by decide)).st (by decide)).st (by decide)), (at_eq (at_eq (at_eq e25))), (at_ne (by decide) (at_ne (by decide) (at_ne (by decide) e27))), (at_ne (by decide) (at_ne (by decide) (at_ne (by decide) e28))), lrn, lrs, Or.inr ⟨wsN hl (by omega), rfl⟩⟩ | exact ⟨_, _, _, rn, rs, (((EqO.rf.st (by decide)).st (by decide)).st (by decide)), (at_eq (at_eq (at_eq e25))), (at_ne (by decide) (at_ne (by decide) (at_ne (by decide) e27))), (at_ne (by decide) (at_ne (by decide) (at_ne (by decide) e28))), lrn, lrs, Or.inl ⟨_, wsO hl (by omega) (by omega) (by omega), rfl, rfl, rfl, rfl, by unfold rnE; rw [if_neg hl], by unfold rsE; rw [if_neg hl]⟩⟩ | (exfalso; omega))
                · refine g_push eX12_go_59 ?_
                  refine g_goto eX12_go_60 ?_
                  refine g_istore eX12_go_64 rfl ?_
                  refine g_aload eX12_go_65 rfl ?_
                  refine g_dup eX12_go_66 rfl ?_
                  refine g_get eX12_go_67 fX12_65_X12 e25 (by rfl) ?_
                  refine g_push eX12_go_70 ?_
                  refine g_iaddN eX12_go_71 ?_
                  refine g_putI eX12_go_72 fX12_65_X12 pX12_2 e25 (by exact Nat.le_of_ble_eq_true rfl) ?_
                  refine g_aload eX12_go_75 rfl ?_
                  refine g_push eX12_go_76 ?_
                  refine g_putI eX12_go_77 fX12_68_X12 pX12_3 (at_eq e25) (by exact Nat.le_of_ble_eq_true rfl) ?_
                  refine g_aload eX12_go_80 rfl ?_
                  refine g_push (v := -1) eX12_go_81 ?_
                  refine g_putI eX12_go_82 fX12_71_X12 pX12_4 (at_eq (at_eq e25)) (by exact Nat.le_of_ble_eq_true rfl) ?_
                  refine g_iload eX12_go_85 rfl ?_
                  exact g_ret (eX12_go_86 _ (by first | exact Or.inl rfl | exact Or.inr rfl)) (Nat.le_refl _) (Nat.le_refl _) (by first | exact ⟨_, _, _, rn, rs, (((EqO.rf.st (by decide)).st (by decide)).st (by decide)), (at_eq (at_eq (at_eq e25))), (at_ne (by decide) (at_ne (by decide) (at_ne (by decide) e27))), (at_ne (by decide) (at_ne (by decide) (at_ne (by decide) e28))), lrn, lrs, Or.inr ⟨wsN hl (by omega), rfl⟩⟩ | exact ⟨_, _, _, rn, rs, (((EqO.rf.st (by decide)).st (by decide)).st (by decide)), (at_eq (at_eq (at_eq e25))), (at_ne (by decide) (at_ne (by decide) (at_ne (by decide) e27))), (at_ne (by decide) (at_ne (by decide) (at_ne (by decide) e28))), lrn, lrs, Or.inl ⟨_, wsO hl (by omega) (by omega) (by omega), rfl, rfl, rfl, rfl, by unfold rnE; rw [if_neg hl], by unfold rsE; rw [if_neg hl]⟩⟩ | (exfalso; omega))
              · refine g_push eX12_go_51 ?_
                refine g_goto eX12_go_52 ?_
                refine g_icmp_neN eX12_go_56 (by omega) (by omega) (fun c56 => ?_) (fun c56 => ?_)
                · refine g_push eX12_go_63 ?_
                  refine g_istore eX12_go_64 rfl ?_
                  refine g_aload eX12_go_65 rfl ?_
                  refine g_dup eX12_go_66 rfl ?_
                  refine g_get eX12_go_67 fX12_65_X12 e25 (by rfl) ?_
                  refine g_push eX12_go_70 ?_
                  refine g_iaddN eX12_go_71 ?_
                  refine g_putI eX12_go_72 fX12_65_X12 pX12_2 e25 (by exact Nat.le_of_ble_eq_true rfl) ?_
                  refine g_aload eX12_go_75 rfl ?_
                  refine g_push eX12_go_76 ?_
                  refine g_putI eX12_go_77 fX12_68_X12 pX12_3 (at_eq e25) (by exact Nat.le_of_ble_eq_true rfl) ?_
                  refine g_aload eX12_go_80 rfl ?_
                  refine g_push (v := -1) eX12_go_81 ?_
                  refine g_putI eX12_go_82 fX12_71_X12 pX12_4 (at_eq (at_eq e25)) (by exact Nat.le_of_ble_eq_true rfl) ?_
                  refine g_iload eX12_go_85 rfl ?_
                  exact g_ret (eX12_go_86 _ (by first | exact Or.inl rfl | exact Or.inr rfl)) (Nat.le_refl _) (Nat.le_refl _) (by first | exact ⟨_, _, _, rn, rs, (((EqO.rf.st (by decide)).st (by decide)).st (by decide)), (at_eq (at_eq (at_eq e25))), (at_ne (by decide) (at_ne (by decide) (at_ne (by decide) e27))), (at_ne (by decide) (at_ne (by decide) (at_ne (by decide) e28))), lrn, lrs, Or.inr ⟨wsN hl (by omega), rfl⟩⟩ | exact ⟨_, _, _, rn, rs, (((EqO.rf.st (by decide)).st (by decide)).st (by decide)), (at_eq (at_eq (at_eq e25))), (at_ne (by decide) (at_ne (by decide) (at_ne (by decide) e27))), (at_ne (by decide) (at_ne (by decide) (at_ne (by decide) e28))), lrn, lrs, Or.inl ⟨_, wsO hl (by omega) (by omega) (by omega), rfl, rfl, rfl, rfl, by unfold rnE; rw [if_neg hl], by unfold rsE; rw [if_neg hl]⟩⟩ | (exfalso; omega))
                · refine g_push eX12_go_59 ?_
                  refine g_goto eX12_go_60 ?_
                  refine g_istore eX12_go_64 rfl ?_
                  refine g_aload eX12_go_65 rfl ?_
                  refine g_dup eX12_go_66 rfl ?_
                  refine g_get eX12_go_67 fX12_65_X12 e25 (by rfl) ?_
                  refine g_push eX12_go_70 ?_
                  refine g_iaddN eX12_go_71 ?_
                  refine g_putI eX12_go_72 fX12_65_X12 pX12_2 e25 (by exact Nat.le_of_ble_eq_true rfl) ?_
                  refine g_aload eX12_go_75 rfl ?_
                  refine g_push eX12_go_76 ?_
                  refine g_putI eX12_go_77 fX12_68_X12 pX12_3 (at_eq e25) (by exact Nat.le_of_ble_eq_true rfl) ?_
                  refine g_aload eX12_go_80 rfl ?_
                  refine g_push (v := -1) eX12_go_81 ?_
                  refine g_putI eX12_go_82 fX12_71_X12 pX12_4 (at_eq (at_eq e25)) (by exact Nat.le_of_ble_eq_true rfl) ?_
                  refine g_iload eX12_go_85 rfl ?_
                  exact g_ret (eX12_go_86 _ (by first | exact Or.inl rfl | exact Or.inr rfl)) (Nat.le_refl _) (Nat.le_refl _) (by first | exact ⟨_, _, _, rn, rs, (((EqO.rf.st (by decide)).st (by decide)).st (by decide)), (at_eq (at_eq (at_eq e25))), (at_ne (by decide) (at_ne (by decide) (at_ne (by decide) e27))), (at_ne (by decide) (at_ne (by decide) (at_ne (by decide) e28))), lrn, lrs, Or.inr ⟨wsN hl (by omega), rfl⟩⟩ | exact ⟨_, _, _, rn, rs, (((EqO.rf.st (by decide)).st (by decide)).st (by decide)), (at_eq (at_eq (at_eq e25))), (at_ne (by decide) (at_ne (by decide) (at_ne (by decide) e27))), (at_ne (by decide) (at_ne (by decide) (at_ne (by decide) e28))), lrn, lrs, Or.inl ⟨_, wsO hl (by omega) (by omega) (by omega), rfl, rfl, rfl, rfl, by unfold rnE; rw [if_neg hl], by unfold rsE; rw [if_neg hl]⟩⟩ | (exfalso; omega))
