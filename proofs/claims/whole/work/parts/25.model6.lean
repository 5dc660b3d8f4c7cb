/-! the reference: what is heard; about -/
theorem pk8_mod {s : List Nat} (hs : ∀ k, s.getD k 0 < 8) (j : Nat) : pk8 (s.drop j) % 8 = s.getD j 0 ∧ pk8 (s.drop j) / 8 = pk8 (s.drop (j + 1)) := by
  by_cases h : j < s.length
  · have h8 := hs j
    have e : s.getD j 0 = s[j] := by
      rw [List.getD_eq_getElem?_getD, List.getElem?_eq_getElem h]
      rfl
    rw [List.drop_eq_getElem_cons h]
    show (8 * pk8 (s.drop (j + 1)) + s[j]) % 8 = _ ∧ (8 * pk8 (s.drop (j + 1)) + s[j]) / 8 = _
    rw [e] at h8 ⊢
    omega
  · rw [List.drop_eq_nil_of_le (by omega), List.drop_eq_nil_of_le (by omega), List.getD_eq_getElem?_getD, List.getElem?_eq_none (by omega)]
    exact ⟨rfl, rfl⟩
theorem pk8_lt : ∀ {s : List Nat}, (∀ k, s.getD k 0 < 8) → pk8 s < 8 ^ s.length
  | [], _ => by decide
  | x :: l, h => by
    have h1 := pk8_lt (s := l) (fun k => by have := h (k + 1); simpa using this)
    have h2 : x < 8 := h 0
    show 8 * pk8 l + x < 8 ^ (l.length + 1)
    rw [Nat.pow_succ]
    omega
theorem pk8_b {s : List Nat} (hs : ∀ k, s.getD k 0 < 8) (hl : s.length ≤ 10) (j : Nat) : pk8 (s.drop j) < 2147483648 := by
  have h1 := pk8_lt (s := s.drop j) (fun k => by
    rw [List.getD_eq_getElem?_getD, List.getElem?_drop, ← List.getD_eq_getElem?_getD]
    exact hs _)
  have h2 : 8 ^ (s.drop j).length ≤ 8 ^ 10 := Nat.pow_le_pow_right (by decide) (by rw [List.length_drop]; omega)
  have h3 : (8 : Nat) ^ 10 < 2147483648 := by decide
  omega
theorem eqb1 {x b : Bool} (h1 : b.toNat = 1) (h2 : x.toNat = 1) : (x == b) = true := by cases x <;> cases b <;> simp_all
theorem eqb2 {x b : Bool} (h1 : b.toNat = 1) (h2 : ¬ x.toNat = 1) : (x == b) = false := by cases x <;> cases b <;> simp_all
theorem eqb3 {x b : Bool} (h1 : ¬ b.toNat = 1) (h2 : x.toNat = 0) : (x == b) = true := by cases x <;> cases b <;> simp_all
theorem eqb4 {x b : Bool} (h1 : ¬ b.toNat = 1) (h2 : ¬ x.toNat = 0) : (x == b) = false := by cases x <;> cases b <;> simp_all
set_option maxRecDepth 20000 in
theorem c_isHeard {σ : aH} {pn lm wd ch ct ac br hm : Nat} {x2 x3 x4 sd kc kl ka kg kd : Int32} {ha : Int64} (e25 : σ[25]? = some (mob pn x2 x3 x4 lm wd ch ct ac br hm sd kc kl ka kg kd ha)) {nr hs th : List Nat} {h : Hd} {i kind d : Nat} (e29 : σ[29]? = some (aA nr)) (lnr : nr.length = 5) (e34 : σ[34]? = some (aA hs)) (lhs : hs.length = 40) (e35 : σ[35]? = some (aA th)) (lth : th.length = 10) (hi : i + 4 < 40) (v1 : hs.getD (i + 1) 0 = h.2.1) (v2 : hs.getD (i + 2) 0 = h.2.2.1.toNat) (v3 : hs.getD (i + 3) 0 = h.2.2.2.1) (v4 : hs.getD (i + 4) 0 = pk8 h.2.2.2.2) (hkd : kind ≤ 4) (hd : d < 5) (hb : nr.getD d 0 < 256) (g1 : h.2.1 < h.2.2.2.2.length) (g2 : h.2.2.2.2.length ≤ 10) (g3 : h.2.2.2.1 < 256) (g4 : ∀ k, h.2.2.2.2.getD k 0 < 8) : MX12_isHeard 2 0 0 [.ref 25, .int (nI i), .int (nI kind), .int (nI d)] σ (fun v σ' => v = some (.int (nI (altA kind (nr.getD d 0) h.2.2.2.1 (shW h.2.2.2.2) h.2.1 == h.2.2.1).toNat)) ∧ ∃ th', th'.length = 10 ∧ σ' = σ.set 35 (aA th')) := by
  refine sX12_isHeard (Nat.le_of_ble_eq_true rfl) ?_
  have key : ∀ e j th', j + e = 10 → th'.length = 10 → (∀ k, k < j → th'.getD k 0 = h.2.2.2.2.getD k 0) → GX12_isHeard 2 0 0 (fun v σ' => v = some (.int (nI (altA kind (nr.getD d 0) h.2.2.2.1 (shW h.2.2.2.2) h.2.1 == h.2.2.1).toNat)) ∧ ∃ th', th'.length = 10 ∧ σ' = σ.set 35 (aA th')) 0 0 13 [some (.ref 25), some (.int (nI i)), some (.int (nI kind)), some (.int (nI d)), some (.int (nI (pk8 (h.2.2.2.2.drop j)))), some (.int (nI j))] [] (σ.set 35 (aA th')) := by
    intro e
    induction e with
    | zero =>
      intro j th' hj hl ht
      obtain rfl : j = 10 := by omega
      have hx : altA kind (nr.getD d 0) h.2.2.2.1 (shW th') h.2.1 = altA kind (nr.getD d 0) h.2.2.2.1 (shW h.2.2.2.2) h.2.1 := altA_congr (fun k hk => ht k (by omega))
      have b2 := Bool.toNat_le h.2.2.1
      refine g_iload eX12_isHeard_13 rfl ?_
      refine g_push eX12_isHeard_15 ?_
      refine g_icmp_geN eX12_isHeard_17 (by omega) (by omega) (fun c17 => ?_) (fun c17 => by exfalso; omega)
      refine g_aload eX12_isHeard_45 rfl ?_
      refine g_iload eX12_isHeard_46 rfl ?_
      refine g_iload eX12_isHeard_47 rfl ?_
      refine g_aload eX12_isHeard_48 rfl ?_
      refine g_get eX12_isHeard_49 fX12_34_X12 (at_ne (by decide) e25) (by rfl) ?_
      refine g_iload eX12_isHeard_52 rfl ?_
      refine g_push eX12_isHeard_53 ?_
      refine g_iaddN eX12_isHeard_54 ?_
      refine g_ialdN eX12_isHeard_55 (at_ne (by decide) e34) (by omega) (by omega) ?_
      rw [v3]
      refine g_aload eX12_isHeard_56 rfl ?_
      refine g_get eX12_isHeard_57 fX12_37_X12 (at_ne (by decide) e25) (by rfl) ?_
      refine g_aload eX12_isHeard_60 rfl ?_
      refine g_get eX12_isHeard_61 fX12_34_X12 (at_ne (by decide) e25) (by rfl) ?_
      refine g_iload eX12_isHeard_64 rfl ?_
      refine g_push eX12_isHeard_65 ?_
      refine g_iaddN eX12_isHeard_66 ?_
      refine g_ialdN eX12_isHeard_67 (at_ne (by decide) e34) (by omega) (by omega) ?_
      rw [v1]
      refine g_callVp (r := (RX12, TX12, 32)) eX12_isHeard_68 kX12_125 (at_ne (by decide) e25) (by rfl) (c_alters (hides := h.2.2.2.1) (k := h.2.1) (at_ne (by decide) e25) (at_ne (by decide) e29) lnr (at_eq e35) (by omega) hkd hd hb (by omega) (by omega) (fun k hk => by rw [ht k (by omega)]; exact g4 k)) (by rfl) (by rfl) (by exact Nat.le_of_ble_eq_true rfl) (by exact Nat.le_of_ble_eq_true rfl) (by exact Nat.le_of_ble_eq_true rfl) (Nat.le_refl _) (Nat.le_refl _) ?_
      rw [hx]
      refine g_aload eX12_isHeard_71 rfl ?_
      refine g_get eX12_isHeard_72 fX12_34_X12 (at_ne (by decide) e25) (by rfl) ?_
      refine g_iload eX12_isHeard_75 rfl ?_
      refine g_push eX12_isHeard_76 ?_
      refine g_iaddN eX12_isHeard_77 ?_
      refine g_ialdN eX12_isHeard_78 (at_ne (by decide) e34) (by omega) (by omega) ?_
      rw [v2]
      refine g_push eX12_isHeard_79 ?_
      refine g_icmp_neN eX12_isHeard_80 (bt_lt _) (by omega) (fun c80 => ?_) (fun c80 => ?_)
      · refine g_push eX12_isHeard_87 ?_
        refine g_icmp_neN eX12_isHeard_88 (bt_lt _) (by omega) (fun c88 => ?_) (fun c88 => ?_)
        · refine g_push eX12_isHeard_95 ?_
          exact g_ret (eX12_isHeard_96 _ (by first | exact Or.inl rfl | exact Or.inr rfl)) (Nat.le_refl _) (Nat.le_refl _) ⟨by first | (rw [eqb1 c80 c88]; rfl) | (rw [eqb2 c80 c88]; rfl) | (rw [eqb3 c80 c88]; rfl) | (rw [eqb4 c80 c88]; rfl), th', hl, rfl⟩
        · refine g_push eX12_isHeard_91 ?_
          refine g_goto eX12_isHeard_92 ?_
          exact g_ret (eX12_isHeard_96 _ (by first | exact Or.inl rfl | exact Or.inr rfl)) (Nat.le_refl _) (Nat.le_refl _) ⟨by first | (rw [eqb1 c80 c88]; rfl) | (rw [eqb2 c80 c88]; rfl) | (rw [eqb3 c80 c88]; rfl) | (rw [eqb4 c80 c88]; rfl), th', hl, rfl⟩
      · refine g_push eX12_isHeard_83 ?_
        refine g_goto eX12_isHeard_84 ?_
        refine g_icmp_neN eX12_isHeard_88 (bt_lt _) (by omega) (fun c88 => ?_) (fun c88 => ?_)
        · refine g_push eX12_isHeard_95 ?_
          exact g_ret (eX12_isHeard_96 _ (by first | exact Or.inl rfl | exact Or.inr rfl)) (Nat.le_refl _) (Nat.le_refl _) ⟨by first | (rw [eqb1 c80 c88]; rfl) | (rw [eqb2 c80 c88]; rfl) | (rw [eqb3 c80 c88]; rfl) | (rw [eqb4 c80 c88]; rfl), th', hl, rfl⟩
        · refine g_push eX12_isHeard_91 ?_
          refine g_goto eX12_isHeard_92 ?_
          exact g_ret (eX12_isHeard_96 _ (by first | exact Or.inl rfl | exact Or.inr rfl)) (Nat.le_refl _) (Nat.le_refl _) ⟨by first | (rw [eqb1 c80 c88]; rfl) | (rw [eqb2 c80 c88]; rfl) | (rw [eqb3 c80 c88]; rfl) | (rw [eqb4 c80 c88]; rfl), th', hl, rfl⟩
    | succ e ih =>
      intro j th' hj hl ht
      have hm := pk8_mod g4 j
      have hbd := pk8_b g4 g2 j
      refine g_iload eX12_isHeard_13 rfl ?_
      refine g_push eX12_isHeard_15 ?_
      refine g_icmp_geN eX12_isHeard_17 (by omega) (by omega) (fun c17 => by exfalso; omega) (fun c17 => ?_)
      refine g_aload eX12_isHeard_20 rfl ?_
      refine g_get eX12_isHeard_21 fX12_37_X12 (at_ne (by decide) e25) (by rfl) ?_
      refine g_iload eX12_isHeard_24 rfl ?_
      refine g_iload eX12_isHeard_26 rfl ?_
      refine g_push eX12_isHeard_28 ?_
      refine g_iremN eX12_isHeard_30 (by omega) (by omega) (by omega) ?_
      refine g_iastN eX12_isHeard_31 (at_eq e35) (by omega) (by omega) ?_
      refine g_iload eX12_isHeard_32 rfl ?_
      refine g_push eX12_isHeard_34 ?_
      refine g_idivN eX12_isHeard_36 (by omega) (by omega) (by omega) ?_
      refine g_istore eX12_isHeard_37 rfl ?_
      refine g_iincN eX12_isHeard_39 rfl rfl ?_
      refine g_goto eX12_isHeard_42 ?_
      rw [hm.1, hm.2, List.set_set]
      refine ih (j + 1) _ (by omega) (by rw [List.length_set]; exact hl) (fun k hk => ?_)
      rw [getD_set]
      by_cases hjk : j = k
      · rw [if_pos ⟨hjk, by omega⟩, hjk]
      · rw [if_neg (fun z => hjk z.1)]
        exact ht k (by omega)
  have hs0 : σ.set 35 (aA th) = σ := set_same e35
  refine g_aload eX12_isHeard_0 rfl ?_
  refine g_get eX12_isHeard_1 fX12_34_X12 e25 (by rfl) ?_
  refine g_iload eX12_isHeard_4 rfl ?_
  refine g_push eX12_isHeard_5 ?_
  refine g_iaddN eX12_isHeard_6 ?_
  refine g_ialdN eX12_isHeard_7 e34 (by omega) (by omega) ?_
  rw [v4]
  refine g_istore eX12_isHeard_8 rfl ?_
  refine g_push eX12_isHeard_10 ?_
  refine g_istore eX12_isHeard_11 rfl ?_
  have := key 10 0 th rfl lth (fun k hk => absurd hk (Nat.not_lt_zero k))
  rw [hs0] at this
  exact this
set_option maxRecDepth 20000 in
theorem c_whichOf {σ : aH} {t : St} (hI : IM t σ) (hwf : WF t) {a : Nat} (hia : a < (mnO (crO t)).length) : MX12_whichOf 3 0 0 [.ref 25, .int (nI a)] σ (fun v σ' => v = some (.int (nI (lefM t a))) ∧ EqO [35] σ σ' ∧ ∃ th', th'.length = 10 ∧ σ'[35]? = some (aA th')) := by
  refine sX12_whichOf (Nat.le_of_ble_eq_true rfl) ?_
  have hI' := hI
  have hwf' := hwf
  have hSs := hwf.hS
  obtain ⟨pg, rn, rs, nr, sh, rw, ro, he, hs, th, dr, ks, kr, kh, x2, x3, x4, sd, kc, kl, ka, kg, kd, ha, e25, e26, e27, e28, e29, e30, e31, e32, e33, e34, e35, e36, e37, e38, e39, lpg, lrn, lrs, lnr, lro, lhe, lth, ldr, lks, lkr, lkh, hpg, hnr, ⟨lsh, lrw, lhs, hsh, hrw, hhs⟩, hk0, hk1⟩ := hI
  obtain ⟨w1, w2, w3, w4, w5, ⟨w6, w7, w8, w9, w10, w11, w12⟩, w13, w14, w15, w16, w17⟩ := hwf
  have hr := (hrw a hia).1
  have hm := (w10 a).1
  have outer : ∀ e d τ th' o4 o5, d + e = 5 → EqO [35] σ τ → τ[35]? = some (aA th') → th'.length = 10 → GX12_whichOf 3 0 0 (fun v σ' => v = some (.int (nI (lefM t a))) ∧ EqO [35] σ σ' ∧ ∃ th', th'.length = 10 ∧ σ'[35]? = some (aA th')) 0 0 4 [some (.ref 25), some (.int (nI a)), some (.int (nI (msk (lefB t a) d))), some (.int (nI d)), o4, o5] [] τ := by
    intro e
    induction e with
    | zero =>
      intro d τ th' o4 o5 hd hE q35 hl
      obtain rfl : d = 5 := by omega
      refine g_iload eX12_whichOf_4 rfl ?_
      refine g_push eX12_whichOf_5 ?_
      refine g_icmp_geN eX12_whichOf_6 (by omega) (by omega) (fun c6 => ?_) (fun c6 => by exfalso; omega)
      refine g_iload eX12_whichOf_94 rfl ?_
      exact g_ret (eX12_whichOf_95 _) (Nat.le_refl _) (Nat.le_refl _) ⟨rfl, hE, th', hl, q35⟩
    | succ e ih =>
      intro d τ th' o4 o5 hd hE q35 hl
      have hb : nr.getD d 0 < 256 := by rw [hnr _ (by omega)]; exact w4 _
      have inner : ∀ e2 i τ th', i + e2 = (hdO (crO t)).length → EqO [35] σ τ → τ[35]? = some (aA th') → th'.length = 10 → GX12_whichOf 3 0 0 (fun v σ' => v = some (.int (nI (lefM t a))) ∧ EqO [35] σ σ' ∧ ∃ th', th'.length = 10 ∧ σ'[35]? = some (aA th')) 0 0 15 [some (.ref 25), some (.int (nI a)), some (.int (nI (msk (lefB t a) d))), some (.int (nI d)), some (.int (nI (leftB (shW (nrO t)) (manO (crO t) a).1 (hdF (crO t)) a i d).toNat)), some (.int (nI (5 * i)))] [] τ := by
        intro e2
        induction e2 with
        | zero =>
          intro i τ th' hi hE q35 hl
          obtain rfl : i = (hdO (crO t)).length := by omega
          have hfd : lefB t a d = leftB (shW (nrO t)) (manO (crO t) a).1 (hdF (crO t)) a (hdO (crO t)).length d := rfl
          have q25 := hE.at (by decide) e25
          refine g_iload eX12_whichOf_15 rfl ?_
          refine g_push eX12_whichOf_17 ?_
          refine g_aload eX12_whichOf_18 rfl ?_
          refine g_get eX12_whichOf_19 fX12_100_X12 q25 (by rfl) ?_
          refine g_imulN eX12_whichOf_22 ?_
          refine g_icmp_geN eX12_whichOf_23 (by omega) (by omega) (fun c23 => ?_) (fun c23 => by exfalso; omega)
          refine g_iload eX12_whichOf_73 rfl ?_
          refine g_iload eX12_whichOf_74 rfl ?_
          refine g_if_eqN eX12_whichOf_76 (bt_lt _) (fun c76 => ?_) (fun c76 => ?_)
          · refine g_push eX12_whichOf_85 ?_
            refine g_iorN eX12_whichOf_86 ?_
            refine g_istore eX12_whichOf_87 rfl ?_
            refine g_iincN eX12_whichOf_88 rfl rfl ?_
            refine g_goto eX12_whichOf_91 ?_
            first
              | (rw [msk_t (hfd.trans (b_n0 c76))]; exact ih (d + 1) _ th' _ _ (by omega) hE q35 hl)
              | (rw [msk_f (hfd.trans (b_0 c76))]; exact ih (d + 1) _ th' _ _ (by omega) hE q35 hl)
          · refine g_push eX12_whichOf_79 ?_
            refine g_iload eX12_whichOf_80 rfl ?_
            refine g_ishlN eX12_whichOf_81 (by omega) (one_shl _ (by omega)) ?_
            refine g_goto eX12_whichOf_82 ?_
            refine g_iorN eX12_whichOf_86 ?_
            refine g_istore eX12_whichOf_87 rfl ?_
            refine g_iincN eX12_whichOf_88 rfl rfl ?_
            refine g_goto eX12_whichOf_91 ?_
            first
              | (rw [msk_t (hfd.trans (b_n0 c76))]; exact ih (d + 1) _ th' _ _ (by omega) hE q35 hl)
              | (rw [msk_f (hfd.trans (b_0 c76))]; exact ih (d + 1) _ th' _ _ (by omega) hE q35 hl)
        | succ e2 ih2 =>
          intro i τ th' hi hE q35 hl
          have q25 := hE.at (by decide) e25
          have q29 := hE.at (by decide) e29
          have q31 := hE.at (by decide) e31
          have q34 := hE.at (by decide) e34
          have hv : hs.getD (5 * i) 0 = (hdF (crO t) i).1 ∧ hs.getD (5 * i + 1) 0 = (hdF (crO t) i).2.1 ∧ hs.getD (5 * i + 2) 0 = (hdF (crO t) i).2.2.1.toNat ∧ hs.getD (5 * i + 3) 0 = (hdF (crO t) i).2.2.2.1 ∧ hs.getD (5 * i + 4) 0 = pk8 (hdF (crO t) i).2.2.2.2 := hhs i (by omega)
          obtain ⟨v0, v1, v2, v3, v4⟩ := hv
          obtain ⟨g0, g1, g2, g3, g4⟩ := w12 (hdF (crO t) i) (getD_mem (d := h0) (by omega))
          have hnx : leftB (shW (nrO t)) (manO (crO t) a).1 (hdF (crO t)) a (i + 1) d = (leftB (shW (nrO t)) (manO (crO t) a).1 (hdF (crO t)) a i d && (!decide ((hdF (crO t) i).1 = a) || fitB (shW (nrO t)) (manO (crO t) a).1 (hdF (crO t) i) d)) := rfl
          have hft : fitB (shW (nrO t)) (manO (crO t) a).1 (hdF (crO t) i) d = (altA (manO (crO t) a).1 (nr.getD d 0) (hdF (crO t) i).2.2.2.1 (shW (hdF (crO t) i).2.2.2.2) (hdF (crO t) i).2.1 == (hdF (crO t) i).2.2.1) := by
            rw [hnr d (by omega)]
            rfl
          refine g_iload eX12_whichOf_15 rfl ?_
          refine g_push eX12_whichOf_17 ?_
          refine g_aload eX12_whichOf_18 rfl ?_
          refine g_get eX12_whichOf_19 fX12_100_X12 q25 (by rfl) ?_
          refine g_imulN eX12_whichOf_22 ?_
          refine g_icmp_geN eX12_whichOf_23 (by omega) (by omega) (fun c23 => by exfalso; omega) (fun c23 => ?_)
          refine g_iload eX12_whichOf_26 rfl ?_
          refine g_if_eqN eX12_whichOf_28 (bt_lt _) (fun c28 => ?_) (fun c28 => ?_)
          · refine g_push eX12_whichOf_64 ?_
            refine g_istore eX12_whichOf_65 rfl ?_
            refine g_iincN eX12_whichOf_67 rfl rfl ?_
            refine g_goto eX12_whichOf_70 ?_
            first
              | (have := ih2 (i + 1) _ th2 (by omega) (hE.st (by decide)) (at_eq q35) hl2
                 rw [hnx, b_n0 c28, decide_eq_true c39, b_n0 c57] at this
                 exact this)
              | (have := ih2 (i + 1) _ th2 (by omega) (hE.st (by decide)) (at_eq q35) hl2
                 rw [hnx, b_n0 c28, decide_eq_true c39, b_0 c57] at this
                 exact this)
              | (have := ih2 (i + 1) τ th' (by omega) hE q35 hl
                 rw [hnx, b_n0 c28, decide_eq_false c39] at this
                 exact this)
              | (have := ih2 (i + 1) τ th' (by omega) hE q35 hl
                 rw [hnx, b_0 c28] at this
                 exact this)
          · refine g_aload eX12_whichOf_31 rfl ?_
            refine g_get eX12_whichOf_32 fX12_34_X12 q25 (by rfl) ?_
            refine g_iload eX12_whichOf_35 rfl ?_
            refine g_ialdN eX12_whichOf_37 q34 (by omega) (by omega) ?_
            rw [v0]
            refine g_iload eX12_whichOf_38 rfl ?_
            refine g_icmp_neN eX12_whichOf_39 (by omega) (by omega) (fun c39 => ?_) (fun c39 => ?_)
            · refine g_push eX12_whichOf_60 ?_
              refine g_goto eX12_whichOf_61 ?_
              refine g_istore eX12_whichOf_65 rfl ?_
              refine g_iincN eX12_whichOf_67 rfl rfl ?_
              refine g_goto eX12_whichOf_70 ?_
              first
                | (have := ih2 (i + 1) _ th2 (by omega) (hE.st (by decide)) (at_eq q35) hl2
                   rw [hnx, b_n0 c28, decide_eq_true c39, b_n0 c57] at this
                   exact this)
                | (have := ih2 (i + 1) _ th2 (by omega) (hE.st (by decide)) (at_eq q35) hl2
                   rw [hnx, b_n0 c28, decide_eq_true c39, b_0 c57] at this
                   exact this)
                | (have := ih2 (i + 1) τ th' (by omega) hE q35 hl
                   rw [hnx, b_n0 c28, decide_eq_false c39] at this
                   exact this)
                | (have := ih2 (i + 1) τ th' (by omega) hE q35 hl
                   rw [hnx, b_0 c28] at this
                   exact this)
            · refine g_aload eX12_whichOf_42 rfl ?_
              refine g_iload eX12_whichOf_43 rfl ?_
              refine g_aload eX12_whichOf_45 rfl ?_
              refine g_get eX12_whichOf_46 fX12_25_X12 q25 (by rfl) ?_
              refine g_push eX12_whichOf_49 ?_
              refine g_iload eX12_whichOf_50 rfl ?_
              refine g_imulN eX12_whichOf_51 ?_
              refine g_ialdN eX12_whichOf_52 q31 (by omega) (by omega) ?_
              rw [hr]
              refine g_iload eX12_whichOf_53 rfl ?_
              refine g_callV0 (r := (RX12, TX12, 32)) eX12_whichOf_54 kX12_173 q25 (by rfl) (c_isHeard (h := hdF (crO t) i) (i := 5 * i) (kind := (manO (crO t) a).1) (d := d) q25 q29 lnr q34 lhs q35 hl (by omega) v1 v2 v3 v4 hm (by omega) hb g1 g2 g3 g4) (by rfl) (by rfl) (by exact Nat.le_of_ble_eq_true rfl) (by exact Nat.le_of_ble_eq_true rfl) (by exact Nat.le_of_ble_eq_true rfl) (Nat.le_refl _) (Nat.le_refl _) (fun v54 σ54 hp54 hn54 => ?_)
              obtain ⟨rfl, th2, hl2, rfl⟩ := hp54
              rw [← hft]
              refine g_if_eqN eX12_whichOf_57 (bt_lt _) (fun c57 => ?_) (fun c57 => ?_)
              · refine g_push eX12_whichOf_64 ?_
                refine g_istore eX12_whichOf_65 rfl ?_
                refine g_iincN eX12_whichOf_67 rfl rfl ?_
                refine g_goto eX12_whichOf_70 ?_
                first
                  | (have := ih2 (i + 1) _ th2 (by omega) (hE.st (by decide)) (at_eq q35) hl2
                     rw [hnx, b_n0 c28, decide_eq_true c39, b_n0 c57] at this
                     exact this)
                  | (have := ih2 (i + 1) _ th2 (by omega) (hE.st (by decide)) (at_eq q35) hl2
                     rw [hnx, b_n0 c28, decide_eq_true c39, b_0 c57] at this
                     exact this)
                  | (have := ih2 (i + 1) τ th' (by omega) hE q35 hl
                     rw [hnx, b_n0 c28, decide_eq_false c39] at this
                     exact this)
                  | (have := ih2 (i + 1) τ th' (by omega) hE q35 hl
                     rw [hnx, b_0 c28] at this
                     exact this)
              · refine g_push eX12_whichOf_60 ?_
                refine g_goto eX12_whichOf_61 ?_
                refine g_istore eX12_whichOf_65 rfl ?_
                refine g_iincN eX12_whichOf_67 rfl rfl ?_
                refine g_goto eX12_whichOf_70 ?_
                first
                  | (have := ih2 (i + 1) _ th2 (by omega) (hE.st (by decide)) (at_eq q35) hl2
                     rw [hnx, b_n0 c28, decide_eq_true c39, b_n0 c57] at this
                     exact this)
                  | (have := ih2 (i + 1) _ th2 (by omega) (hE.st (by decide)) (at_eq q35) hl2
                     rw [hnx, b_n0 c28, decide_eq_true c39, b_0 c57] at this
                     exact this)
                  | (have := ih2 (i + 1) τ th' (by omega) hE q35 hl
                     rw [hnx, b_n0 c28, decide_eq_false c39] at this
                     exact this)
                  | (have := ih2 (i + 1) τ th' (by omega) hE q35 hl
                     rw [hnx, b_0 c28] at this
                     exact this)
      refine g_iload eX12_whichOf_4 rfl ?_
      refine g_push eX12_whichOf_5 ?_
      refine g_icmp_geN eX12_whichOf_6 (by omega) (by omega) (fun c6 => by exfalso; omega) (fun c6 => ?_)
      refine g_push eX12_whichOf_9 ?_
      refine g_istore eX12_whichOf_10 rfl ?_
      refine g_push eX12_whichOf_12 ?_
      refine g_istore eX12_whichOf_13 rfl ?_
      exact inner (hdO (crO t)).length 0 τ th' (by omega) hE q35 hl
  refine g_push eX12_whichOf_0 ?_
  refine g_istore eX12_whichOf_1 rfl ?_
  refine g_push eX12_whichOf_2 ?_
  refine g_istore eX12_whichOf_3 rfl ?_
  exact outer 5 0 σ th _ _ rfl EqO.rf e35 lth
