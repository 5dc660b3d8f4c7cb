/-! the reference: hear, image, restore -/
theorem lwI_d (j : Nat) : nI j + -1 = lwI j := by
  unfold lwI
  rw [Int32.sub_eq_add_neg]
  rfl
theorem lwI_0 : lwI 0 < 0 := by decide
theorem pk8_step {s : List Nat} {j : Nat} (h : j < s.length) : pk8 (s.drop j) = 8 * pk8 (s.drop (j + 1)) + s.getD j 0 := by
  rw [List.drop_eq_getElem_cons h, List.getD_eq_getElem?_getD, List.getElem?_eq_getElem h]
  rfl
theorem pk8_end {s : List Nat} : pk8 (s.drop s.length) = 0 := by
  rw [List.drop_length]
  rfl
/-- what is written down of one heard word -/
abbrev hsW (hs : List Nat) (n a k b l v : Nat) : List Nat := ((((hs.set (5 * n) a).set (5 * n + 1) k).set (5 * n + 2) b).set (5 * n + 3) l).set (5 * n + 4) v
theorem hsW_lo {hs : List Nat} {n a k b l v j : Nat} (h : j < 5 * n) : (hsW hs n a k b l v).getD j 0 = hs.getD j 0 := by
  rw [getD_set, getD_set, getD_set, getD_set, getD_set, if_neg (by omega), if_neg (by omega), if_neg (by omega), if_neg (by omega), if_neg (by omega)]
theorem hsW_n {hs : List Nat} {n a k b l v : Nat} (h : 5 * n + 4 < hs.length) : (hsW hs n a k b l v).getD (5 * n) 0 = a ∧ (hsW hs n a k b l v).getD (5 * n + 1) 0 = k ∧ (hsW hs n a k b l v).getD (5 * n + 2) 0 = b ∧ (hsW hs n a k b l v).getD (5 * n + 3) 0 = l ∧ (hsW hs n a k b l v).getD (5 * n + 4) 0 = v := by
  refine ⟨?_, ?_, ?_, ?_, ?_⟩
  · rw [getD_set, getD_set, getD_set, getD_set, getD_set, if_neg (by omega), if_neg (by omega), if_neg (by omega), if_neg (by omega), if_pos ⟨rfl, by omega⟩]
  · rw [getD_set, getD_set, getD_set, getD_set, if_neg (by omega), if_neg (by omega), if_neg (by omega), if_pos ⟨rfl, by simp only [List.length_set]; omega⟩]
  · rw [getD_set, getD_set, getD_set, if_neg (by omega), if_neg (by omega), if_pos ⟨rfl, by simp only [List.length_set]; omega⟩]
  · rw [getD_set, getD_set, if_neg (by omega), if_pos ⟨rfl, by simp only [List.length_set]; omega⟩]
  · rw [getD_set, if_pos ⟨rfl, by simp only [List.length_set]; omega⟩]
set_option maxRecDepth 20000 in
theorem m_hear {σ : aH} {t : St} (hI : IM t σ) (hwf : WF t) {x y : Int32} {b : Bool} : MX12_hear 2 0 0 [.ref 25, .int x, .int y, .int (nI b.toNat)] σ (fun v σ' => v = some (.int (oHear t x y b).1) ∧ IM (oHear t x y b).2 σ' ∧ FrM σ σ') := by
  refine sX12_hear (Nat.le_of_ble_eq_true rfl) ?_
  have hI' := hI
  have hwf' := hwf
  have hSs := hwf.hS
  obtain ⟨pg, rn, rs, nr, sh, rw, ro, he, hs, th, dr, ks, kr, kh, x2, x3, x4, sd, kc, kl, ka, kg, kd, ha, e25, e26, e27, e28, e29, e30, e31, e32, e33, e34, e35, e36, e37, e38, e39, lpg, lrn, lrs, lnr, lro, lhe, lth, ldr, lks, lkr, lkh, hpg, hnr, ⟨lsh, lrw, lhs, hsh, hrw, hhs⟩, hk0, hk1⟩ := hI
  obtain ⟨w1, w2, w3, w4, w5, ⟨w6, w7, w8, w9, w10, w11, w12⟩, w13, w14, w15, w16, w17⟩ := hwf
  unfold oHear
  cases e : rg x 0 (mnO (crO t)).length with
  | none =>
    dsimp only
    refine g_aload eX12_hear_0 rfl ?_
    refine g_iload eX12_hear_1 rfl ?_
    refine g_callVp (r := (RX12, TX12, 32)) eX12_hear_2 kX12_149 e25 (by rfl) (c_isAccN e25 (by omega) e) (by rfl) (by rfl) (by exact Nat.le_of_ble_eq_true rfl) (by exact Nat.le_of_ble_eq_true rfl) (by exact Nat.le_of_ble_eq_true rfl) (Nat.le_refl _) (Nat.le_refl _) ?_
    refine g_if_eqN eX12_hear_5 (by omega) (fun c5 => ?_) (fun c5 => absurd rfl c5)
    refine g_push eX12_hear_16 ?_
    exact g_ret (eX12_hear_18 _) (Nat.le_refl _) (Nat.le_refl _) ⟨rfl, hI', EqO.rf⟩
  | some a =>
    dsimp only
    have e' := e
    obtain ⟨rfl, -, ha⟩ := rg_some e (by omega)
    have hr := (hrw a ha).2.2
    cases f : rg y 0 (shO (crO t)).length with
    | none =>
      dsimp only
      refine g_aload eX12_hear_0 rfl ?_
      refine g_iload eX12_hear_1 rfl ?_
      refine g_callVp (r := (RX12, TX12, 32)) eX12_hear_2 kX12_149 e25 (by rfl) (c_isAccT e25 (by omega) e') (by rfl) (by rfl) (by exact Nat.le_of_ble_eq_true rfl) (by exact Nat.le_of_ble_eq_true rfl) (by exact Nat.le_of_ble_eq_true rfl) (Nat.le_refl _) (Nat.le_refl _) ?_
      refine g_if_eqN eX12_hear_5 (by omega) (fun c5 => absurd c5 (by decide)) (fun c5 => ?_)
      refine g_aload eX12_hear_8 rfl ?_
      refine g_iload eX12_hear_9 rfl ?_
      refine g_callVp (r := (RX12, TX12, 32)) eX12_hear_10 kX12_112 e25 (by rfl) (c_isPlaceN e25 w6 f) (by rfl) (by rfl) (by exact Nat.le_of_ble_eq_true rfl) (by exact Nat.le_of_ble_eq_true rfl) (by exact Nat.le_of_ble_eq_true rfl) (Nat.le_refl _) (Nat.le_refl _) ?_
      refine g_if_neN eX12_hear_13 (by omega) (fun c13 => absurd rfl c13) (fun c13 => ?_)
      refine g_push eX12_hear_16 ?_
      exact g_ret (eX12_hear_18 _) (Nat.le_refl _) (Nat.le_refl _) ⟨rfl, hI', EqO.rf⟩
    | some k =>
      dsimp only
      have f' := f
      obtain ⟨rfl, -, hk⟩ := rg_some f (by omega)
      by_cases h8 : (hdO (crO t)).length < 8
      · rw [if_pos h8]
        cases b
        · have key : ∀ j, j ≤ (shO (crO t)).length → GX12_hear 2 0 0 (fun v σ' => v = some (.int (nI ((hdO (crO t)).length + 1), wcr t (shO (crO t), lmO (crO t), mnO (crO t), chO (crO t), hdO (crO t) ++ [(a, k, false, (manO (crO t) a).2.2, shO (crO t))])).1) ∧ IM (nI ((hdO (crO t)).length + 1), wcr t (shO (crO t), lmO (crO t), mnO (crO t), chO (crO t), hdO (crO t) ++ [(a, k, false, (manO (crO t) a).2.2, shO (crO t))])).2 σ' ∧ FrM σ σ') 0 0 112 [some (.ref 25), some (.int (nI a)), some (.int (nI k)), some (.int (nI 0)), some (.int (nI (5 * (hdO (crO t)).length))), some (.int (lwI j))] [] (σ.set 34 (aA (hsW hs (hdO (crO t)).length a k 0 (manO (crO t) a).2.2 (pk8 ((shO (crO t)).drop j))))) := by
            intro j
            induction j with
            | zero =>
              intro _
              have hll : (hdO (crO t) ++ [(a, k, false, (manO (crO t) a).2.2, shO (crO t))]).length = (hdO (crO t)).length + 1 := by simp
              refine g_iload eX12_hear_112 rfl ?_
              refine g_if_lt eX12_hear_114 (fun c114 => ?_) (fun c114 => absurd lwI_0 c114)
              refine g_aload eX12_hear_152 rfl ?_
              refine g_dup eX12_hear_153 rfl ?_
              refine g_get eX12_hear_154 fX12_100_X12 (at_ne (by decide) e25) (by rfl) ?_
              refine g_push eX12_hear_157 ?_
              refine g_iaddN eX12_hear_158 ?_
              refine g_putI eX12_hear_159 fX12_100_X12 pX12_18 (at_ne (by decide) e25) (by exact Nat.le_of_ble_eq_true rfl) ?_
              refine g_aload eX12_hear_162 rfl ?_
              refine g_get eX12_hear_163 fX12_100_X12 (at_eq (at_ne (by decide) e25)) (by rfl) ?_
              exact g_ret (eX12_hear_166 _) (Nat.le_refl _) (Nat.le_refl _) (by
                refine ⟨rfl, ⟨_, _, _, _, _, _, _, _, _, _, _, _, _, _, _, _, _, _, _, _, _, _, _, _, (by show _ = some (mob _ _ _ _ _ _ _ _ _ _ (hdO (crO t) ++ [(a, k, false, (manO (crO t) a).2.2, shO (crO t))]).length _ _ _ _ _ _ _); rw [hll]; exact (at_eq (at_ne (by decide) e25))), (at_ne (by decide) (at_ne (by decide) e26)), (at_ne (by decide) (at_ne (by decide) e27)), (at_ne (by decide) (at_ne (by decide) e28)), (at_ne (by decide) (at_ne (by decide) e29)), (at_ne (by decide) (at_ne (by decide) e30)), (at_ne (by decide) (at_ne (by decide) e31)), (at_ne (by decide) (at_ne (by decide) e32)), (at_ne (by decide) (at_ne (by decide) e33)), (at_ne (by decide) (at_eq e34)), (at_ne (by decide) (at_ne (by decide) e35)), (at_ne (by decide) (at_ne (by decide) e36)), (at_ne (by decide) (at_ne (by decide) e37)), (at_ne (by decide) (at_ne (by decide) e38)), (at_ne (by decide) (at_ne (by decide) e39)), lpg, lrn, lrs, lnr, lro, lhe, lth, ldr, lks, lkr, lkh, hpg, hnr, ⟨lsh, lrw, by simp only [List.length_set]; exact lhs, hsh, hrw, fun i hi => ?_⟩, hk0, hk1⟩, ((EqO.rf.st (by decide)).st (by decide))⟩
                have hi2 : i < (hdO (crO t)).length + 1 := hll ▸ hi
                show _ = ((hdO (crO t) ++ [(a, k, false, (manO (crO t) a).2.2, shO (crO t))]).getD i h0).1 ∧ _ = ((hdO (crO t) ++ [(a, k, false, (manO (crO t) a).2.2, shO (crO t))]).getD i h0).2.1 ∧ _ = ((hdO (crO t) ++ [(a, k, false, (manO (crO t) a).2.2, shO (crO t))]).getD i h0).2.2.1.toNat ∧ _ = ((hdO (crO t) ++ [(a, k, false, (manO (crO t) a).2.2, shO (crO t))]).getD i h0).2.2.2.1 ∧ _ = pk8 ((hdO (crO t) ++ [(a, k, false, (manO (crO t) a).2.2, shO (crO t))]).getD i h0).2.2.2.2
                rw [getD_app]
                by_cases h : i < (hdO (crO t)).length
                · rw [if_pos h, hsW_lo (by omega), hsW_lo (by omega), hsW_lo (by omega), hsW_lo (by omega), hsW_lo (by omega)]
                  exact hhs i h
                · obtain rfl : i = (hdO (crO t)).length := by omega
                  rw [if_neg h, if_pos rfl]
                  exact hsW_n (by omega))
            | succ j ih =>
              intro hj
              have hst := pk8_step (s := shO (crO t)) (j := j) (by omega)
              have hg : (hsW hs (hdO (crO t)).length a k 0 (manO (crO t) a).2.2 (pk8 ((shO (crO t)).drop (j + 1)))).getD (5 * (hdO (crO t)).length + 4) 0 = pk8 ((shO (crO t)).drop (j + 1)) := (hsW_n (by omega)).2.2.2.2
              rw [← lwI_s]
              refine g_iload eX12_hear_112 rfl ?_
              refine g_if_ltN eX12_hear_114 (by omega) ?_
              refine g_aload eX12_hear_117 rfl ?_
              refine g_get eX12_hear_118 fX12_34_X12 (at_ne (by decide) e25) (by rfl) ?_
              refine g_iload eX12_hear_121 rfl ?_
              refine g_push eX12_hear_123 ?_
              refine g_iaddN eX12_hear_124 ?_
              refine g_push eX12_hear_125 ?_
              refine g_aload eX12_hear_127 rfl ?_
              refine g_get eX12_hear_128 fX12_34_X12 (at_ne (by decide) e25) (by rfl) ?_
              refine g_iload eX12_hear_131 rfl ?_
              refine g_push eX12_hear_133 ?_
              refine g_iaddN eX12_hear_134 ?_
              refine g_ialdN eX12_hear_135 (at_eq e34) (by simp only [List.length_set]; omega) (by simp only [List.length_set]; omega) ?_
              rw [hg]
              refine g_imulN eX12_hear_136 ?_
              refine g_aload eX12_hear_137 rfl ?_
              refine g_get eX12_hear_138 fX12_22_X12 (at_ne (by decide) e25) (by rfl) ?_
              refine g_iload eX12_hear_141 rfl ?_
              refine g_ialdN eX12_hear_143 (at_ne (by decide) e30) (by omega) (by omega) ?_
              rw [hsh j (by omega)]
              refine g_iaddN eX12_hear_144 ?_
              refine g_iastN eX12_hear_145 (at_eq e34) (by simp only [List.length_set]; omega) (by simp only [List.length_set]; omega) ?_
              rw [List.set_set, List.set_set]
              refine g_iinc eX12_hear_146 rfl rfl ?_
              rw [lwI_d]
              refine g_goto eX12_hear_149 ?_
              have := ih (by omega)
              rw [hst] at this
              exact this
          
          refine g_aload eX12_hear_0 rfl ?_
          refine g_iload eX12_hear_1 rfl ?_
          refine g_callVp (r := (RX12, TX12, 32)) eX12_hear_2 kX12_149 e25 (by rfl) (c_isAccT e25 (by omega) e') (by rfl) (by rfl) (by exact Nat.le_of_ble_eq_true rfl) (by exact Nat.le_of_ble_eq_true rfl) (by exact Nat.le_of_ble_eq_true rfl) (Nat.le_refl _) (Nat.le_refl _) ?_
          refine g_if_eqN eX12_hear_5 (by omega) (fun c5 => absurd c5 (by decide)) (fun c5 => ?_)
          refine g_aload eX12_hear_8 rfl ?_
          refine g_iload eX12_hear_9 rfl ?_
          refine g_callVp (r := (RX12, TX12, 32)) eX12_hear_10 kX12_112 e25 (by rfl) (c_isPlaceT e25 w6 f') (by rfl) (by rfl) (by exact Nat.le_of_ble_eq_true rfl) (by exact Nat.le_of_ble_eq_true rfl) (by exact Nat.le_of_ble_eq_true rfl) (Nat.le_refl _) (Nat.le_refl _) ?_
          refine g_if_neN eX12_hear_13 (by omega) (fun c13 => ?_) (fun c13 => absurd c13 (by decide))
          refine g_aload eX12_hear_19 rfl ?_
          refine g_get eX12_hear_20 fX12_100_X12 e25 (by rfl) ?_
          refine g_push eX12_hear_23 ?_
          refine g_icmp_neN eX12_hear_25 (by omega) (by omega) (fun c25 => ?_) (fun c25 => by exfalso; omega)
          refine g_push eX12_hear_31 ?_
          refine g_aload eX12_hear_32 rfl ?_
          refine g_get eX12_hear_33 fX12_100_X12 e25 (by rfl) ?_
          refine g_imulN eX12_hear_36 ?_
          refine g_istore eX12_hear_37 rfl ?_
          refine g_aload eX12_hear_39 rfl ?_
          refine g_get eX12_hear_40 fX12_34_X12 e25 (by rfl) ?_
          refine g_iload eX12_hear_43 rfl ?_
          refine g_iload eX12_hear_45 rfl ?_
          refine g_iastN eX12_hear_46 e34 (by omega) (by omega) ?_
          refine g_aload eX12_hear_47 rfl ?_
          refine g_get eX12_hear_48 fX12_34_X12 (at_ne (by decide) e25) (by rfl) ?_
          refine g_iload eX12_hear_51 rfl ?_
          refine g_push eX12_hear_53 ?_
          refine g_iaddN eX12_hear_54 ?_
          refine g_iload eX12_hear_55 rfl ?_
          refine g_iastN eX12_hear_56 (at_eq e34) (by simp only [List.length_set]; omega) (by simp only [List.length_set]; omega) ?_
          rw [List.set_set]
          refine g_aload eX12_hear_57 rfl ?_
          refine g_get eX12_hear_58 fX12_34_X12 (at_ne (by decide) e25) (by rfl) ?_
          refine g_iload eX12_hear_61 rfl ?_
          refine g_push eX12_hear_63 ?_
          refine g_iaddN eX12_hear_64 ?_
          refine g_iload eX12_hear_65 rfl ?_
          refine g_if_eqN eX12_hear_66 (bt_lt _) (fun c66 => ?_) (fun c66 => absurd rfl c66)
          refine g_push eX12_hear_73 ?_
          refine g_iastN eX12_hear_74 (at_eq e34) (by simp only [List.length_set]; omega) (by simp only [List.length_set]; omega) ?_
          rw [List.set_set]
          refine g_aload eX12_hear_75 rfl ?_
          refine g_get eX12_hear_76 fX12_34_X12 (at_ne (by decide) e25) (by rfl) ?_
          refine g_iload eX12_hear_79 rfl ?_
          refine g_push eX12_hear_81 ?_
          refine g_iaddN eX12_hear_82 ?_
          refine g_aload eX12_hear_83 rfl ?_
          refine g_get eX12_hear_84 fX12_25_X12 (at_ne (by decide) e25) (by rfl) ?_
          refine g_push eX12_hear_87 ?_
          refine g_iload eX12_hear_88 rfl ?_
          refine g_imulN eX12_hear_89 ?_
          refine g_push eX12_hear_90 ?_
          refine g_iaddN eX12_hear_91 ?_
          refine g_ialdN eX12_hear_92 (at_ne (by decide) e31) (by omega) (by omega) ?_
          rw [hr]
          refine g_iastN eX12_hear_93 (at_eq e34) (by simp only [List.length_set]; omega) (by simp only [List.length_set]; omega) ?_
          rw [List.set_set]
          refine g_aload eX12_hear_94 rfl ?_
          refine g_get eX12_hear_95 fX12_34_X12 (at_ne (by decide) e25) (by rfl) ?_
          refine g_iload eX12_hear_98 rfl ?_
          refine g_push eX12_hear_100 ?_
          refine g_iaddN eX12_hear_101 ?_
          refine g_push eX12_hear_102 ?_
          refine g_iastN eX12_hear_103 (at_eq e34) (by simp only [List.length_set]; omega) (by simp only [List.length_set]; omega) ?_
          rw [List.set_set]
          refine g_aload eX12_hear_104 rfl ?_
          refine g_get eX12_hear_105 fX12_84_X12 (at_ne (by decide) e25) (by rfl) ?_
          refine g_push eX12_hear_108 ?_
          refine g_isub eX12_hear_109 ?_
          refine g_istore eX12_hear_110 rfl ?_
          have := key (shO (crO t)).length (Nat.le_refl _)
          rw [pk8_end] at this
          exact this
        · have key : ∀ j, j ≤ (shO (crO t)).length → GX12_hear 2 0 0 (fun v σ' => v = some (.int (nI ((hdO (crO t)).length + 1), wcr t (shO (crO t), lmO (crO t), mnO (crO t), chO (crO t), hdO (crO t) ++ [(a, k, true, (manO (crO t) a).2.2, shO (crO t))])).1) ∧ IM (nI ((hdO (crO t)).length + 1), wcr t (shO (crO t), lmO (crO t), mnO (crO t), chO (crO t), hdO (crO t) ++ [(a, k, true, (manO (crO t) a).2.2, shO (crO t))])).2 σ' ∧ FrM σ σ') 0 0 112 [some (.ref 25), some (.int (nI a)), some (.int (nI k)), some (.int (nI 1)), some (.int (nI (5 * (hdO (crO t)).length))), some (.int (lwI j))] [] (σ.set 34 (aA (hsW hs (hdO (crO t)).length a k 1 (manO (crO t) a).2.2 (pk8 ((shO (crO t)).drop j))))) := by
            intro j
            induction j with
            | zero =>
              intro _
              have hll : (hdO (crO t) ++ [(a, k, true, (manO (crO t) a).2.2, shO (crO t))]).length = (hdO (crO t)).length + 1 := by simp
              refine g_iload eX12_hear_112 rfl ?_
              refine g_if_lt eX12_hear_114 (fun c114 => ?_) (fun c114 => absurd lwI_0 c114)
              refine g_aload eX12_hear_152 rfl ?_
              refine g_dup eX12_hear_153 rfl ?_
              refine g_get eX12_hear_154 fX12_100_X12 (at_ne (by decide) e25) (by rfl) ?_
              refine g_push eX12_hear_157 ?_
              refine g_iaddN eX12_hear_158 ?_
              refine g_putI eX12_hear_159 fX12_100_X12 pX12_18 (at_ne (by decide) e25) (by exact Nat.le_of_ble_eq_true rfl) ?_
              refine g_aload eX12_hear_162 rfl ?_
              refine g_get eX12_hear_163 fX12_100_X12 (at_eq (at_ne (by decide) e25)) (by rfl) ?_
              exact g_ret (eX12_hear_166 _) (Nat.le_refl _) (Nat.le_refl _) (by
                refine ⟨rfl, ⟨_, _, _, _, _, _, _, _, _, _, _, _, _, _, _, _, _, _, _, _, _, _, _, _, (by show _ = some (mob _ _ _ _ _ _ _ _ _ _ (hdO (crO t) ++ [(a, k, true, (manO (crO t) a).2.2, shO (crO t))]).length _ _ _ _ _ _ _); rw [hll]; exact (at_eq (at_ne (by decide) e25))), (at_ne (by decide) (at_ne (by decide) e26)), (at_ne (by decide) (at_ne (by decide) e27)), (at_ne (by decide) (at_ne (by decide) e28)), (at_ne (by decide) (at_ne (by decide) e29)), (at_ne (by decide) (at_ne (by decide) e30)), (at_ne (by decide) (at_ne (by decide) e31)), (at_ne (by decide) (at_ne (by decide) e32)), (at_ne (by decide) (at_ne (by decide) e33)), (at_ne (by decide) (at_eq e34)), (at_ne (by decide) (at_ne (by decide) e35)), (at_ne (by decide) (at_ne (by decide) e36)), (at_ne (by decide) (at_ne (by decide) e37)), (at_ne (by decide) (at_ne (by decide) e38)), (at_ne (by decide) (at_ne (by decide) e39)), lpg, lrn, lrs, lnr, lro, lhe, lth, ldr, lks, lkr, lkh, hpg, hnr, ⟨lsh, lrw, by simp only [List.length_set]; exact lhs, hsh, hrw, fun i hi => ?_⟩, hk0, hk1⟩, ((EqO.rf.st (by decide)).st (by decide))⟩
                have hi2 : i < (hdO (crO t)).length + 1 := hll ▸ hi
                show _ = ((hdO (crO t) ++ [(a, k, true, (manO (crO t) a).2.2, shO (crO t))]).getD i h0).1 ∧ _ = ((hdO (crO t) ++ [(a, k, true, (manO (crO t) a).2.2, shO (crO t))]).getD i h0).2.1 ∧ _ = ((hdO (crO t) ++ [(a, k, true, (manO (crO t) a).2.2, shO (crO t))]).getD i h0).2.2.1.toNat ∧ _ = ((hdO (crO t) ++ [(a, k, true, (manO (crO t) a).2.2, shO (crO t))]).getD i h0).2.2.2.1 ∧ _ = pk8 ((hdO (crO t) ++ [(a, k, true, (manO (crO t) a).2.2, shO (crO t))]).getD i h0).2.2.2.2
                rw [getD_app]
                by_cases h : i < (hdO (crO t)).length
                · rw [if_pos h, hsW_lo (by omega), hsW_lo (by omega), hsW_lo (by omega), hsW_lo (by omega), hsW_lo (by omega)]
                  exact hhs i h
                · obtain rfl : i = (hdO (crO t)).length := by omega
                  rw [if_neg h, if_pos rfl]
                  exact hsW_n (by omega))
            | succ j ih =>
              intro hj
              have hst := pk8_step (s := shO (crO t)) (j := j) (by omega)
              have hg : (hsW hs (hdO (crO t)).length a k 1 (manO (crO t) a).2.2 (pk8 ((shO (crO t)).drop (j + 1)))).getD (5 * (hdO (crO t)).length + 4) 0 = pk8 ((shO (crO t)).drop (j + 1)) := (hsW_n (by omega)).2.2.2.2
              rw [← lwI_s]
              refine g_iload eX12_hear_112 rfl ?_
              refine g_if_ltN eX12_hear_114 (by omega) ?_
              refine g_aload eX12_hear_117 rfl ?_
              refine g_get eX12_hear_118 fX12_34_X12 (at_ne (by decide) e25) (by rfl) ?_
              refine g_iload eX12_hear_121 rfl ?_
              refine g_push eX12_hear_123 ?_
              refine g_iaddN eX12_hear_124 ?_
              refine g_push eX12_hear_125 ?_
              refine g_aload eX12_hear_127 rfl ?_
              refine g_get eX12_hear_128 fX12_34_X12 (at_ne (by decide) e25) (by rfl) ?_
              refine g_iload eX12_hear_131 rfl ?_
              refine g_push eX12_hear_133 ?_
              refine g_iaddN eX12_hear_134 ?_
              refine g_ialdN eX12_hear_135 (at_eq e34) (by simp only [List.length_set]; omega) (by simp only [List.length_set]; omega) ?_
              rw [hg]
              refine g_imulN eX12_hear_136 ?_
              refine g_aload eX12_hear_137 rfl ?_
              refine g_get eX12_hear_138 fX12_22_X12 (at_ne (by decide) e25) (by rfl) ?_
              refine g_iload eX12_hear_141 rfl ?_
              refine g_ialdN eX12_hear_143 (at_ne (by decide) e30) (by omega) (by omega) ?_
              rw [hsh j (by omega)]
              refine g_iaddN eX12_hear_144 ?_
              refine g_iastN eX12_hear_145 (at_eq e34) (by simp only [List.length_set]; omega) (by simp only [List.length_set]; omega) ?_
              rw [List.set_set, List.set_set]
              refine g_iinc eX12_hear_146 rfl rfl ?_
              rw [lwI_d]
              refine g_goto eX12_hear_149 ?_
              have := ih (by omega)
              rw [hst] at this
              exact this
          
          refine g_aload eX12_hear_0 rfl ?_
          refine g_iload eX12_hear_1 rfl ?_
          refine g_callVp (r := (RX12, TX12, 32)) eX12_hear_2 kX12_149 e25 (by rfl) (c_isAccT e25 (by omega) e') (by rfl) (by rfl) (by exact Nat.le_of_ble_eq_true rfl) (by exact Nat.le_of_ble_eq_true rfl) (by exact Nat.le_of_ble_eq_true rfl) (Nat.le_refl _) (Nat.le_refl _) ?_
          refine g_if_eqN eX12_hear_5 (by omega) (fun c5 => absurd c5 (by decide)) (fun c5 => ?_)
          refine g_aload eX12_hear_8 rfl ?_
          refine g_iload eX12_hear_9 rfl ?_
          refine g_callVp (r := (RX12, TX12, 32)) eX12_hear_10 kX12_112 e25 (by rfl) (c_isPlaceT e25 w6 f') (by rfl) (by rfl) (by exact Nat.le_of_ble_eq_true rfl) (by exact Nat.le_of_ble_eq_true rfl) (by exact Nat.le_of_ble_eq_true rfl) (Nat.le_refl _) (Nat.le_refl _) ?_
          refine g_if_neN eX12_hear_13 (by omega) (fun c13 => ?_) (fun c13 => absurd c13 (by decide))
          refine g_aload eX12_hear_19 rfl ?_
          refine g_get eX12_hear_20 fX12_100_X12 e25 (by rfl) ?_
          refine g_push eX12_hear_23 ?_
          refine g_icmp_neN eX12_hear_25 (by omega) (by omega) (fun c25 => ?_) (fun c25 => by exfalso; omega)
          refine g_push eX12_hear_31 ?_
          refine g_aload eX12_hear_32 rfl ?_
          refine g_get eX12_hear_33 fX12_100_X12 e25 (by rfl) ?_
          refine g_imulN eX12_hear_36 ?_
          refine g_istore eX12_hear_37 rfl ?_
          refine g_aload eX12_hear_39 rfl ?_
          refine g_get eX12_hear_40 fX12_34_X12 e25 (by rfl) ?_
          refine g_iload eX12_hear_43 rfl ?_
          refine g_iload eX12_hear_45 rfl ?_
          refine g_iastN eX12_hear_46 e34 (by omega) (by omega) ?_
          refine g_aload eX12_hear_47 rfl ?_
          refine g_get eX12_hear_48 fX12_34_X12 (at_ne (by decide) e25) (by rfl) ?_
          refine g_iload eX12_hear_51 rfl ?_
          refine g_push eX12_hear_53 ?_
          refine g_iaddN eX12_hear_54 ?_
          refine g_iload eX12_hear_55 rfl ?_
          refine g_iastN eX12_hear_56 (at_eq e34) (by simp only [List.length_set]; omega) (by simp only [List.length_set]; omega) ?_
          rw [List.set_set]
          refine g_aload eX12_hear_57 rfl ?_
          refine g_get eX12_hear_58 fX12_34_X12 (at_ne (by decide) e25) (by rfl) ?_
          refine g_iload eX12_hear_61 rfl ?_
          refine g_push eX12_hear_63 ?_
          refine g_iaddN eX12_hear_64 ?_
          refine g_iload eX12_hear_65 rfl ?_
          refine g_if_eqN eX12_hear_66 (bt_lt _) (fun c66 => absurd c66 (by decide)) (fun c66 => ?_)
          refine g_push eX12_hear_69 ?_
          refine g_goto eX12_hear_70 ?_
          refine g_iastN eX12_hear_74 (at_eq e34) (by simp only [List.length_set]; omega) (by simp only [List.length_set]; omega) ?_
          rw [List.set_set]
          refine g_aload eX12_hear_75 rfl ?_
          refine g_get eX12_hear_76 fX12_34_X12 (at_ne (by decide) e25) (by rfl) ?_
          refine g_iload eX12_hear_79 rfl ?_
          refine g_push eX12_hear_81 ?_
          refine g_iaddN eX12_hear_82 ?_
          refine g_aload eX12_hear_83 rfl ?_
          refine g_get eX12_hear_84 fX12_25_X12 (at_ne (by decide) e25) (by rfl) ?_
          refine g_push eX12_hear_87 ?_
          refine g_iload eX12_hear_88 rfl ?_
          refine g_imulN eX12_hear_89 ?_
          refine g_push eX12_hear_90 ?_
          refine g_iaddN eX12_hear_91 ?_
          refine g_ialdN eX12_hear_92 (at_ne (by decide) e31) (by omega) (by omega) ?_
          rw [hr]
          refine g_iastN eX12_hear_93 (at_eq e34) (by simp only [List.length_set]; omega) (by simp only [List.length_set]; omega) ?_
          rw [List.set_set]
          refine g_aload eX12_hear_94 rfl ?_
          refine g_get eX12_hear_95 fX12_34_X12 (at_ne (by decide) e25) (by rfl) ?_
          refine g_iload eX12_hear_98 rfl ?_
          refine g_push eX12_hear_100 ?_
          refine g_iaddN eX12_hear_101 ?_
          refine g_push eX12_hear_102 ?_
          refine g_iastN eX12_hear_103 (at_eq e34) (by simp only [List.length_set]; omega) (by simp only [List.length_set]; omega) ?_
          rw [List.set_set]
          refine g_aload eX12_hear_104 rfl ?_
          refine g_get eX12_hear_105 fX12_84_X12 (at_ne (by decide) e25) (by rfl) ?_
          refine g_push eX12_hear_108 ?_
          refine g_isub eX12_hear_109 ?_
          refine g_istore eX12_hear_110 rfl ?_
          have := key (shO (crO t)).length (Nat.le_refl _)
          rw [pk8_end] at this
          exact this
      · rw [if_neg h8]
        refine g_aload eX12_hear_0 rfl ?_
        refine g_iload eX12_hear_1 rfl ?_
        refine g_callVp (r := (RX12, TX12, 32)) eX12_hear_2 kX12_149 e25 (by rfl) (c_isAccT e25 (by omega) e') (by rfl) (by rfl) (by exact Nat.le_of_ble_eq_true rfl) (by exact Nat.le_of_ble_eq_true rfl) (by exact Nat.le_of_ble_eq_true rfl) (Nat.le_refl _) (Nat.le_refl _) ?_
        refine g_if_eqN eX12_hear_5 (by omega) (fun c5 => absurd c5 (by decide)) (fun c5 => ?_)
        refine g_aload eX12_hear_8 rfl ?_
        refine g_iload eX12_hear_9 rfl ?_
        refine g_callVp (r := (RX12, TX12, 32)) eX12_hear_10 kX12_112 e25 (by rfl) (c_isPlaceT e25 w6 f') (by rfl) (by rfl) (by exact Nat.le_of_ble_eq_true rfl) (by exact Nat.le_of_ble_eq_true rfl) (by exact Nat.le_of_ble_eq_true rfl) (Nat.le_refl _) (Nat.le_refl _) ?_
        refine g_if_neN eX12_hear_13 (by omega) (fun c13 => ?_) (fun c13 => absurd c13 (by decide))
        refine g_aload eX12_hear_19 rfl ?_
        refine g_get eX12_hear_20 fX12_100_X12 e25 (by rfl) ?_
        refine g_push eX12_hear_23 ?_
        refine g_icmp_neN eX12_hear_25 (by omega) (by omega) (fun c25 => by exfalso; omega) (fun c25 => ?_)
        refine g_push eX12_hear_28 ?_
        exact g_ret (eX12_hear_30 _) (Nat.le_refl _) (Nat.le_refl _) ⟨rfl, hI', EqO.rf⟩
set_option maxRecDepth 20000 in
theorem m_image {σ : aH} {t : St} (hI : IM t σ) (hwf : WF t)  : MX12_image 1 0 0 [.ref 25] σ (fun v σ' => v = some (.int (oImage t).1) ∧ IM (oImage t).2 σ' ∧ FrM σ σ') := by
  refine sX12_image (Nat.le_of_ble_eq_true rfl) ?_
  have hI' := hI
  have hwf' := hwf
  have hSs := hwf.hS
  obtain ⟨pg, rn, rs, nr, sh, rw, ro, he, hs, th, dr, ks, kr, kh, x2, x3, x4, sd, kc, kl, ka, kg, kd, ha, e25, e26, e27, e28, e29, e30, e31, e32, e33, e34, e35, e36, e37, e38, e39, lpg, lrn, lrs, lnr, lro, lhe, lth, ldr, lks, lkr, lkh, hpg, hnr, ⟨lsh, lrw, lhs, hsh, hrw, hhs⟩, hk0, hk1⟩ := hI
  obtain ⟨w1, w2, w3, w4, w5, ⟨w6, w7, w8, w9, w10, w11, w12⟩, w13, w14, w15, w16, w17⟩ := hwf
  unfold oImage
  refine g_aload eX12_image_0 rfl ?_
  refine g_callVp (r := (RX12, TX12, 32)) eX12_image_1 kX12_106 e25 (by rfl) (c_mlacks e25 w6) (by rfl) (by rfl) (by exact Nat.le_of_ble_eq_true rfl) (by exact Nat.le_of_ble_eq_true rfl) (by exact Nat.le_of_ble_eq_true rfl) (Nat.le_refl _) (Nat.le_refl _) ?_
  refine g_if_eqN eX12_image_4 (bt_lt _) (fun c4 => ?_) (fun c4 => ?_)
  · have hyes := bt_0 c4
    refine g_aload eX12_image_10 rfl ?_
    refine g_get eX12_image_11 fX12_22_X12 e25 (by rfl) ?_
    refine g_aload eX12_image_14 rfl ?_
    refine g_get eX12_image_15 fX12_43_X12 e25 (by rfl) ?_
    refine g_callSp eX12_image_18 kX12_87 (c_copy (by decide) e30 e37 (by omega) (by omega)) (by rfl) (by rfl) (by exact Nat.le_of_ble_eq_true rfl) (by exact Nat.le_of_ble_eq_true rfl) (by exact Nat.le_of_ble_eq_true rfl) (Nat.le_refl _) (Nat.le_refl _) ?_
    refine g_aload eX12_image_21 rfl ?_
    refine g_get eX12_image_22 fX12_25_X12 (at_ne (by decide) e25) (by rfl) ?_
    refine g_aload eX12_image_25 rfl ?_
    refine g_get eX12_image_26 fX12_46_X12 (at_ne (by decide) e25) (by rfl) ?_
    refine g_callSp eX12_image_29 kX12_87 (c_copy (by decide) (at_ne (by decide) e31) (at_ne (by decide) e38) (by omega) (by omega)) (by rfl) (by rfl) (by exact Nat.le_of_ble_eq_true rfl) (by exact Nat.le_of_ble_eq_true rfl) (by exact Nat.le_of_ble_eq_true rfl) (Nat.le_refl _) (Nat.le_refl _) ?_
    refine g_aload eX12_image_32 rfl ?_
    refine g_get eX12_image_33 fX12_34_X12 (at_ne (by decide) (at_ne (by decide) e25)) (by rfl) ?_
    refine g_aload eX12_image_36 rfl ?_
    refine g_get eX12_image_37 fX12_49_X12 (at_ne (by decide) (at_ne (by decide) e25)) (by rfl) ?_
    refine g_callSp eX12_image_40 kX12_87 (c_copy (by decide) (at_ne (by decide) (at_ne (by decide) e34)) (at_ne (by decide) (at_ne (by decide) e39)) (by omega) (by omega)) (by rfl) (by rfl) (by exact Nat.le_of_ble_eq_true rfl) (by exact Nat.le_of_ble_eq_true rfl) (by exact Nat.le_of_ble_eq_true rfl) (Nat.le_refl _) (Nat.le_refl _) ?_
    refine g_aload eX12_image_43 rfl ?_
    refine g_aload eX12_image_44 rfl ?_
    refine g_get eX12_image_45 fX12_91_X12 (at_ne (by decide) (at_ne (by decide) (at_ne (by decide) e25))) (by rfl) ?_
    refine g_putI eX12_image_48 fX12_194_X12 pX12_24 (at_ne (by decide) (at_ne (by decide) (at_ne (by decide) e25))) (by exact Nat.le_of_ble_eq_true rfl) ?_
    refine g_aload eX12_image_51 rfl ?_
    refine g_aload eX12_image_52 rfl ?_
    refine g_get eX12_image_53 fX12_97_X12 (at_eq (at_ne (by decide) (at_ne (by decide) (at_ne (by decide) e25)))) (by rfl) ?_
    refine g_putI eX12_image_56 fX12_197_X12 pX12_25 (at_eq (at_ne (by decide) (at_ne (by decide) (at_ne (by decide) e25)))) (by exact Nat.le_of_ble_eq_true rfl) ?_
    refine g_aload eX12_image_59 rfl ?_
    refine g_aload eX12_image_60 rfl ?_
    refine g_get eX12_image_61 fX12_94_X12 (at_eq (at_eq (at_ne (by decide) (at_ne (by decide) (at_ne (by decide) e25))))) (by rfl) ?_
    refine g_putI eX12_image_64 fX12_200_X12 pX12_26 (at_eq (at_eq (at_ne (by decide) (at_ne (by decide) (at_ne (by decide) e25))))) (by exact Nat.le_of_ble_eq_true rfl) ?_
    refine g_aload eX12_image_67 rfl ?_
    refine g_aload eX12_image_68 rfl ?_
    refine g_get eX12_image_69 fX12_100_X12 (at_eq (at_eq (at_eq (at_ne (by decide) (at_ne (by decide) (at_ne (by decide) e25)))))) (by rfl) ?_
    refine g_putI eX12_image_72 fX12_203_X12 pX12_27 (at_eq (at_eq (at_eq (at_ne (by decide) (at_ne (by decide) (at_ne (by decide) e25)))))) (by exact Nat.le_of_ble_eq_true rfl) ?_
    refine g_aload eX12_image_75 rfl ?_
    refine g_aload eX12_image_76 rfl ?_
    refine g_get eX12_image_77 fX12_103_X12 (at_eq (at_eq (at_eq (at_eq (at_ne (by decide) (at_ne (by decide) (at_ne (by decide) e25))))))) (by rfl) ?_
    refine g_putI eX12_image_80 fX12_52_X12 pX12_23 (at_eq (at_eq (at_eq (at_eq (at_ne (by decide) (at_ne (by decide) (at_ne (by decide) e25))))))) (by exact Nat.le_of_ble_eq_true rfl) ?_
    refine g_aload eX12_image_83 rfl ?_
    refine g_get eX12_image_84 fX12_94_X12 (at_eq (at_eq (at_eq (at_eq (at_eq (at_ne (by decide) (at_ne (by decide) (at_ne (by decide) e25)))))))) (by rfl) ?_
    exact g_ret (eX12_image_87 _) (Nat.le_refl _) (Nat.le_refl _) (by
      rw [if_pos (show hasC t from hSs.mpr (by omega))]
      exact ⟨rfl, ⟨_, _, _, _, _, _, _, _, _, _, _, _, _, _, _, _, _, _, _, _, _, _, _, _, (at_eq (at_eq (at_eq (at_eq (at_eq (at_ne (by decide) (at_ne (by decide) (at_ne (by decide) e25)))))))), (at_ne (by decide) (at_ne (by decide) (at_ne (by decide) (at_ne (by decide) (at_ne (by decide) (at_ne (by decide) (at_ne (by decide) (at_ne (by decide) e26)))))))), (at_ne (by decide) (at_ne (by decide) (at_ne (by decide) (at_ne (by decide) (at_ne (by decide) (at_ne (by decide) (at_ne (by decide) (at_ne (by decide) e27)))))))), (at_ne (by decide) (at_ne (by decide) (at_ne (by decide) (at_ne (by decide) (at_ne (by decide) (at_ne (by decide) (at_ne (by decide) (at_ne (by decide) e28)))))))), (at_ne (by decide) (at_ne (by decide) (at_ne (by decide) (at_ne (by decide) (at_ne (by decide) (at_ne (by decide) (at_ne (by decide) (at_ne (by decide) e29)))))))), (at_ne (by decide) (at_ne (by decide) (at_ne (by decide) (at_ne (by decide) (at_ne (by decide) (at_ne (by decide) (at_ne (by decide) (at_ne (by decide) e30)))))))), (at_ne (by decide) (at_ne (by decide) (at_ne (by decide) (at_ne (by decide) (at_ne (by decide) (at_ne (by decide) (at_ne (by decide) (at_ne (by decide) e31)))))))), (at_ne (by decide) (at_ne (by decide) (at_ne (by decide) (at_ne (by decide) (at_ne (by decide) (at_ne (by decide) (at_ne (by decide) (at_ne (by decide) e32)))))))), (at_ne (by decide) (at_ne (by decide) (at_ne (by decide) (at_ne (by decide) (at_ne (by decide) (at_ne (by decide) (at_ne (by decide) (at_ne (by decide) e33)))))))), (at_ne (by decide) (at_ne (by decide) (at_ne (by decide) (at_ne (by decide) (at_ne (by decide) (at_ne (by decide) (at_ne (by decide) (at_ne (by decide) e34)))))))), (at_ne (by decide) (at_ne (by decide) (at_ne (by decide) (at_ne (by decide) (at_ne (by decide) (at_ne (by decide) (at_ne (by decide) (at_ne (by decide) e35)))))))), (at_ne (by decide) (at_ne (by decide) (at_ne (by decide) (at_ne (by decide) (at_ne (by decide) (at_ne (by decide) (at_ne (by decide) (at_ne (by decide) e36)))))))), (at_ne (by decide) (at_ne (by decide) (at_ne (by decide) (at_ne (by decide) (at_ne (by decide) (at_ne (by decide) (at_ne (by decide) (at_eq e37)))))))), (at_ne (by decide) (at_ne (by decide) (at_ne (by decide) (at_ne (by decide) (at_ne (by decide) (at_ne (by decide) (at_eq (at_ne (by decide) e38)))))))), (at_ne (by decide) (at_ne (by decide) (at_ne (by decide) (at_ne (by decide) (at_ne (by decide) (at_eq (at_ne (by decide) (at_ne (by decide) e39)))))))), lpg, lrn, lrs, lnr, lro, lhe, lth, ldr, lsh, lrw, lhs, hpg, hnr, ⟨lsh, lrw, lhs, hsh, hrw, hhs⟩, fun h => (nomatch (show some (crO t) = none from h)), fun c hc => by obtain rfl : crO t = c := Option.some.inj hc; exact ⟨rfl, rfl, rfl, rfl, rfl, ⟨lsh, lrw, lhs, hsh, hrw, hhs⟩, rfl⟩⟩, ((((((((EqO.rf.st (by decide)).st (by decide)).st (by decide)).st (by decide)).st (by decide)).st (by decide)).st (by decide)).st (by decide))⟩)
  · have hno := bt_1 c4
    refine g_push eX12_image_7 ?_
    exact g_ret (eX12_image_9 _) (Nat.le_refl _) (Nat.le_refl _) (by rw [if_neg (show ¬ hasC t from fun h => by have := hSs.mp h; omega)]; exact ⟨rfl, hI', EqO.rf⟩)
set_option maxRecDepth 20000 in
theorem m_restore {σ : aH} {t : St} (hI : IM t σ) (hwf : WF t)  : MX12_restore 1 0 0 [.ref 25] σ (fun v σ' => v = some (.int (oRestore t).1) ∧ IM (oRestore t).2 σ' ∧ FrM σ σ') := by
  refine sX12_restore (Nat.le_of_ble_eq_true rfl) ?_
  have hI' := hI
  have hwf' := hwf
  have hSs := hwf.hS
  obtain ⟨pg, rn, rs, nr, sh, rw, ro, he, hs, th, dr, ks, kr, kh, x2, x3, x4, sd, kc, kl, ka, kg, kd, ha, e25, e26, e27, e28, e29, e30, e31, e32, e33, e34, e35, e36, e37, e38, e39, lpg, lrn, lrs, lnr, lro, lhe, lth, ldr, lks, lkr, lkh, hpg, hnr, ⟨lsh, lrw, lhs, hsh, hrw, hhs⟩, hk0, hk1⟩ := hI
  obtain ⟨w1, w2, w3, w4, w5, ⟨w6, w7, w8, w9, w10, w11, w12⟩, w13, w14, w15, w16, w17⟩ := hwf
  unfold oRestore
  cases hi : imO t with
  | none =>
    dsimp only
    have hlt := hk0 hi
    refine g_aload eX12_restore_0 rfl ?_
    refine g_get eX12_restore_1 fX12_52_X12 e25 (by rfl) ?_
    refine g_aload eX12_restore_4 rfl ?_
    refine g_get eX12_restore_5 fX12_103_X12 e25 (by rfl) ?_
    refine g_icmp_eq eX12_restore_8 (fun c8 => by rw [c8, nI_toInt (by omega)] at hlt; omega) (fun c8 => ?_)
    refine g_push eX12_restore_11 ?_
    exact g_ret (eX12_restore_13 _) (Nat.le_refl _) (Nat.le_refl _) ⟨rfl, hI', EqO.rf⟩
  | some c =>
    dsimp only
    obtain ⟨rfl, rfl, rfl, rfl, rfl, ⟨ksh, krw, khs, kh1, kh2, kh3⟩, kwd⟩ := hk1 c hi
    refine g_aload eX12_restore_0 rfl ?_
    refine g_get eX12_restore_1 fX12_52_X12 e25 (by rfl) ?_
    refine g_aload eX12_restore_4 rfl ?_
    refine g_get eX12_restore_5 fX12_103_X12 e25 (by rfl) ?_
    refine g_icmp_eq eX12_restore_8 (fun c8 => ?_) (fun c8 => absurd rfl c8)
    refine g_aload eX12_restore_14 rfl ?_
    refine g_get eX12_restore_15 fX12_43_X12 e25 (by rfl) ?_
    refine g_aload eX12_restore_18 rfl ?_
    refine g_get eX12_restore_19 fX12_22_X12 e25 (by rfl) ?_
    refine g_callSp eX12_restore_22 kX12_87 (c_copy (by decide) e37 e30 (by omega) (by omega)) (by rfl) (by rfl) (by exact Nat.le_of_ble_eq_true rfl) (by exact Nat.le_of_ble_eq_true rfl) (by exact Nat.le_of_ble_eq_true rfl) (Nat.le_refl _) (Nat.le_refl _) ?_
    refine g_aload eX12_restore_25 rfl ?_
    refine g_get eX12_restore_26 fX12_46_X12 (at_ne (by decide) e25) (by rfl) ?_
    refine g_aload eX12_restore_29 rfl ?_
    refine g_get eX12_restore_30 fX12_25_X12 (at_ne (by decide) e25) (by rfl) ?_
    refine g_callSp eX12_restore_33 kX12_87 (c_copy (by decide) (at_ne (by decide) e38) (at_ne (by decide) e31) (by omega) (by omega)) (by rfl) (by rfl) (by exact Nat.le_of_ble_eq_true rfl) (by exact Nat.le_of_ble_eq_true rfl) (by exact Nat.le_of_ble_eq_true rfl) (Nat.le_refl _) (Nat.le_refl _) ?_
    refine g_aload eX12_restore_36 rfl ?_
    refine g_get eX12_restore_37 fX12_49_X12 (at_ne (by decide) (at_ne (by decide) e25)) (by rfl) ?_
    refine g_aload eX12_restore_40 rfl ?_
    refine g_get eX12_restore_41 fX12_34_X12 (at_ne (by decide) (at_ne (by decide) e25)) (by rfl) ?_
    refine g_callSp eX12_restore_44 kX12_87 (c_copy (by decide) (at_ne (by decide) (at_ne (by decide) e39)) (at_ne (by decide) (at_ne (by decide) e34)) (by omega) (by omega)) (by rfl) (by rfl) (by exact Nat.le_of_ble_eq_true rfl) (by exact Nat.le_of_ble_eq_true rfl) (by exact Nat.le_of_ble_eq_true rfl) (Nat.le_refl _) (Nat.le_refl _) ?_
    refine g_aload eX12_restore_47 rfl ?_
    refine g_aload eX12_restore_48 rfl ?_
    refine g_get eX12_restore_49 fX12_194_X12 (at_ne (by decide) (at_ne (by decide) (at_ne (by decide) e25))) (by rfl) ?_
    refine g_putI eX12_restore_52 fX12_91_X12 pX12_7 (at_ne (by decide) (at_ne (by decide) (at_ne (by decide) e25))) (by exact Nat.le_of_ble_eq_true rfl) ?_
    refine g_aload eX12_restore_55 rfl ?_
    refine g_aload eX12_restore_56 rfl ?_
    refine g_get eX12_restore_57 fX12_197_X12 (at_eq (at_ne (by decide) (at_ne (by decide) (at_ne (by decide) e25)))) (by rfl) ?_
    refine g_putI eX12_restore_60 fX12_97_X12 pX12_13 (at_eq (at_ne (by decide) (at_ne (by decide) (at_ne (by decide) e25)))) (by exact Nat.le_of_ble_eq_true rfl) ?_
    refine g_aload eX12_restore_63 rfl ?_
    refine g_aload eX12_restore_64 rfl ?_
    refine g_get eX12_restore_65 fX12_200_X12 (at_eq (at_eq (at_ne (by decide) (at_ne (by decide) (at_ne (by decide) e25))))) (by rfl) ?_
    refine g_putI eX12_restore_68 fX12_94_X12 pX12_9 (at_eq (at_eq (at_ne (by decide) (at_ne (by decide) (at_ne (by decide) e25))))) (by exact Nat.le_of_ble_eq_true rfl) ?_
    refine g_aload eX12_restore_71 rfl ?_
    refine g_aload eX12_restore_72 rfl ?_
    refine g_get eX12_restore_73 fX12_203_X12 (at_eq (at_eq (at_eq (at_ne (by decide) (at_ne (by decide) (at_ne (by decide) e25)))))) (by rfl) ?_
    refine g_putI eX12_restore_76 fX12_100_X12 pX12_18 (at_eq (at_eq (at_eq (at_ne (by decide) (at_ne (by decide) (at_ne (by decide) e25)))))) (by exact Nat.le_of_ble_eq_true rfl) ?_
    refine g_aload eX12_restore_79 rfl ?_
    refine g_get eX12_restore_80 fX12_94_X12 (at_eq (at_eq (at_eq (at_eq (at_ne (by decide) (at_ne (by decide) (at_ne (by decide) e25))))))) (by rfl) ?_
    exact g_ret (eX12_restore_83 _) (Nat.le_refl _) (Nat.le_refl _) (by
      refine ⟨rfl, ⟨_, _, _, _, _, _, _, _, _, _, _, _, _, _, _, _, _, _, _, _, _, _, _, _, (by show _ = some (mob _ _ _ _ _ (shO c).length _ _ _ _ _ _ _ _ _ _ _ _); rw [kwd]; exact (at_eq (at_eq (at_eq (at_eq (at_ne (by decide) (at_ne (by decide) (at_ne (by decide) e25)))))))), (at_ne (by decide) (at_ne (by decide) (at_ne (by decide) (at_ne (by decide) (at_ne (by decide) (at_ne (by decide) (at_ne (by decide) e26))))))), (at_ne (by decide) (at_ne (by decide) (at_ne (by decide) (at_ne (by decide) (at_ne (by decide) (at_ne (by decide) (at_ne (by decide) e27))))))), (at_ne (by decide) (at_ne (by decide) (at_ne (by decide) (at_ne (by decide) (at_ne (by decide) (at_ne (by decide) (at_ne (by decide) e28))))))), (at_ne (by decide) (at_ne (by decide) (at_ne (by decide) (at_ne (by decide) (at_ne (by decide) (at_ne (by decide) (at_ne (by decide) e29))))))), (at_ne (by decide) (at_ne (by decide) (at_ne (by decide) (at_ne (by decide) (at_ne (by decide) (at_ne (by decide) (at_eq e30))))))), (at_ne (by decide) (at_ne (by decide) (at_ne (by decide) (at_ne (by decide) (at_ne (by decide) (at_eq (at_ne (by decide) e31))))))), (at_ne (by decide) (at_ne (by decide) (at_ne (by decide) (at_ne (by decide) (at_ne (by decide) (at_ne (by decide) (at_ne (by decide) e32))))))), (at_ne (by decide) (at_ne (by decide) (at_ne (by decide) (at_ne (by decide) (at_ne (by decide) (at_ne (by decide) (at_ne (by decide) e33))))))), (at_ne (by decide) (at_ne (by decide) (at_ne (by decide) (at_ne (by decide) (at_eq (at_ne (by decide) (at_ne (by decide) e34))))))), (at_ne (by decide) (at_ne (by decide) (at_ne (by decide) (at_ne (by decide) (at_ne (by decide) (at_ne (by decide) (at_ne (by decide) e35))))))), (at_ne (by decide) (at_ne (by decide) (at_ne (by decide) (at_ne (by decide) (at_ne (by decide) (at_ne (by decide) (at_ne (by decide) e36))))))), (at_ne (by decide) (at_ne (by decide) (at_ne (by decide) (at_ne (by decide) (at_ne (by decide) (at_ne (by decide) (at_ne (by decide) e37))))))), (at_ne (by decide) (at_ne (by decide) (at_ne (by decide) (at_ne (by decide) (at_ne (by decide) (at_ne (by decide) (at_ne (by decide) e38))))))), (at_ne (by decide) (at_ne (by decide) (at_ne (by decide) (at_ne (by decide) (at_ne (by decide) (at_ne (by decide) (at_ne (by decide) e39))))))), lpg, lrn, lrs, lnr, lro, lhe, lth, ldr, lks, lkr, lkh, hpg, hnr, ⟨ksh, krw, khs, kh1, kh2, kh3⟩, fun h => ?_, fun c2 hc2 => ?_⟩, (((((((EqO.rf.st (by decide)).st (by decide)).st (by decide)).st (by decide)).st (by decide)).st (by decide)).st (by decide))⟩
      · exact absurd (hi.symm.trans h) (fun z => by cases z)
      · obtain rfl : c = c2 := Option.some.inj (hi.symm.trans hc2)
        exact ⟨rfl, rfl, rfl, rfl, rfl, ⟨ksh, krw, khs, kh1, kh2, kh3⟩, rfl⟩)
