/-! the reference: hide -/
def hV (t : St) (a S : Nat) : Nat := popc (msk (altA (manO (crO t) a).1 ((nrO t).getD (manO (crO t) a).2.1 0) S (shW (shO (crO t)))) (shO (crO t)).length)
theorem hV_eq {t : St} {a S : Nat} (h : (shO (crO t)).length ≤ 10) : hV t a S = vS (altA (manO (crO t) a).1 ((nrO t).getD (manO (crO t) a).2.1 0) 0 (shW (shO (crO t)))) (shW (shO (crO t))) (shO (crO t)).length S := by
  unfold hV vS
  rw [popc_msk h]
  refine cnt_congr (fun k _ => ?_)
  unfold altA
  rw [Nat.zero_testBit]
  simp [Bool.and_comm]
theorem hV_le {t : St} {a : Nat} (S : Nat) : hV t a S ≤ 10 := popc_le _
theorem hide_bst {t : St} {a n : Nat} (h : (shO (crO t)).length ≤ 10) (h8 : ∀ k, (shO (crO t)).getD k 0 < 8) : bst (hV t a) n 256 = (some (hidW t a n), hV t a (hidW t a n)) := by
  have hb := wth_b (g := altA (manO (crO t) a).1 ((nrO t).getD (manO (crO t) a).2.1 0) 0 (shW (shO (crO t)))) (s := shW (shO (crO t))) h n 0 (by decide)
  have h0 : cnt (Nat.testBit 0) 8 = 0 := by decide
  refine bst_eq hV_le hb.1 (Nat.le_trans (Nat.le_of_eq (pop_8 hb.1).1) (Nat.le_trans hb.2 (by omega))) (fun S hS hp => ?_)
  rw [hV_eq h, hV_eq h]
  exact wth_best h (fun k _ => h8 k) hS hp
theorem hidA_v {t : St} {a n w : Nat} (h : (shO (crO t)).length ≤ 10) : hidA t a n w = if w = 0 then oI (some (hidW t a n)) else nI (hV t a (hidW t a n)) := by
  unfold hidA
  rw [hV_eq h, ← vS_pop h]
  rfl
set_option maxRecDepth 20000 in
theorem c_hideOf {σ : aH} {t : St} (hI : IM t σ) (hwf : WF t) {a : Nat} (hia : a < (mnO (crO t)).length) {n w : Nat} (hn9 : n < 9) (hw2 : w < 2) : MX12_hideOf 3 0 0 [.ref 25, .int (nI a), .int (nI n), .int (nI w)] σ (aPu (some (.int (hidA t a n w))) σ) := by
  refine sX12_hideOf (Nat.le_of_ble_eq_true rfl) ?_
  have hI' := hI
  have hwf' := hwf
  have hSs := hwf.hS
  obtain ⟨pg, rn, rs, nr, sh, rw, ro, he, hs, th, dr, ks, kr, kh, x2, x3, x4, sd, kc, kl, ka, kg, kd, ha, e25, e26, e27, e28, e29, e30, e31, e32, e33, e34, e35, e36, e37, e38, e39, lpg, lrn, lrs, lnr, lro, lhe, lth, ldr, lks, lkr, lkh, hpg, hnr, ⟨lsh, lrw, lhs, hsh, hrw, hhs⟩, hk0, hk1⟩ := hI
  obtain ⟨w1, w2, w3, w4, w5, ⟨w6, w7, w8, w9, w10, w11, w12⟩, w13, w14, w15, w16, w17⟩ := hwf
  have hr := hrw a hia
  have hm := w10 a
  have hb : nr.getD (manO (crO t) a).2.1 0 < 256 := by rw [hnr _ (by omega)]; exact w4 _
  have hst : ∀ k, k < (shO (crO t)).length → sh.getD k 0 < 8 := fun k hk => by rw [hsh k hk]; exact w7 k
  have hal : ∀ S, popc (msk (altA (manO (crO t) a).1 (nr.getD (manO (crO t) a).2.1 0) S (shW sh)) (shO (crO t)).length) = hV t a S := fun S => by
    unfold hV
    rw [hnr _ (by omega), mskA_congr hsh]
  have key : ∀ e k o7 o8, k + e = 256 → GX12_hideOf 3 0 0 (aPu (some (.int (hidA t a n w))) σ) 0 0 10 [some (.ref 25), some (.int (nI a)), some (.int (nI n)), some (.int (nI w)), some (.int (oI (bst (hV t a) n k).1)), some (.int (nI (bst (hV t a) n k).2)), some (.int (nI k)), o7, o8] [] σ := by
    intro e
    induction e with
    | zero =>
      intro k o7 o8 hk
      obtain rfl : k = 256 := by omega
      rw [hide_bst w6 w7, hidA_v w6]
      have hV10 := hV_le (t := t) (a := a) (hidW t a n)
      refine g_iload eX12_hideOf_10 rfl ?_
      refine g_push eX12_hideOf_12 ?_
      refine g_icmp_geN eX12_hideOf_15 (by omega) (by omega) (fun c15 => ?_) (fun c15 => by exfalso; omega)
      refine g_iload eX12_hideOf_117 rfl ?_
      refine g_if_neN eX12_hideOf_118 (by omega) (fun c118 => ?_) (fun c118 => ?_)
      · refine g_iload eX12_hideOf_126 rfl ?_
        exact g_ret (eX12_hideOf_128 _) (Nat.le_refl _) (Nat.le_refl _) (by first | (rw [if_neg c118]; exact ⟨rfl, rfl⟩) | (rw [if_pos c118]; exact ⟨rfl, rfl⟩))
      · refine g_iload eX12_hideOf_121 rfl ?_
        refine g_goto eX12_hideOf_123 ?_
        exact g_ret (eX12_hideOf_128 _) (Nat.le_refl _) (Nat.le_refl _) (by first | (rw [if_neg c118]; exact ⟨rfl, rfl⟩) | (rw [if_pos c118]; exact ⟨rfl, rfl⟩))
    | succ e ih =>
      intro k o7 o8 hk
      have hlt : msk (altA (manO (crO t) a).1 (nr.getD (manO (crO t) a).2.1 0) k (shW sh)) (shO (crO t)).length < 1024 := Nat.lt_of_lt_of_le (msk_lt _ _) (show 2 ^ (shO (crO t)).length ≤ 2 ^ 10 from Nat.pow_le_pow_right (by omega) w6)
      have hVk := hV_le (t := t) (a := a) k
      have hpk := (pop_8 (show k < 256 by omega)).2
      rcases bst_inv (V := hV t a) (m := n) hV_le k (by omega) with ⟨hbs, -⟩ | ⟨b, hb1, hbs, -, -⟩
      · rw [hbs]
        refine g_iload eX12_hideOf_10 rfl ?_
        refine g_push eX12_hideOf_12 ?_
        refine g_icmp_geN eX12_hideOf_15 (by omega) (by omega) (fun c15 => by exfalso; omega) (fun c15 => ?_)
        refine g_aload eX12_hideOf_18 rfl ?_
        refine g_aload eX12_hideOf_19 rfl ?_
        refine g_get eX12_hideOf_20 fX12_25_X12 e25 (by rfl) ?_
        refine g_push eX12_hideOf_23 ?_
        refine g_iload eX12_hideOf_24 rfl ?_
        refine g_imulN eX12_hideOf_25 ?_
        refine g_ialdN eX12_hideOf_26 e31 (by omega) (by omega) ?_
        rw [hr.1]
        refine g_aload eX12_hideOf_27 rfl ?_
        refine g_get eX12_hideOf_28 fX12_25_X12 e25 (by rfl) ?_
        refine g_push eX12_hideOf_31 ?_
        refine g_iload eX12_hideOf_32 rfl ?_
        refine g_imulN eX12_hideOf_33 ?_
        refine g_push eX12_hideOf_34 ?_
        refine g_iaddN eX12_hideOf_35 ?_
        refine g_ialdN eX12_hideOf_36 e31 (by omega) (by omega) ?_
        rw [hr.2.1]
        refine g_iload eX12_hideOf_37 rfl ?_
        refine g_aload eX12_hideOf_39 rfl ?_
        refine g_get eX12_hideOf_40 fX12_22_X12 e25 (by rfl) ?_
        refine g_aload eX12_hideOf_43 rfl ?_
        refine g_get eX12_hideOf_44 fX12_84_X12 e25 (by rfl) ?_
        refine g_callVp (r := (RX12, TX12, 32)) eX12_hideOf_47 kX12_129 e25 (by rfl) (c_altersOn (kind := (manO (crO t) a).1) (d := (manO (crO t) a).2.1) (hides := k) (many := (shO (crO t)).length) e25 e29 lnr e30 (by omega) hm.1 (by omega) hb (by omega) (by omega) hst) (by rfl) (by rfl) (by exact Nat.le_of_ble_eq_true rfl) (by exact Nat.le_of_ble_eq_true rfl) (by exact Nat.le_of_ble_eq_true rfl) (Nat.le_refl _) (Nat.le_refl _) ?_
        refine g_callSp eX12_hideOf_50 kX12_137 (c_ones (Nat.lt_trans hlt (by decide))) (by rfl) (by rfl) (by exact Nat.le_of_ble_eq_true rfl) (by exact Nat.le_of_ble_eq_true rfl) (by exact Nat.le_of_ble_eq_true rfl) (Nat.le_refl _) (Nat.le_refl _) ?_
        rw [hal k]
        refine g_istore eX12_hideOf_53 rfl ?_
        refine g_iload eX12_hideOf_55 rfl ?_
        refine g_iload eX12_hideOf_57 rfl ?_
        refine g_icmp_ltN eX12_hideOf_59 (by omega) (by omega) (fun c59 => ?_) (fun c59 => by exfalso; omega)
        refine g_push eX12_hideOf_82 ?_
        refine g_goto eX12_hideOf_83 ?_
        refine g_istore eX12_hideOf_87 rfl ?_
        refine g_iload eX12_hideOf_89 rfl ?_
        refine g_callSp eX12_hideOf_91 kX12_137 (c_ones (m := k) (by omega)) (by rfl) (by rfl) (by exact Nat.le_of_ble_eq_true rfl) (by exact Nat.le_of_ble_eq_true rfl) (by exact Nat.le_of_ble_eq_true rfl) (Nat.le_refl _) (Nat.le_refl _) ?_
        refine g_iload eX12_hideOf_94 rfl ?_
        refine g_icmp_gtN eX12_hideOf_95 (by omega) (by omega) (fun c95 => ?_) (fun c95 => ?_)
        · refine g_iincN eX12_hideOf_111 rfl rfl ?_
          refine g_goto eX12_hideOf_114 ?_
          first
            | (exfalso; omega)
            | (have := ih (k + 1) (some (.int (nI (hV t a k)))) (some (.int (nI 1))) (by omega)
               rw [bst_t (V := hV t a) (m := n) (k := k) (by omega) (by rw [hbs]; first | exact Or.inl (by assumption) | exact Or.inr ⟨by assumption, by assumption⟩)] at this
               exact this)
            | (have := ih (k + 1) (some (.int (nI (hV t a k)))) (some (.int (nI 1))) (by omega)
               rw [bst_f (V := hV t a) (m := n) (k := k) (by rw [hbs]; rintro ⟨z1, z2⟩; omega)] at this
               rw [hbs] at this
               exact this)
            | (have := ih (k + 1) (some (.int (nI (hV t a k)))) (some (.int (nI 0))) (by omega)
               rw [bst_f (V := hV t a) (m := n) (k := k) (by rw [hbs]; rintro ⟨z1, z2⟩; simp only [pO] at z2; omega)] at this
               rw [hbs] at this
               exact this)
            | (have := ih (k + 1) (some (.int (nI (hV t a k)))) (some (.int (nI 1))) (by omega)
               rw [bst_f (V := hV t a) (m := n) (k := k) (by rw [hbs]; rintro ⟨z1, z2⟩; simp only [pO] at z2; omega)] at this
               rw [hbs] at this
               exact this)
        · refine g_iload eX12_hideOf_98 rfl ?_
          refine g_if_eqN eX12_hideOf_100 (by omega) (fun c100 => ?_) (fun c100 => ?_)
          · refine g_iincN eX12_hideOf_111 rfl rfl ?_
            refine g_goto eX12_hideOf_114 ?_
            first
              | (exfalso; omega)
              | (have := ih (k + 1) (some (.int (nI (hV t a k)))) (some (.int (nI 1))) (by omega)
                 rw [bst_t (V := hV t a) (m := n) (k := k) (by omega) (by rw [hbs]; first | exact Or.inl (by assumption) | exact Or.inr ⟨by assumption, by assumption⟩)] at this
                 exact this)
              | (have := ih (k + 1) (some (.int (nI (hV t a k)))) (some (.int (nI 1))) (by omega)
                 rw [bst_f (V := hV t a) (m := n) (k := k) (by rw [hbs]; rintro ⟨z1, z2⟩; omega)] at this
                 rw [hbs] at this
                 exact this)
              | (have := ih (k + 1) (some (.int (nI (hV t a k)))) (some (.int (nI 0))) (by omega)
                 rw [bst_f (V := hV t a) (m := n) (k := k) (by rw [hbs]; rintro ⟨z1, z2⟩; simp only [pO] at z2; omega)] at this
                 rw [hbs] at this
                 exact this)
              | (have := ih (k + 1) (some (.int (nI (hV t a k)))) (some (.int (nI 1))) (by omega)
                 rw [bst_f (V := hV t a) (m := n) (k := k) (by rw [hbs]; rintro ⟨z1, z2⟩; simp only [pO] at z2; omega)] at this
                 rw [hbs] at this
                 exact this)
          · refine g_iload eX12_hideOf_103 rfl ?_
            refine g_istore eX12_hideOf_105 rfl ?_
            refine g_iload eX12_hideOf_107 rfl ?_
            refine g_istore eX12_hideOf_109 rfl ?_
            refine g_iincN eX12_hideOf_111 rfl rfl ?_
            refine g_goto eX12_hideOf_114 ?_
            first
              | (exfalso; omega)
              | (have := ih (k + 1) (some (.int (nI (hV t a k)))) (some (.int (nI 1))) (by omega)
                 rw [bst_t (V := hV t a) (m := n) (k := k) (by omega) (by rw [hbs]; first | exact Or.inl (by assumption) | exact Or.inr ⟨by assumption, by assumption⟩)] at this
                 exact this)
              | (have := ih (k + 1) (some (.int (nI (hV t a k)))) (some (.int (nI 1))) (by omega)
                 rw [bst_f (V := hV t a) (m := n) (k := k) (by rw [hbs]; rintro ⟨z1, z2⟩; omega)] at this
                 rw [hbs] at this
                 exact this)
              | (have := ih (k + 1) (some (.int (nI (hV t a k)))) (some (.int (nI 0))) (by omega)
                 rw [bst_f (V := hV t a) (m := n) (k := k) (by rw [hbs]; rintro ⟨z1, z2⟩; simp only [pO] at z2; omega)] at this
                 rw [hbs] at this
                 exact this)
              | (have := ih (k + 1) (some (.int (nI (hV t a k)))) (some (.int (nI 1))) (by omega)
                 rw [bst_f (V := hV t a) (m := n) (k := k) (by rw [hbs]; rintro ⟨z1, z2⟩; simp only [pO] at z2; omega)] at this
                 rw [hbs] at this
                 exact this)
      · rw [hbs]
        have hVb := hV_le (t := t) (a := a) b
        have hpb := (pop_8 (show b < 256 by omega)).2
        refine g_iload eX12_hideOf_10 rfl ?_
        refine g_push eX12_hideOf_12 ?_
        refine g_icmp_geN eX12_hideOf_15 (by omega) (by omega) (fun c15 => by exfalso; omega) (fun c15 => ?_)
        refine g_aload eX12_hideOf_18 rfl ?_
        refine g_aload eX12_hideOf_19 rfl ?_
        refine g_get eX12_hideOf_20 fX12_25_X12 e25 (by rfl) ?_
        refine g_push eX12_hideOf_23 ?_
        refine g_iload eX12_hideOf_24 rfl ?_
        refine g_imulN eX12_hideOf_25 ?_
        refine g_ialdN eX12_hideOf_26 e31 (by omega) (by omega) ?_
        rw [hr.1]
        refine g_aload eX12_hideOf_27 rfl ?_
        refine g_get eX12_hideOf_28 fX12_25_X12 e25 (by rfl) ?_
        refine g_push eX12_hideOf_31 ?_
        refine g_iload eX12_hideOf_32 rfl ?_
        refine g_imulN eX12_hideOf_33 ?_
        refine g_push eX12_hideOf_34 ?_
        refine g_iaddN eX12_hideOf_35 ?_
        refine g_ialdN eX12_hideOf_36 e31 (by omega) (by omega) ?_
        rw [hr.2.1]
        refine g_iload eX12_hideOf_37 rfl ?_
        refine g_aload eX12_hideOf_39 rfl ?_
        refine g_get eX12_hideOf_40 fX12_22_X12 e25 (by rfl) ?_
        refine g_aload eX12_hideOf_43 rfl ?_
        refine g_get eX12_hideOf_44 fX12_84_X12 e25 (by rfl) ?_
        refine g_callVp (r := (RX12, TX12, 32)) eX12_hideOf_47 kX12_129 e25 (by rfl) (c_altersOn (kind := (manO (crO t) a).1) (d := (manO (crO t) a).2.1) (hides := k) (many := (shO (crO t)).length) e25 e29 lnr e30 (by omega) hm.1 (by omega) hb (by omega) (by omega) hst) (by rfl) (by rfl) (by exact Nat.le_of_ble_eq_true rfl) (by exact Nat.le_of_ble_eq_true rfl) (by exact Nat.le_of_ble_eq_true rfl) (Nat.le_refl _) (Nat.le_refl _) ?_
        refine g_callSp eX12_hideOf_50 kX12_137 (c_ones (Nat.lt_trans hlt (by decide))) (by rfl) (by rfl) (by exact Nat.le_of_ble_eq_true rfl) (by exact Nat.le_of_ble_eq_true rfl) (by exact Nat.le_of_ble_eq_true rfl) (Nat.le_refl _) (Nat.le_refl _) ?_
        rw [hal k]
        refine g_istore eX12_hideOf_53 rfl ?_
        refine g_iload eX12_hideOf_55 rfl ?_
        refine g_iload eX12_hideOf_57 rfl ?_
        refine g_icmp_ltN eX12_hideOf_59 (by omega) (by omega) (fun c59 => ?_) (fun c59 => ?_)
        · refine g_push eX12_hideOf_82 ?_
          refine g_goto eX12_hideOf_83 ?_
          refine g_istore eX12_hideOf_87 rfl ?_
          refine g_iload eX12_hideOf_89 rfl ?_
          refine g_callSp eX12_hideOf_91 kX12_137 (c_ones (m := k) (by omega)) (by rfl) (by rfl) (by exact Nat.le_of_ble_eq_true rfl) (by exact Nat.le_of_ble_eq_true rfl) (by exact Nat.le_of_ble_eq_true rfl) (Nat.le_refl _) (Nat.le_refl _) ?_
          refine g_iload eX12_hideOf_94 rfl ?_
          refine g_icmp_gtN eX12_hideOf_95 (by omega) (by omega) (fun c95 => ?_) (fun c95 => ?_)
          · refine g_iincN eX12_hideOf_111 rfl rfl ?_
            refine g_goto eX12_hideOf_114 ?_
            first
              | (exfalso; omega)
              | (have := ih (k + 1) (some (.int (nI (hV t a k)))) (some (.int (nI 1))) (by omega)
                 rw [bst_t (V := hV t a) (m := n) (k := k) (by omega) (by rw [hbs]; first | exact Or.inl (by assumption) | exact Or.inr ⟨by assumption, by assumption⟩)] at this
                 exact this)
              | (have := ih (k + 1) (some (.int (nI (hV t a k)))) (some (.int (nI 1))) (by omega)
                 rw [bst_f (V := hV t a) (m := n) (k := k) (by rw [hbs]; rintro ⟨z1, z2⟩; omega)] at this
                 rw [hbs] at this
                 exact this)
              | (have := ih (k + 1) (some (.int (nI (hV t a k)))) (some (.int (nI 0))) (by omega)
                 rw [bst_f (V := hV t a) (m := n) (k := k) (by rw [hbs]; rintro ⟨z1, z2⟩; simp only [pO] at z2; omega)] at this
                 rw [hbs] at this
                 exact this)
              | (have := ih (k + 1) (some (.int (nI (hV t a k)))) (some (.int (nI 1))) (by omega)
                 rw [bst_f (V := hV t a) (m := n) (k := k) (by rw [hbs]; rintro ⟨z1, z2⟩; simp only [pO] at z2; omega)] at this
                 rw [hbs] at this
                 exact this)
          · refine g_iload eX12_hideOf_98 rfl ?_
            refine g_if_eqN eX12_hideOf_100 (by omega) (fun c100 => ?_) (fun c100 => ?_)
            · refine g_iincN eX12_hideOf_111 rfl rfl ?_
              refine g_goto eX12_hideOf_114 ?_
              first
                | (exfalso; omega)
                | (have := ih (k + 1) (some (.int (nI (hV t a k)))) (some (.int (nI 1))) (by omega)
                   rw [bst_t (V := hV t a) (m := n) (k := k) (by omega) (by rw [hbs]; first | exact Or.inl (by assumption) | exact Or.inr ⟨by assumption, by assumption⟩)] at this
                   exact this)
                | (have := ih (k + 1) (some (.int (nI (hV t a k)))) (some (.int (nI 1))) (by omega)
                   rw [bst_f (V := hV t a) (m := n) (k := k) (by rw [hbs]; rintro ⟨z1, z2⟩; omega)] at this
                   rw [hbs] at this
                   exact this)
                | (have := ih (k + 1) (some (.int (nI (hV t a k)))) (some (.int (nI 0))) (by omega)
                   rw [bst_f (V := hV t a) (m := n) (k := k) (by rw [hbs]; rintro ⟨z1, z2⟩; simp only [pO] at z2; omega)] at this
                   rw [hbs] at this
                   exact this)
                | (have := ih (k + 1) (some (.int (nI (hV t a k)))) (some (.int (nI 1))) (by omega)
                   rw [bst_f (V := hV t a) (m := n) (k := k) (by rw [hbs]; rintro ⟨z1, z2⟩; simp only [pO] at z2; omega)] at this
                   rw [hbs] at this
                   exact this)
            · refine g_iload eX12_hideOf_103 rfl ?_
              refine g_istore eX12_hideOf_105 rfl ?_
              refine g_iload eX12_hideOf_107 rfl ?_
              refine g_istore eX12_hideOf_109 rfl ?_
              refine g_iincN eX12_hideOf_111 rfl rfl ?_
              refine g_goto eX12_hideOf_114 ?_
              first
                | (exfalso; omega)
                | (have := ih (k + 1) (some (.int (nI (hV t a k)))) (some (.int (nI 1))) (by omega)
                   rw [bst_t (V := hV t a) (m := n) (k := k) (by omega) (by rw [hbs]; first | exact Or.inl (by assumption) | exact Or.inr ⟨by assumption, by assumption⟩)] at this
                   exact this)
                | (have := ih (k + 1) (some (.int (nI (hV t a k)))) (some (.int (nI 1))) (by omega)
                   rw [bst_f (V := hV t a) (m := n) (k := k) (by rw [hbs]; rintro ⟨z1, z2⟩; omega)] at this
                   rw [hbs] at this
                   exact this)
                | (have := ih (k + 1) (some (.int (nI (hV t a k)))) (some (.int (nI 0))) (by omega)
                   rw [bst_f (V := hV t a) (m := n) (k := k) (by rw [hbs]; rintro ⟨z1, z2⟩; simp only [pO] at z2; omega)] at this
                   rw [hbs] at this
                   exact this)
                | (have := ih (k + 1) (some (.int (nI (hV t a k)))) (some (.int (nI 1))) (by omega)
                   rw [bst_f (V := hV t a) (m := n) (k := k) (by rw [hbs]; rintro ⟨z1, z2⟩; simp only [pO] at z2; omega)] at this
                   rw [hbs] at this
                   exact this)
        · refine g_iload eX12_hideOf_62 rfl ?_
          refine g_iload eX12_hideOf_64 rfl ?_
          refine g_icmp_neN eX12_hideOf_66 (by omega) (by omega) (fun c66 => ?_) (fun c66 => ?_)
          · refine g_push eX12_hideOf_86 ?_
            refine g_istore eX12_hideOf_87 rfl ?_
            refine g_iload eX12_hideOf_89 rfl ?_
            refine g_callSp eX12_hideOf_91 kX12_137 (c_ones (m := k) (by omega)) (by rfl) (by rfl) (by exact Nat.le_of_ble_eq_true rfl) (by exact Nat.le_of_ble_eq_true rfl) (by exact Nat.le_of_ble_eq_true rfl) (Nat.le_refl _) (Nat.le_refl _) ?_
            refine g_iload eX12_hideOf_94 rfl ?_
            refine g_icmp_gtN eX12_hideOf_95 (by omega) (by omega) (fun c95 => ?_) (fun c95 => ?_)
            · refine g_iincN eX12_hideOf_111 rfl rfl ?_
              refine g_goto eX12_hideOf_114 ?_
              first
                | (exfalso; omega)
                | (have := ih (k + 1) (some (.int (nI (hV t a k)))) (some (.int (nI 1))) (by omega)
                   rw [bst_t (V := hV t a) (m := n) (k := k) (by omega) (by rw [hbs]; first | exact Or.inl (by assumption) | exact Or.inr ⟨by assumption, by assumption⟩)] at this
                   exact this)
                | (have := ih (k + 1) (some (.int (nI (hV t a k)))) (some (.int (nI 1))) (by omega)
                   rw [bst_f (V := hV t a) (m := n) (k := k) (by rw [hbs]; rintro ⟨z1, z2⟩; omega)] at this
                   rw [hbs] at this
                   exact this)
                | (have := ih (k + 1) (some (.int (nI (hV t a k)))) (some (.int (nI 0))) (by omega)
                   rw [bst_f (V := hV t a) (m := n) (k := k) (by rw [hbs]; rintro ⟨z1, z2⟩; simp only [pO] at z2; omega)] at this
                   rw [hbs] at this
                   exact this)
                | (have := ih (k + 1) (some (.int (nI (hV t a k)))) (some (.int (nI 1))) (by omega)
                   rw [bst_f (V := hV t a) (m := n) (k := k) (by rw [hbs]; rintro ⟨z1, z2⟩; simp only [pO] at z2; omega)] at this
                   rw [hbs] at this
                   exact this)
            · refine g_iload eX12_hideOf_98 rfl ?_
              refine g_if_eqN eX12_hideOf_100 (by omega) (fun c100 => ?_) (fun c100 => ?_)
              · refine g_iincN eX12_hideOf_111 rfl rfl ?_
                refine g_goto eX12_hideOf_114 ?_
                first
                  | (exfalso; omega)
                  | (have := ih (k + 1) (some (.int (nI (hV t a k)))) (some (.int (nI 1))) (by omega)
                     rw [bst_t (V := hV t a) (m := n) (k := k) (by omega) (by rw [hbs]; first | exact Or.inl (by assumption) | exact Or.inr ⟨by assumption, by assumption⟩)] at this
                     exact this)
                  | (have := ih (k + 1) (some (.int (nI (hV t a k)))) (some (.int (nI 1))) (by omega)
                     rw [bst_f (V := hV t a) (m := n) (k := k) (by rw [hbs]; rintro ⟨z1, z2⟩; omega)] at this
                     rw [hbs] at this
                     exact this)
                  | (have := ih (k + 1) (some (.int (nI (hV t a k)))) (some (.int (nI 0))) (by omega)
                     rw [bst_f (V := hV t a) (m := n) (k := k) (by rw [hbs]; rintro ⟨z1, z2⟩; simp only [pO] at z2; omega)] at this
                     rw [hbs] at this
                     exact this)
                  | (have := ih (k + 1) (some (.int (nI (hV t a k)))) (some (.int (nI 1))) (by omega)
                     rw [bst_f (V := hV t a) (m := n) (k := k) (by rw [hbs]; rintro ⟨z1, z2⟩; simp only [pO] at z2; omega)] at this
                     rw [hbs] at this
                     exact this)
              · refine g_iload eX12_hideOf_103 rfl ?_
                refine g_istore eX12_hideOf_105 rfl ?_
                refine g_iload eX12_hideOf_107 rfl ?_
                refine g_istore eX12_hideOf_109 rfl ?_
                refine g_iincN eX12_hideOf_111 rfl rfl ?_
                refine g_goto eX12_hideOf_114 ?_
                first
                  | (exfalso; omega)
                  | (have := ih (k + 1) (some (.int (nI (hV t a k)))) (some (.int (nI 1))) (by omega)
                     rw [bst_t (V := hV t a) (m := n) (k := k) (by omega) (by rw [hbs]; first | exact Or.inl (by assumption) | exact Or.inr ⟨by assumption, by assumption⟩)] at this
                     exact this)
                  | (have := ih (k + 1) (some (.int (nI (hV t a k)))) (some (.int (nI 1))) (by omega)
                     rw [bst_f (V := hV t a) (m := n) (k := k) (by rw [hbs]; rintro ⟨z1, z2⟩; omega)] at this
                     rw [hbs] at this
                     exact this)
                  | (have := ih (k + 1) (some (.int (nI (hV t a k)))) (some (.int (nI 0))) (by omega)
                     rw [bst_f (V := hV t a) (m := n) (k := k) (by rw [hbs]; rintro ⟨z1, z2⟩; simp only [pO] at z2; omega)] at this
                     rw [hbs] at this
                     exact this)
                  | (have := ih (k + 1) (some (.int (nI (hV t a k)))) (some (.int (nI 1))) (by omega)
                     rw [bst_f (V := hV t a) (m := n) (k := k) (by rw [hbs]; rintro ⟨z1, z2⟩; simp only [pO] at z2; omega)] at this
                     rw [hbs] at this
                     exact this)
          · refine g_iload eX12_hideOf_69 rfl ?_
            refine g_callSp eX12_hideOf_71 kX12_137 (c_ones (m := k) (by omega)) (by rfl) (by rfl) (by exact Nat.le_of_ble_eq_true rfl) (by exact Nat.le_of_ble_eq_true rfl) (by exact Nat.le_of_ble_eq_true rfl) (Nat.le_refl _) (Nat.le_refl _) ?_
            refine g_iload eX12_hideOf_74 rfl ?_
            refine g_callSp eX12_hideOf_76 kX12_137 (c_ones (m := b) (by omega)) (by rfl) (by rfl) (by exact Nat.le_of_ble_eq_true rfl) (by exact Nat.le_of_ble_eq_true rfl) (by exact Nat.le_of_ble_eq_true rfl) (Nat.le_refl _) (Nat.le_refl _) ?_
            refine g_icmp_geN eX12_hideOf_79 (by omega) (by omega) (fun c79 => ?_) (fun c79 => ?_)
            · refine g_push eX12_hideOf_86 ?_
              refine g_istore eX12_hideOf_87 rfl ?_
              refine g_iload eX12_hideOf_89 rfl ?_
              refine g_callSp eX12_hideOf_91 kX12_137 (c_ones (m := k) (by omega)) (by rfl) (by rfl) (by exact Nat.le_of_ble_eq_true rfl) (by exact Nat.le_of_ble_eq_true rfl) (by exact Nat.le_of_ble_eq_true rfl) (Nat.le_refl _) (Nat.le_refl _) ?_
              refine g_iload eX12_hideOf_94 rfl ?_
              refine g_icmp_gtN eX12_hideOf_95 (by omega) (by omega) (fun c95 => ?_) (fun c95 => ?_)
              · refine g_iincN eX12_hideOf_111 rfl rfl ?_
                refine g_goto eX12_hideOf_114 ?_
                first
                  | (exfalso; omega)
                  | (have := ih (k + 1) (some (.int (nI (hV t a k)))) (some (.int (nI 1))) (by omega)
                     rw [bst_t (V := hV t a) (m := n) (k := k) (by omega) (by rw [hbs]; first | exact Or.inl (by assumption) | exact Or.inr ⟨by assumption, by assumption⟩)] at this
                     exact this)
                  | (have := ih (k + 1) (some (.int (nI (hV t a k)))) (some (.int (nI 1))) (by omega)
                     rw [bst_f (V := hV t a) (m := n) (k := k) (by rw [hbs]; rintro ⟨z1, z2⟩; omega)] at this
                     rw [hbs] at this
                     exact this)
                  | (have := ih (k + 1) (some (.int (nI (hV t a k)))) (some (.int (nI 0))) (by omega)
                     rw [bst_f (V := hV t a) (m := n) (k := k) (by rw [hbs]; rintro ⟨z1, z2⟩; simp only [pO] at z2; omega)] at this
                     rw [hbs] at this
                     exact this)
                  | (have := ih (k + 1) (some (.int (nI (hV t a k)))) (some (.int (nI 1))) (by omega)
                     rw [bst_f (V := hV t a) (m := n) (k := k) (by rw [hbs]; rintro ⟨z1, z2⟩; simp only [pO] at z2; omega)] at this
                     rw [hbs] at this
                     exact this)
              · refine g_iload eX12_hideOf_98 rfl ?_
                refine g_if_eqN eX12_hideOf_100 (by omega) (fun c100 => ?_) (fun c100 => ?_)
                · refine g_iincN eX12_hideOf_111 rfl rfl ?_
                  refine g_goto eX12_hideOf_114 ?_
                  first
                    | (exfalso; omega)
                    | (have := ih (k + 1) (some (.int (nI (hV t a k)))) (some (.int (nI 1))) (by omega)
                       rw [bst_t (V := hV t a) (m := n) (k := k) (by omega) (by rw [hbs]; first | exact Or.inl (by assumption) | exact Or.inr ⟨by assumption, by assumption⟩)] at this
                       exact this)
                    | (have := ih (k + 1) (some (.int (nI (hV t a k)))) (some (.int (nI 1))) (by omega)
                       rw [bst_f (V := hV t a) (m := n) (k := k) (by rw [hbs]; rintro ⟨z1, z2⟩; omega)] at this
                       rw [hbs] at this
                       exact this)
                    | (have := ih (k + 1) (some (.int (nI (hV t a k)))) (some (.int (nI 0))) (by omega)
                       rw [bst_f (V := hV t a) (m := n) (k := k) (by rw [hbs]; rintro ⟨z1, z2⟩; simp only [pO] at z2; omega)] at this
                       rw [hbs] at this
                       exact this)
                    | (have := ih (k + 1) (some (.int (nI (hV t a k)))) (some (.int (nI 1))) (by omega)
                       rw [bst_f (V := hV t a) (m := n) (k := k) (by rw [hbs]; rintro ⟨z1, z2⟩; simp only [pO] at z2; omega)] at this
                       rw [hbs] at this
                       exact this)
                · refine g_iload eX12_hideOf_103 rfl ?_
                  refine g_istore eX12_hideOf_105 rfl ?_
                  refine g_iload eX12_hideOf_107 rfl ?_
                  refine g_istore eX12_hideOf_109 rfl ?_
                  refine g_iincN eX12_hideOf_111 rfl rfl ?_
                  refine g_goto eX12_hideOf_114 ?_
                  first
                    | (exfalso; omega)
                    | (have := ih (k + 1) (some (.int (nI (hV t a k)))) (some (.int (nI 1))) (by omega)
                       rw [bst_t (V := hV t a) (m := n) (k := k) (by omega) (by rw [hbs]; first | exact Or.inl (by assumption) | exact Or.inr ⟨by assumption, by assumption⟩)] at this
                       exact this)
                    | (have := ih (k + 1) (some (.int (nI (hV t a k)))) (some (.int (nI 1))) (by omega)
                       rw [bst_f (V := hV t a) (m := n) (k := k) (by rw [hbs]; rintro ⟨z1, z2⟩; omega)] at this
                       rw [hbs] at this
                       exact this)
                    | (have := ih (k + 1) (some (.int (nI (hV t a k)))) (some (.int (nI 0))) (by omega)
                       rw [bst_f (V := hV t a) (m := n) (k := k) (by rw [hbs]; rintro ⟨z1, z2⟩; simp only [pO] at z2; omega)] at this
                       rw [hbs] at this
                       exact this)
                    | (have := ih (k + 1) (some (.int (nI (hV t a k)))) (some (.int (nI 1))) (by omega)
                       rw [bst_f (V := hV t a) (m := n) (k := k) (by rw [hbs]; rintro ⟨z1, z2⟩; simp only [pO] at z2; omega)] at this
                       rw [hbs] at this
                       exact this)
            · refine g_push eX12_hideOf_82 ?_
              refine g_goto eX12_hideOf_83 ?_
              refine g_istore eX12_hideOf_87 rfl ?_
              refine g_iload eX12_hideOf_89 rfl ?_
              refine g_callSp eX12_hideOf_91 kX12_137 (c_ones (m := k) (by omega)) (by rfl) (by rfl) (by exact Nat.le_of_ble_eq_true rfl) (by exact Nat.le_of_ble_eq_true rfl) (by exact Nat.le_of_ble_eq_true rfl) (Nat.le_refl _) (Nat.le_refl _) ?_
              refine g_iload eX12_hideOf_94 rfl ?_
              refine g_icmp_gtN eX12_hideOf_95 (by omega) (by omega) (fun c95 => ?_) (fun c95 => ?_)
              · refine g_iincN eX12_hideOf_111 rfl rfl ?_
                refine g_goto eX12_hideOf_114 ?_
                first
                  | (exfalso; omega)
                  | (have := ih (k + 1) (some (.int (nI (hV t a k)))) (some (.int (nI 1))) (by omega)
                     rw [bst_t (V := hV t a) (m := n) (k := k) (by omega) (by rw [hbs]; first | exact Or.inl (by assumption) | exact Or.inr ⟨by assumption, by assumption⟩)] at this
                     exact this)
                  | (have := ih (k + 1) (some (.int (nI (hV t a k)))) (some (.int (nI 1))) (by omega)
                     rw [bst_f (V := hV t a) (m := n) (k := k) (by rw [hbs]; rintro ⟨z1, z2⟩; omega)] at this
                     rw [hbs] at this
                     exact this)
                  | (have := ih (k + 1) (some (.int (nI (hV t a k)))) (some (.int (nI 0))) (by omega)
                     rw [bst_f (V := hV t a) (m := n) (k := k) (by rw [hbs]; rintro ⟨z1, z2⟩; simp only [pO] at z2; omega)] at this
                     rw [hbs] at this
                     exact this)
                  | (have := ih (k + 1) (some (.int (nI (hV t a k)))) (some (.int (nI 1))) (by omega)
                     rw [bst_f (V := hV t a) (m := n) (k := k) (by rw [hbs]; rintro ⟨z1, z2⟩; simp only [pO] at z2; omega)] at this
                     rw [hbs] at this
                     exact this)
              · refine g_iload eX12_hideOf_98 rfl ?_
                refine g_if_eqN eX12_hideOf_100 (by omega) (fun c100 => ?_) (fun c100 => ?_)
                · refine g_iincN eX12_hideOf_111 rfl rfl ?_
                  refine g_goto eX12_hideOf_114 ?_
                  first
                    | (exfalso; omega)
                    | (have := ih (k + 1) (some (.int (nI (hV t a k)))) (some (.int (nI 1))) (by omega)
                       rw [bst_t (V := hV t a) (m := n) (k := k) (by omega) (by rw [hbs]; first | exact Or.inl (by assumption) | exact Or.inr ⟨by assumption, by assumption⟩)] at this
                       exact this)
                    | (have := ih (k + 1) (some (.int (nI (hV t a k)))) (some (.int (nI 1))) (by omega)
                       rw [bst_f (V := hV t a) (m := n) (k := k) (by rw [hbs]; rintro ⟨z1, z2⟩; omega)] at this
                       rw [hbs] at this
                       exact this)
                    | (have := ih (k + 1) (some (.int (nI (hV t a k)))) (some (.int (nI 0))) (by omega)
                       rw [bst_f (V := hV t a) (m := n) (k := k) (by rw [hbs]; rintro ⟨z1, z2⟩; simp only [pO] at z2; omega)] at this
                       rw [hbs] at this
                       exact this)
                    | (have := ih (k + 1) (some (.int (nI (hV t a k)))) (some (.int (nI 1))) (by omega)
                       rw [bst_f (V := hV t a) (m := n) (k := k) (by rw [hbs]; rintro ⟨z1, z2⟩; simp only [pO] at z2; omega)] at this
                       rw [hbs] at this
                       exact this)
                · refine g_iload eX12_hideOf_103 rfl ?_
                  refine g_istore eX12_hideOf_105 rfl ?_
                  refine g_iload eX12_hideOf_107 rfl ?_
                  refine g_istore eX12_hideOf_109 rfl ?_
                  refine g_iincN eX12_hideOf_111 rfl rfl ?_
                  refine g_goto eX12_hideOf_114 ?_
                  first
                    | (exfalso; omega)
                    | (have := ih (k + 1) (some (.int (nI (hV t a k)))) (some (.int (nI 1))) (by omega)
                       rw [bst_t (V := hV t a) (m := n) (k := k) (by omega) (by rw [hbs]; first | exact Or.inl (by assumption) | exact Or.inr ⟨by assumption, by assumption⟩)] at this
                       exact this)
                    | (have := ih (k + 1) (some (.int (nI (hV t a k)))) (some (.int (nI 1))) (by omega)
                       rw [bst_f (V := hV t a) (m := n) (k := k) (by rw [hbs]; rintro ⟨z1, z2⟩; omega)] at this
                       rw [hbs] at this
                       exact this)
                    | (have := ih (k + 1) (some (.int (nI (hV t a k)))) (some (.int (nI 0))) (by omega)
                       rw [bst_f (V := hV t a) (m := n) (k := k) (by rw [hbs]; rintro ⟨z1, z2⟩; simp only [pO] at z2; omega)] at this
                       rw [hbs] at this
                       exact this)
                    | (have := ih (k + 1) (some (.int (nI (hV t a k)))) (some (.int (nI 1))) (by omega)
                       rw [bst_f (V := hV t a) (m := n) (k := k) (by rw [hbs]; rintro ⟨z1, z2⟩; simp only [pO] at z2; omega)] at this
                       rw [hbs] at this
                       exact this)
  refine g_push (v := -1) eX12_hideOf_0 ?_
  refine g_istore eX12_hideOf_1 rfl ?_
  refine g_push eX12_hideOf_3 ?_
  refine g_istore eX12_hideOf_5 rfl ?_
  refine g_push eX12_hideOf_7 ?_
  refine g_istore eX12_hideOf_8 rfl ?_
  exact key 256 0 _ _ rfl
set_option maxRecDepth 20000 in
theorem m_hide {σ : aH} {t : St} (hI : IM t σ) (hwf : WF t) {x y z : Int32} : MX12_hide 4 0 0 [.ref 25, .int x, .int y, .int z] σ (aPu (some (.int (oHide t x y z))) σ) := by
  refine sX12_hide (Nat.le_of_ble_eq_true rfl) ?_
  have hI' := hI
  have hwf' := hwf
  have hSs := hwf.hS
  obtain ⟨pg, rn, rs, nr, sh, rw, ro, he, hs, th, dr, ks, kr, kh, x2, x3, x4, sd, kc, kl, ka, kg, kd, ha, e25, e26, e27, e28, e29, e30, e31, e32, e33, e34, e35, e36, e37, e38, e39, lpg, lrn, lrs, lnr, lro, lhe, lth, ldr, lks, lkr, lkh, hpg, hnr, ⟨lsh, lrw, lhs, hsh, hrw, hhs⟩, hk0, hk1⟩ := hI
  obtain ⟨w1, w2, w3, w4, w5, ⟨w6, w7, w8, w9, w10, w11, w12⟩, w13, w14, w15, w16, w17⟩ := hwf
  unfold oHide
  cases e : rg x 0 (mnO (crO t)).length with
  | none =>
    dsimp only
    refine g_aload eX12_hide_0 rfl ?_
    refine g_iload eX12_hide_1 rfl ?_
    refine g_callVp (r := (RX12, TX12, 32)) eX12_hide_2 kX12_149 e25 (by rfl) (c_isAccN e25 (by omega) e) (by rfl) (by rfl) (by exact Nat.le_of_ble_eq_true rfl) (by exact Nat.le_of_ble_eq_true rfl) (by exact Nat.le_of_ble_eq_true rfl) (Nat.le_refl _) (Nat.le_refl _) ?_
    refine g_if_neN eX12_hide_5 (by omega) (fun c5 => absurd rfl c5) (fun c5 => ?_)
    refine g_push eX12_hide_8 ?_
    exact g_ret (eX12_hide_10 _) (Nat.le_refl _) (Nat.le_refl _) ⟨rfl, rfl⟩
  | some a =>
    dsimp only
    have e' := e
    obtain ⟨rfl, -, ha⟩ := rg_some e (by omega)
    cases f : rg y 0 9 with
    | none =>
      dsimp only
      refine g_aload eX12_hide_0 rfl ?_
      refine g_iload eX12_hide_1 rfl ?_
      refine g_callVp (r := (RX12, TX12, 32)) eX12_hide_2 kX12_149 e25 (by rfl) (c_isAccT e25 (by omega) e') (by rfl) (by rfl) (by exact Nat.le_of_ble_eq_true rfl) (by exact Nat.le_of_ble_eq_true rfl) (by exact Nat.le_of_ble_eq_true rfl) (Nat.le_refl _) (Nat.le_refl _) ?_
      refine g_if_neN eX12_hide_5 (by omega) (fun c5 => ?_) (fun c5 => absurd c5 (by decide))
      refine g_iload eX12_hide_11 rfl ?_
      refine g_i2l eX12_hide_12 ?_
      refine g_lconst eX12_hide_13 rfl ?_
      refine g_ldc2 eX12_hide_14 lX12_167 ?_
      refine g_callSp eX12_hide_17 kX12_58 (c_inN f rfl rfl) (by rfl) (by rfl) (by exact Nat.le_of_ble_eq_true rfl) (by exact Nat.le_of_ble_eq_true rfl) (by exact Nat.le_of_ble_eq_true rfl) (Nat.le_refl _) (Nat.le_refl _) ?_
      refine g_if_eqN eX12_hide_20 (by omega) (fun c20 => ?_) (fun c20 => absurd rfl c20)
      refine g_push eX12_hide_43 ?_
      exact g_ret (eX12_hide_45 _) (Nat.le_refl _) (Nat.le_refl _) ⟨rfl, rfl⟩
    | some n =>
      dsimp only
      have f' := f
      obtain ⟨rfl, -, hn⟩ := rg_some f
      cases g : rg z 0 2 with
      | none =>
        dsimp only
        refine g_aload eX12_hide_0 rfl ?_
        refine g_iload eX12_hide_1 rfl ?_
        refine g_callVp (r := (RX12, TX12, 32)) eX12_hide_2 kX12_149 e25 (by rfl) (c_isAccT e25 (by omega) e') (by rfl) (by rfl) (by exact Nat.le_of_ble_eq_true rfl) (by exact Nat.le_of_ble_eq_true rfl) (by exact Nat.le_of_ble_eq_true rfl) (Nat.le_refl _) (Nat.le_refl _) ?_
        refine g_if_neN eX12_hide_5 (by omega) (fun c5 => ?_) (fun c5 => absurd c5 (by decide))
        refine g_iload eX12_hide_11 rfl ?_
        refine g_i2l eX12_hide_12 ?_
        refine g_lconst eX12_hide_13 rfl ?_
        refine g_ldc2 eX12_hide_14 lX12_167 ?_
        refine g_callSp eX12_hide_17 kX12_58 (c_inT f' rfl rfl) (by rfl) (by rfl) (by exact Nat.le_of_ble_eq_true rfl) (by exact Nat.le_of_ble_eq_true rfl) (by exact Nat.le_of_ble_eq_true rfl) (Nat.le_refl _) (Nat.le_refl _) ?_
        refine g_if_eqN eX12_hide_20 (by omega) (fun c20 => absurd c20 (by decide)) (fun c20 => ?_)
        refine g_iload eX12_hide_23 rfl ?_
        refine g_i2l eX12_hide_24 ?_
        refine g_lconst eX12_hide_25 rfl ?_
        refine g_lconst eX12_hide_26 rfl ?_
        refine g_callSp eX12_hide_27 kX12_58 (c_inN g rfl rfl) (by rfl) (by rfl) (by exact Nat.le_of_ble_eq_true rfl) (by exact Nat.le_of_ble_eq_true rfl) (by exact Nat.le_of_ble_eq_true rfl) (Nat.le_refl _) (Nat.le_refl _) ?_
        refine g_if_eqN eX12_hide_30 (by omega) (fun c30 => ?_) (fun c30 => absurd rfl c30)
        refine g_push eX12_hide_43 ?_
        exact g_ret (eX12_hide_45 _) (Nat.le_refl _) (Nat.le_refl _) ⟨rfl, rfl⟩
      | some w =>
        dsimp only
        have g' := g
        obtain ⟨rfl, -, hw⟩ := rg_some g
        refine g_aload eX12_hide_0 rfl ?_
        refine g_iload eX12_hide_1 rfl ?_
        refine g_callVp (r := (RX12, TX12, 32)) eX12_hide_2 kX12_149 e25 (by rfl) (c_isAccT e25 (by omega) e') (by rfl) (by rfl) (by exact Nat.le_of_ble_eq_true rfl) (by exact Nat.le_of_ble_eq_true rfl) (by exact Nat.le_of_ble_eq_true rfl) (Nat.le_refl _) (Nat.le_refl _) ?_
        refine g_if_neN eX12_hide_5 (by omega) (fun c5 => ?_) (fun c5 => absurd c5 (by decide))
        refine g_iload eX12_hide_11 rfl ?_
        refine g_i2l eX12_hide_12 ?_
        refine g_lconst eX12_hide_13 rfl ?_
        refine g_ldc2 eX12_hide_14 lX12_167 ?_
        refine g_callSp eX12_hide_17 kX12_58 (c_inT f' rfl rfl) (by rfl) (by rfl) (by exact Nat.le_of_ble_eq_true rfl) (by exact Nat.le_of_ble_eq_true rfl) (by exact Nat.le_of_ble_eq_true rfl) (Nat.le_refl _) (Nat.le_refl _) ?_
        refine g_if_eqN eX12_hide_20 (by omega) (fun c20 => absurd c20 (by decide)) (fun c20 => ?_)
        refine g_iload eX12_hide_23 rfl ?_
        refine g_i2l eX12_hide_24 ?_
        refine g_lconst eX12_hide_25 rfl ?_
        refine g_lconst eX12_hide_26 rfl ?_
        refine g_callSp eX12_hide_27 kX12_58 (c_inT g' rfl rfl) (by rfl) (by rfl) (by exact Nat.le_of_ble_eq_true rfl) (by exact Nat.le_of_ble_eq_true rfl) (by exact Nat.le_of_ble_eq_true rfl) (Nat.le_refl _) (Nat.le_refl _) ?_
        refine g_if_eqN eX12_hide_30 (by omega) (fun c30 => absurd c30 (by decide)) (fun c30 => ?_)
        refine g_aload eX12_hide_33 rfl ?_
        refine g_iload eX12_hide_34 rfl ?_
        refine g_iload eX12_hide_35 rfl ?_
        refine g_iload eX12_hide_36 rfl ?_
        refine g_callVp (r := (RX12, TX12, 32)) eX12_hide_37 kX12_169 e25 (by rfl) (c_hideOf hI' hwf' ha hn hw) (by rfl) (by rfl) (by exact Nat.le_of_ble_eq_true rfl) (by exact Nat.le_of_ble_eq_true rfl) (by exact Nat.le_of_ble_eq_true rfl) (Nat.le_refl _) (Nat.le_refl _) ?_
        refine g_goto eX12_hide_40 ?_
        exact g_ret (eX12_hide_45 _) (Nat.le_refl _) (Nat.le_refl _) ⟨rfl, rfl⟩
