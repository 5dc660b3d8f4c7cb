/-! the reference: listenOf, about, hear, image, restore, count -/
theorem cnt_split (l a : Nat → Bool) : ∀ n, cnt l n = cnt (fun d => l d && a d) n + cnt (fun d => l d && !a d) n
  | 0 => rfl
  | n + 1 => by
    have h := cnt_split l a n
    show cnt l n + (l n).toNat = (cnt (fun d => l d && a d) n + (l n && a n).toNat) + (cnt (fun d => l d && !a d) n + (l n && !a n).toNat)
    cases l n <;> cases a n <;> simp <;> omega
theorem lstn_t {w : Nat → Nat} {k : Nat} (h : w k < (lstn w k).2) : lstn w (k + 1) = (some k, w k) := by
  show (if _ then _ else _) = _
  rw [if_pos h]
theorem lstn_f {w : Nat → Nat} {k : Nat} (h : ¬ w k < (lstn w k).2) : lstn w (k + 1) = lstn w k := by
  show (if _ then _ else _) = _
  rw [if_neg h]
set_option maxRecDepth 20000 in
theorem c_listenOf {σ : aH} {t : St} (hI : IM t σ) (hwf : WF t) {a : Nat} (hia : a < (mnO (crO t)).length) : MX12_listenOf 4 0 0 [.ref 25, .int (nI a)] σ (fun v σ' => v = some (.int (lisF t a)) ∧ EqO [35] σ σ' ∧ ∃ th', th'.length = 10 ∧ σ'[35]? = some (aA th')) := by
  refine sX12_listenOf (Nat.le_of_ble_eq_true rfl) ?_
  have hI' := hI
  have hwf' := hwf
  have hSs := hwf.hS
  obtain ⟨pg, rn, rs, nr, sh, rw, ro, he, hs, th, dr, ks, kr, kh, x2, x3, x4, sd, kc, kl, ka, kg, kd, ha, e25, e26, e27, e28, e29, e30, e31, e32, e33, e34, e35, e36, e37, e38, e39, lpg, lrn, lrs, lnr, lro, lhe, lth, ldr, lks, lkr, lkh, hpg, hnr, ⟨lsh, lrw, lhs, hsh, hrw, hhs⟩, hk0, hk1⟩ := hI
  obtain ⟨w1, w2, w3, w4, w5, ⟨w6, w7, w8, w9, w10, w11, w12⟩, w13, w14, w15, w16, w17⟩ := hwf
  refine g_aload eX12_listenOf_0 rfl ?_
  refine g_iload eX12_listenOf_1 rfl ?_
  refine g_callV0 (r := (RX12, TX12, 32)) eX12_listenOf_2 kX12_143 e25 (by rfl) (c_whichOf hI' hwf' hia) (by rfl) (by rfl) (by exact Nat.le_of_ble_eq_true rfl) (by exact Nat.le_of_ble_eq_true rfl) (by exact Nat.le_of_ble_eq_true rfl) (Nat.le_refl _) (Nat.le_refl _) (fun v2 σ2 hp2 hn2 => ?_)
  obtain ⟨rfl, hE, th2, hl2, q35⟩ := hp2
  have q25 := hE.at (by decide) e25
  have q29 := hE.at (by decide) e29
  have q30 := hE.at (by decide) e30
  have q31 := hE.at (by decide) e31
  have hr1 := (hrw a hia).1
  have hr3 := (hrw a hia).2.2
  have hm := w10 a
  have hpop : popc (lefM t a) = cnt (lefB t a) 5 := popc_msk (by decide)
  have hlb : lefM t a < 32 := msk_lt (lefB t a) 5
  have hc5 := cnt_le (lefB t a) 5
  refine g_istore eX12_listenOf_5 rfl ?_
  refine g_push (v := -1) eX12_listenOf_6 ?_
  refine g_istore eX12_listenOf_7 rfl ?_
  refine g_push eX12_listenOf_8 ?_
  refine g_istore eX12_listenOf_10 rfl ?_
  refine g_push eX12_listenOf_12 ?_
  refine g_istore eX12_listenOf_13 rfl ?_
  by_cases hz : lefM t a = 0
  · have hlz : lisF t a = -1 := if_pos hz
    rw [hz, hlz]
    refine g_iload eX12_listenOf_15 rfl ?_
    refine g_aload eX12_listenOf_17 rfl ?_
    refine g_get eX12_listenOf_18 fX12_84_X12 (by assumption) (by rfl) ?_
    refine g_icmp_geN eX12_listenOf_21 (by omega) (by omega) (fun c21 => ?_) (fun c21 => ?_)
    · refine g_iload eX12_listenOf_156 rfl ?_
      exact g_ret (eX12_listenOf_157 _) (Nat.le_refl _) (Nat.le_refl _) ⟨rfl, hE, th2, hl2, q35⟩
    · refine g_iload eX12_listenOf_24 rfl ?_
      refine g_if_eqN eX12_listenOf_25 (by omega) (fun c25 => ?_) (fun c25 => absurd rfl c25)
      refine g_iload eX12_listenOf_156 rfl ?_
      exact g_ret (eX12_listenOf_157 _) (Nat.le_refl _) (Nat.le_refl _) ⟨rfl, hE, th2, hl2, q35⟩
  · have hlz : lisF t a = oI (lstn (fun k => wrs (lefB t a) (dalB t a k)) (shO (crO t)).length).1 := if_neg hz
    rw [hlz]
    have key : ∀ e k o6 o7, k + e = (shO (crO t)).length → GX12_listenOf 4 0 0 (fun v σ' => v = some (.int (oI (lstn (fun k => wrs (lefB t a) (dalB t a k)) (shO (crO t)).length).1)) ∧ EqO [35] σ σ' ∧ ∃ th', th'.length = 10 ∧ σ'[35]? = some (aA th')) 0 0 15 [some (.ref 25), some (.int (nI a)), some (.int (nI (lefM t a))), some (.int (oI (lstn (fun k => wrs (lefB t a) (dalB t a k)) k).1)), some (.int (nI (lstn (fun k => wrs (lefB t a) (dalB t a k)) k).2)), some (.int (nI k)), o6, o7] [] σ2 := by
      intro e
      induction e with
      | zero =>
        intro k o6 o7 hk
        obtain rfl : k = (shO (crO t)).length := by omega
        have h6 := lstn_le (fun k => wrs (lefB t a) (dalB t a k)) (shO (crO t)).length
        refine g_iload eX12_listenOf_15 rfl ?_
        refine g_aload eX12_listenOf_17 rfl ?_
        refine g_get eX12_listenOf_18 fX12_84_X12 (by assumption) (by rfl) ?_
        refine g_icmp_geN eX12_listenOf_21 (by omega) (by omega) (fun c21 => ?_) (fun c21 => by exfalso; omega)
        refine g_iload eX12_listenOf_156 rfl ?_
        exact g_ret (eX12_listenOf_157 _) (Nat.le_refl _) (Nat.le_refl _) ⟨rfl, hE, th2, hl2, q35⟩
      | succ e ih =>
        intro k o6 o7 hk
        have h6 := lstn_le (fun k => wrs (lefB t a) (dalB t a k)) k
        have hsp := cnt_split (lefB t a) (dalB t a k) 5
        have hwv : wrs (lefB t a) (dalB t a k) = max (cnt (fun d => lefB t a d && dalB t a k d) 5) (cnt (fun d => lefB t a d && !dalB t a k d) 5) := rfl
        have hw5 : wrs (lefB t a) (dalB t a k) ≤ 5 := by omega
        have inner : ∀ e2 j, j + e2 = 5 → GX12_listenOf 4 0 0 (fun v σ' => v = some (.int (oI (lstn (fun k => wrs (lefB t a) (dalB t a k)) (shO (crO t)).length).1)) ∧ EqO [35] σ σ' ∧ ∃ th', th'.length = 10 ∧ σ'[35]? = some (aA th')) 0 0 34 [some (.ref 25), some (.int (nI a)), some (.int (nI (lefM t a))), some (.int (oI (lstn (fun k => wrs (lefB t a) (dalB t a k)) k).1)), some (.int (nI (lstn (fun k => wrs (lefB t a) (dalB t a k)) k).2)), some (.int (nI k)), some (.int (nI (cnt (fun d => lefB t a d && dalB t a k d) j))), some (.int (nI j))] [] σ2 := by
          intro e2
          induction e2 with
          | zero =>
            intro j hj
            obtain rfl : j = 5 := by omega
            refine g_iload eX12_listenOf_34 rfl ?_
            refine g_push eX12_listenOf_36 ?_
            refine g_icmp_geN eX12_listenOf_37 (by omega) (by omega) (fun c37 => ?_) (fun c37 => by exfalso; omega)
            refine g_iload eX12_listenOf_94 rfl ?_
            refine g_iload eX12_listenOf_96 rfl ?_
            refine g_callSp eX12_listenOf_97 kX12_137 (c_ones (m := lefM t a) (by omega)) (by rfl) (by rfl) (by exact Nat.le_of_ble_eq_true rfl) (by exact Nat.le_of_ble_eq_true rfl) (by exact Nat.le_of_ble_eq_true rfl) (Nat.le_refl _) (Nat.le_refl _) ?_
            rw [hpop]
            refine g_iload eX12_listenOf_100 rfl ?_
            refine g_isubN eX12_listenOf_102 (by omega) ?_
            refine g_icmp_leN eX12_listenOf_103 (by omega) (by omega) (fun c103 => ?_) (fun c103 => ?_)
            · refine g_iload eX12_listenOf_111 rfl ?_
              refine g_callSp eX12_listenOf_112 kX12_137 (c_ones (m := lefM t a) (by omega)) (by rfl) (by rfl) (by exact Nat.le_of_ble_eq_true rfl) (by exact Nat.le_of_ble_eq_true rfl) (by exact Nat.le_of_ble_eq_true rfl) (Nat.le_refl _) (Nat.le_refl _) ?_
              rw [hpop]
              refine g_iload eX12_listenOf_115 rfl ?_
              refine g_isubN eX12_listenOf_117 (by omega) ?_
              first
                | rw [show cnt (lefB t a) 5 - cnt (fun d => lefB t a d && dalB t a k d) 5 = wrs (lefB t a) (dalB t a k) by omega]
                | rw [show cnt (fun d => lefB t a d && dalB t a k d) 5 = wrs (lefB t a) (dalB t a k) by omega]
              refine g_istore eX12_listenOf_118 rfl ?_
              refine g_iload eX12_listenOf_120 rfl ?_
              refine g_iload eX12_listenOf_122 rfl ?_
              refine g_icmp_geN eX12_listenOf_124 (by omega) (by omega) (fun c124 => ?_) (fun c124 => ?_)
              · refine g_iload eX12_listenOf_132 rfl ?_
                refine g_istore eX12_listenOf_133 rfl ?_
                refine g_iload eX12_listenOf_134 rfl ?_
                refine g_iload eX12_listenOf_136 rfl ?_
                refine g_icmp_geN eX12_listenOf_138 (by omega) (by omega) (fun c138 => ?_) (fun c138 => ?_)
                · refine g_iload eX12_listenOf_146 rfl ?_
                  refine g_istore eX12_listenOf_148 rfl ?_
                  refine g_iincN eX12_listenOf_150 rfl rfl ?_
                  refine g_goto eX12_listenOf_153 ?_
                  first
                    | (exfalso; omega)
                    | (have := ih (k + 1) (some (.int (nI (cnt (fun d => lefB t a d && dalB t a k d) 5)))) (some (.int (nI (wrs (lefB t a) (dalB t a k))))) (by omega)
                       rw [lstn_t (w := (fun k => wrs (lefB t a) (dalB t a k))) (k := k) (show wrs (lefB t a) (dalB t a k) < (lstn (fun k => wrs (lefB t a) (dalB t a k)) k).2 by omega)] at this
                       exact this)
                    | (have := ih (k + 1) (some (.int (nI (wrs (lefB t a) (dalB t a k))))) (some (.int (nI (wrs (lefB t a) (dalB t a k))))) (by omega)
                       rw [lstn_t (w := (fun k => wrs (lefB t a) (dalB t a k))) (k := k) (show wrs (lefB t a) (dalB t a k) < (lstn (fun k => wrs (lefB t a) (dalB t a k)) k).2 by omega)] at this
                       exact this)
                    | (have := ih (k + 1) (some (.int (nI (cnt (fun d => lefB t a d && dalB t a k d) 5)))) (some (.int (nI (wrs (lefB t a) (dalB t a k))))) (by omega)
                       rw [lstn_f (w := (fun k => wrs (lefB t a) (dalB t a k))) (k := k) (show ¬ wrs (lefB t a) (dalB t a k) < (lstn (fun k => wrs (lefB t a) (dalB t a k)) k).2 by omega)] at this
                       exact this)
                    | (have := ih (k + 1) (some (.int (nI (wrs (lefB t a) (dalB t a k))))) (some (.int (nI (wrs (lefB t a) (dalB t a k))))) (by omega)
                       rw [lstn_f (w := (fun k => wrs (lefB t a) (dalB t a k))) (k := k) (show ¬ wrs (lefB t a) (dalB t a k) < (lstn (fun k => wrs (lefB t a) (dalB t a k)) k).2 by omega)] at this
                       exact this)
                · refine g_iload eX12_listenOf_141 rfl ?_
                  refine g_goto eX12_listenOf_143 ?_
                  refine g_istore eX12_listenOf_148 rfl ?_
                  refine g_iincN eX12_listenOf_150 rfl rfl ?_
                  refine g_goto eX12_listenOf_153 ?_
                  first
                    | (exfalso; omega)
                    | (have := ih (k + 1) (some (.int (nI (cnt (fun d => lefB t a d && dalB t a k d) 5)))) (some (.int (nI (wrs (lefB t a) (dalB t a k))))) (by omega)
                       rw [lstn_t (w := (fun k => wrs (lefB t a) (dalB t a k))) (k := k) (show wrs (lefB t a) (dalB t a k) < (lstn (fun k => wrs (lefB t a) (dalB t a k)) k).2 by omega)] at this
                       exact this)
                    | (have := ih (k + 1) (some (.int (nI (wrs (lefB t a) (dalB t a k))))) (some (.int (nI (wrs (lefB t a) (dalB t a k))))) (by omega)
                       rw [lstn_t (w := (fun k => wrs (lefB t a) (dalB t a k))) (k := k) (show wrs (lefB t a) (dalB t a k) < (lstn (fun k => wrs (lefB t a) (dalB t a k)) k).2 by omega)] at this
                       exact this)
                    | (have := ih (k + 1) (some (.int (nI (cnt (fun d => lefB t a d && dalB t a k d) 5)))) (some (.int (nI (wrs (lefB t a) (dalB t a k))))) (by omega)
                       rw [lstn_f (w := (fun k => wrs (lefB t a) (dalB t a k))) (k := k) (show ¬ wrs (lefB t a) (dalB t a k) < (lstn (fun k => wrs (lefB t a) (dalB t a k)) k).2 by omega)] at this
                       exact this)
                    | (have := ih (k + 1) (some (.int (nI (wrs (lefB t a) (dalB t a k))))) (some (.int (nI (wrs (lefB t a) (dalB t a k))))) (by omega)
                       rw [lstn_f (w := (fun k => wrs (lefB t a) (dalB t a k))) (k := k) (show ¬ wrs (lefB t a) (dalB t a k) < (lstn (fun k => wrs (lefB t a) (dalB t a k)) k).2 by omega)] at this
                       exact this)
              · refine g_iload eX12_listenOf_127 rfl ?_
                refine g_goto eX12_listenOf_129 ?_
                refine g_istore eX12_listenOf_133 rfl ?_
                refine g_iload eX12_listenOf_134 rfl ?_
                refine g_iload eX12_listenOf_136 rfl ?_
                refine g_icmp_geN eX12_listenOf_138 (by omega) (by omega) (fun c138 => ?_) (fun c138 => ?_)
                · refine g_iload eX12_listenOf_146 rfl ?_
                  refine g_istore eX12_listenOf_148 rfl ?_
                  refine g_iincN eX12_listenOf_150 rfl rfl ?_
                  refine g_goto eX12_listenOf_153 ?_
                  first
                    | (exfalso; omega)
                    | (have := ih (k + 1) (some (.int (nI (cnt (fun d => lefB t a d && dalB t a k d) 5)))) (some (.int (nI (wrs (lefB t a) (dalB t a k))))) (by omega)
                       rw [lstn_t (w := (fun k => wrs (lefB t a) (dalB t a k))) (k := k) (show wrs (lefB t a) (dalB t a k) < (lstn (fun k => wrs (lefB t a) (dalB t a k)) k).2 by omega)] at this
                       exact this)
                    | (have := ih (k + 1) (some (.int (nI (wrs (lefB t a) (dalB t a k))))) (some (.int (nI (wrs (lefB t a) (dalB t a k))))) (by omega)
                       rw [lstn_t (w := (fun k => wrs (lefB t a) (dalB t a k))) (k := k) (show wrs (lefB t a) (dalB t a k) < (lstn (fun k => wrs (lefB t a) (dalB t a k)) k).2 by omega)] at this
                       exact this)
                    | (have := ih (k + 1) (some (.int (nI (cnt (fun d => lefB t a d && dalB t a k d) 5)))) (some (.int (nI (wrs (lefB t a) (dalB t a k))))) (by omega)
                       rw [lstn_f (w := (fun k => wrs (lefB t a) (dalB t a k))) (k := k) (show ¬ wrs (lefB t a) (dalB t a k) < (lstn (fun k => wrs (lefB t a) (dalB t a k)) k).2 by omega)] at this
                       exact this)
                    | (have := ih (k + 1) (some (.int (nI (wrs (lefB t a) (dalB t a k))))) (some (.int (nI (wrs (lefB t a) (dalB t a k))))) (by omega)
                       rw [lstn_f (w := (fun k => wrs (lefB t a) (dalB t a k))) (k := k) (show ¬ wrs (lefB t a) (dalB t a k) < (lstn (fun k => wrs (lefB t a) (dalB t a k)) k).2 by omega)] at this
                       exact this)
                · refine g_iload eX12_listenOf_141 rfl ?_
                  refine g_goto eX12_listenOf_143 ?_
                  refine g_istore eX12_listenOf_148 rfl ?_
                  refine g_iincN eX12_listenOf_150 rfl rfl ?_
                  refine g_goto eX12_listenOf_153 ?_
                  first
                    | (exfalso; omega)
                    | (have := ih (k + 1) (some (.int (nI (cnt (fun d => lefB t a d && dalB t a k d) 5)))) (some (.int (nI (wrs (lefB t a) (dalB t a k))))) (by omega)
                       rw [lstn_t (w := (fun k => wrs (lefB t a) (dalB t a k))) (k := k) (show wrs (lefB t a) (dalB t a k) < (lstn (fun k => wrs (lefB t a) (dalB t a k)) k).2 by omega)] at this
                       exact this)
                    | (have := ih (k + 1) (some (.int (nI (wrs (lefB t a) (dalB t a k))))) (some (.int (nI (wrs (lefB t a) (dalB t a k))))) (by omega)
                       rw [lstn_t (w := (fun k => wrs (lefB t a) (dalB t a k))) (k := k) (show wrs (lefB t a) (dalB t a k) < (lstn (fun k => wrs (lefB t a) (dalB t a k)) k).2 by omega)] at this
                       exact this)
                    | (have := ih (k + 1) (some (.int (nI (cnt (fun d => lefB t a d && dalB t a k d) 5)))) (some (.int (nI (wrs (lefB t a) (dalB t a k))))) (by omega)
                       rw [lstn_f (w := (fun k => wrs (lefB t a) (dalB t a k))) (k := k) (show ¬ wrs (lefB t a) (dalB t a k) < (lstn (fun k => wrs (lefB t a) (dalB t a k)) k).2 by omega)] at this
                       exact this)
                    | (have := ih (k + 1) (some (.int (nI (wrs (lefB t a) (dalB t a k))))) (some (.int (nI (wrs (lefB t a) (dalB t a k))))) (by omega)
                       rw [lstn_f (w := (fun k => wrs (lefB t a) (dalB t a k))) (k := k) (show ¬ wrs (lefB t a) (dalB t a k) < (lstn (fun k => wrs (lefB t a) (dalB t a k)) k).2 by omega)] at this
                       exact this)
            · refine g_iload eX12_listenOf_106 rfl ?_
              refine g_goto eX12_listenOf_108 ?_
              first
                | rw [show cnt (lefB t a) 5 - cnt (fun d => lefB t a d && dalB t a k d) 5 = wrs (lefB t a) (dalB t a k) by omega]
                | rw [show cnt (fun d => lefB t a d && dalB t a k d) 5 = wrs (lefB t a) (dalB t a k) by omega]
              refine g_istore eX12_listenOf_118 rfl ?_
              refine g_iload eX12_listenOf_120 rfl ?_
              refine g_iload eX12_listenOf_122 rfl ?_
              refine g_icmp_geN eX12_listenOf_124 (by omega) (by omega) (fun c124 => ?_) (fun c124 => ?_)
              · refine g_iload eX12_listenOf_132 rfl ?_
                refine g_istore eX12_listenOf_133 rfl ?_
                refine g_iload eX12_listenOf_134 rfl ?_
                refine g_iload eX12_listenOf_136 rfl ?_
                refine g_icmp_geN eX12_listenOf_138 (by omega) (by omega) (fun c138 => ?_) (fun c138 => ?_)
                · refine g_iload eX12_listenOf_146 rfl ?_
                  refine g_istore eX12_listenOf_148 rfl ?_
                  refine g_iincN eX12_listenOf_150 rfl rfl ?_
                  refine g_goto eX12_listenOf_153 ?_
                  first
                    | (exfalso; omega)
                    | (have := ih (k + 1) (some (.int (nI (cnt (fun d => lefB t a d && dalB t a k d) 5)))) (some (.int (nI (wrs (lefB t a) (dalB t a k))))) (by omega)
                       rw [lstn_t (w := (fun k => wrs (lefB t a) (dalB t a k))) (k := k) (show wrs (lefB t a) (dalB t a k) < (lstn (fun k => wrs (lefB t a) (dalB t a k)) k).2 by omega)] at this
                       exact this)
                    | (have := ih (k + 1) (some (.int (nI (wrs (lefB t a) (dalB t a k))))) (some (.int (nI (wrs (lefB t a) (dalB t a k))))) (by omega)
                       rw [lstn_t (w := (fun k => wrs (lefB t a) (dalB t a k))) (k := k) (show wrs (lefB t a) (dalB t a k) < (lstn (fun k => wrs (lefB t a) (dalB t a k)) k).2 by omega)] at this
                       exact this)
                    | (have := ih (k + 1) (some (.int (nI (cnt (fun d => lefB t a d && dalB t a k d) 5)))) (some (.int (nI (wrs (lefB t a) (dalB t a k))))) (by omega)
                       rw [lstn_f (w := (fun k => wrs (lefB t a) (dalB t a k))) (k := k) (show ¬ wrs (lefB t a) (dalB t a k) < (lstn (fun k => wrs (lefB t a) (dalB t a k)) k).2 by omega)] at this
                       exact this)
                    | (have := ih (k + 1) (some (.int (nI (wrs (lefB t a) (dalB t a k))))) (some (.int (nI (wrs (lefB t a) (dalB t a k))))) (by omega)
                       rw [lstn_f (w := (fun k => wrs (lefB t a) (dalB t a k))) (k := k) (show ¬ wrs (lefB t a) (dalB t a k) < (lstn (fun k => wrs (lefB t a) (dalB t a k)) k).2 by omega)] at this
                       exact this)
                · refine g_iload eX12_listenOf_141 rfl ?_
                  refine g_goto eX12_listenOf_143 ?_
                  refine g_istore eX12_listenOf_148 rfl ?_
                  refine g_iincN eX12_listenOf_150 rfl rfl ?_
                  refine g_goto eX12_listenOf_153 ?_
                  first
                    | (exfalso; omega)
                    | (have := ih (k + 1) (some (.int (nI (cnt (fun d => lefB t a d && dalB t a k d) 5)))) (some (.int (nI (wrs (lefB t a) (dalB t a k))))) (by omega)
                       rw [lstn_t (w := (fun k => wrs (lefB t a) (dalB t a k))) (k := k) (show wrs (lefB t a) (dalB t a k) < (lstn (fun k => wrs (lefB t a) (dalB t a k)) k).2 by omega)] at this
                       exact this)
                    | (have := ih (k + 1) (some (.int (nI (wrs (lefB t a) (dalB t a k))))) (some (.int (nI (wrs (lefB t a) (dalB t a k))))) (by omega)
                       rw [lstn_t (w := (fun k => wrs (lefB t a) (dalB t a k))) (k := k) (show wrs (lefB t a) (dalB t a k) < (lstn (fun k => wrs (lefB t a) (dalB t a k)) k).2 by omega)] at this
                       exact this)
                    | (have := ih (k + 1) (some (.int (nI (cnt (fun d => lefB t a d && dalB t a k d) 5)))) (some (.int (nI (wrs (lefB t a) (dalB t a k))))) (by omega)
                       rw [lstn_f (w := (fun k => wrs (lefB t a) (dalB t a k))) (k := k) (show ¬ wrs (lefB t a) (dalB t a k) < (lstn (fun k => wrs (lefB t a) (dalB t a k)) k).2 by omega)] at this
                       exact this)
                    | (have := ih (k + 1) (some (.int (nI (wrs (lefB t a) (dalB t a k))))) (some (.int (nI (wrs (lefB t a) (dalB t a k))))) (by omega)
                       rw [lstn_f (w := (fun k => wrs (lefB t a) (dalB t a k))) (k := k) (show ¬ wrs (lefB t a) (dalB t a k) < (lstn (fun k => wrs (lefB t a) (dalB t a k)) k).2 by omega)] at this
                       exact this)
              · refine g_iload eX12_listenOf_127 rfl ?_
                refine g_goto eX12_listenOf_129 ?_
                refine g_istore eX12_listenOf_133 rfl ?_
                refine g_iload eX12_listenOf_134 rfl ?_
                refine g_iload eX12_listenOf_136 rfl ?_
                refine g_icmp_geN eX12_listenOf_138 (by omega) (by omega) (fun c138 => ?_) (fun c138 => ?_)
                · refine g_iload eX12_listenOf_146 rfl ?_
                  refine g_istore eX12_listenOf_148 rfl ?_
                  refine g_iincN eX12_listenOf_150 rfl rfl ?_
                  refine g_goto eX12_listenOf_153 ?_
                  first
                    | (exfalso; omega)
                    | (have := ih (k + 1) (some (.int (nI (cnt (fun d => lefB t a d && dalB t a k d) 5)))) (some (.int (nI (wrs (lefB t a) (dalB t a k))))) (by omega)
                       rw [lstn_t (w := (fun k => wrs (lefB t a) (dalB t a k))) (k := k) (show wrs (lefB t a) (dalB t a k) < (lstn (fun k => wrs (lefB t a) (dalB t a k)) k).2 by omega)] at this
                       exact this)
                    | (have := ih (k + 1) (some (.int (nI (wrs (lefB t a) (dalB t a k))))) (some (.int (nI (wrs (lefB t a) (dalB t a k))))) (by omega)
                       rw [lstn_t (w := (fun k => wrs (lefB t a) (dalB t a k))) (k := k) (show wrs (lefB t a) (dalB t a k) < (lstn (fun k => wrs (lefB t a) (dalB t a k)) k).2 by omega)] at this
                       exact this)
                    | (have := ih (k + 1) (some (.int (nI (cnt (fun d => lefB t a d && dalB t a k d) 5)))) (some (.int (nI (wrs (lefB t a) (dalB t a k))))) (by omega)
                       rw [lstn_f (w := (fun k => wrs (lefB t a) (dalB t a k))) (k := k) (show ¬ wrs (lefB t a) (dalB t a k) < (lstn (fun k => wrs (lefB t a) (dalB t a k)) k).2 by omega)] at this
                       exact this)
                    | (have := ih (k + 1) (some (.int (nI (wrs (lefB t a) (dalB t a k))))) (some (.int (nI (wrs (lefB t a) (dalB t a k))))) (by omega)
                       rw [lstn_f (w := (fun k => wrs (lefB t a) (dalB t a k))) (k := k) (show ¬ wrs (lefB t a) (dalB t a k) < (lstn (fun k => wrs (lefB t a) (dalB t a k)) k).2 by omega)] at this
                       exact this)
                · refine g_iload eX12_listenOf_141 rfl ?_
                  refine g_goto eX12_listenOf_143 ?_
                  refine g_istore eX12_listenOf_148 rfl ?_
                  refine g_iincN eX12_listenOf_150 rfl rfl ?_
                  refine g_goto eX12_listenOf_153 ?_
                  first
                    | (exfalso; omega)
                    | (have := ih (k + 1) (some (.int (nI (cnt (fun d => lefB t a d && dalB t a k d) 5)))) (some (.int (nI (wrs (lefB t a) (dalB t a k))))) (by omega)
                       rw [lstn_t (w := (fun k => wrs (lefB t a) (dalB t a k))) (k := k) (show wrs (lefB t a) (dalB t a k) < (lstn (fun k => wrs (lefB t a) (dalB t a k)) k).2 by omega)] at this
                       exact this)
                    | (have := ih (k + 1) (some (.int (nI (wrs (lefB t a) (dalB t a k))))) (some (.int (nI (wrs (lefB t a) (dalB t a k))))) (by omega)
                       rw [lstn_t (w := (fun k => wrs (lefB t a) (dalB t a k))) (k := k) (show wrs (lefB t a) (dalB t a k) < (lstn (fun k => wrs (lefB t a) (dalB t a k)) k).2 by omega)] at this
                       exact this)
                    | (have := ih (k + 1) (some (.int (nI (cnt (fun d => lefB t a d && dalB t a k d) 5)))) (some (.int (nI (wrs (lefB t a) (dalB t a k))))) (by omega)
                       rw [lstn_f (w := (fun k => wrs (lefB t a) (dalB t a k))) (k := k) (show ¬ wrs (lefB t a) (dalB t a k) < (lstn (fun k => wrs (lefB t a) (dalB t a k)) k).2 by omega)] at this
                       exact this)
                    | (have := ih (k + 1) (some (.int (nI (wrs (lefB t a) (dalB t a k))))) (some (.int (nI (wrs (lefB t a) (dalB t a k))))) (by omega)
                       rw [lstn_f (w := (fun k => wrs (lefB t a) (dalB t a k))) (k := k) (show ¬ wrs (lefB t a) (dalB t a k) < (lstn (fun k => wrs (lefB t a) (dalB t a k)) k).2 by omega)] at this
                       exact this)
          | succ e2 ih2 =>
            intro j hj
            have hb : nr.getD j 0 < 256 := by rw [hnr _ (by omega)]; exact w4 _
            have hal : altA (manO (crO t) a).1 (nr.getD j 0) (manO (crO t) a).2.2 (shW sh) k = dalB t a k j := by
              rw [hnr _ (by omega)]
              exact altA_congr (fun i hi => hsh i (by omega))
            have htb : (lefM t a).testBit j = lefB t a j := by
              unfold lefM
              rw [msk_tb, decide_eq_true (show j < 5 by omega)]
              rfl
            refine g_iload eX12_listenOf_34 rfl ?_
            refine g_push eX12_listenOf_36 ?_
            refine g_icmp_geN eX12_listenOf_37 (by omega) (by omega) (fun c37 => by exfalso; omega) (fun c37 => ?_)
            refine g_iload eX12_listenOf_40 rfl ?_
            refine g_aload eX12_listenOf_42 rfl ?_
            refine g_aload eX12_listenOf_43 rfl ?_
            refine g_get eX12_listenOf_44 fX12_25_X12 q25 (by rfl) ?_
            refine g_push eX12_listenOf_47 ?_
            refine g_iload eX12_listenOf_48 rfl ?_
            refine g_imulN eX12_listenOf_49 ?_
            refine g_ialdN eX12_listenOf_50 q31 (by omega) (by omega) ?_
            rw [hr1]
            refine g_iload eX12_listenOf_51 rfl ?_
            refine g_aload eX12_listenOf_53 rfl ?_
            refine g_get eX12_listenOf_54 fX12_25_X12 q25 (by rfl) ?_
            refine g_push eX12_listenOf_57 ?_
            refine g_iload eX12_listenOf_58 rfl ?_
            refine g_imulN eX12_listenOf_59 ?_
            refine g_push eX12_listenOf_60 ?_
            refine g_iaddN eX12_listenOf_61 ?_
            refine g_ialdN eX12_listenOf_62 q31 (by omega) (by omega) ?_
            rw [hr3]
            refine g_aload eX12_listenOf_63 rfl ?_
            refine g_get eX12_listenOf_64 fX12_22_X12 q25 (by rfl) ?_
            refine g_iload eX12_listenOf_67 rfl ?_
            refine g_callVp (r := (RX12, TX12, 32)) eX12_listenOf_69 kX12_125 q25 (by rfl) (c_alters (hides := (manO (crO t) a).2.2) (k := k) q25 q29 lnr q30 (by omega) hm.1 (by omega) hb (by omega) (by omega) (fun i hi => by rw [hsh i (by omega)]; exact w7 i)) (by rfl) (by rfl) (by exact Nat.le_of_ble_eq_true rfl) (by exact Nat.le_of_ble_eq_true rfl) (by exact Nat.le_of_ble_eq_true rfl) (Nat.le_refl _) (Nat.le_refl _) ?_
            rw [hal]
            refine g_if_eqN eX12_listenOf_72 (bt_lt _) (fun c72 => ?_) (fun c72 => ?_)
            · refine g_push eX12_listenOf_84 ?_
              refine g_iaddN eX12_listenOf_85 ?_
              refine g_istore eX12_listenOf_86 rfl ?_
              refine g_iincN eX12_listenOf_88 rfl rfl ?_
              refine g_goto eX12_listenOf_91 ?_
              have := ih2 (j + 1) (by omega)
              rw [show (cnt (fun d => lefB t a d && dalB t a k d) (j + 1)) = (cnt (fun d => lefB t a d && dalB t a k d) j) + (lefB t a j && dalB t a k j).toNat from rfl] at this
              first
                | (rw [b_0 c72, Bool.and_false] at this; exact this)
                | (rw [b_n0 c72, Bool.and_true] at this; exact this)
            · refine g_iload eX12_listenOf_75 rfl ?_
              refine g_iload eX12_listenOf_76 rfl ?_
              refine g_ishrN eX12_listenOf_78 (by omega) (by omega) ?_
              refine g_push eX12_listenOf_79 ?_
              refine g_iandN eX12_listenOf_80 ?_
              rw [nbit, htb]
              refine g_goto eX12_listenOf_81 ?_
              refine g_iaddN eX12_listenOf_85 ?_
              refine g_istore eX12_listenOf_86 rfl ?_
              refine g_iincN eX12_listenOf_88 rfl rfl ?_
              refine g_goto eX12_listenOf_91 ?_
              have := ih2 (j + 1) (by omega)
              rw [show (cnt (fun d => lefB t a d && dalB t a k d) (j + 1)) = (cnt (fun d => lefB t a d && dalB t a k d) j) + (lefB t a j && dalB t a k j).toNat from rfl] at this
              first
                | (rw [b_0 c72, Bool.and_false] at this; exact this)
                | (rw [b_n0 c72, Bool.and_true] at this; exact this)
        refine g_iload eX12_listenOf_15 rfl ?_
        refine g_aload eX12_listenOf_17 rfl ?_
        refine g_get eX12_listenOf_18 fX12_84_X12 (by assumption) (by rfl) ?_
        refine g_icmp_geN eX12_listenOf_21 (by omega) (by omega) (fun c21 => by exfalso; omega) (fun c21 => ?_)
        refine g_iload eX12_listenOf_24 rfl ?_
        refine g_if_eqN eX12_listenOf_25 (by omega) (fun c25 => absurd c25 hz) (fun c25 => ?_)
        refine g_push eX12_listenOf_28 ?_
        refine g_istore eX12_listenOf_29 rfl ?_
        refine g_push eX12_listenOf_31 ?_
        refine g_istore eX12_listenOf_32 rfl ?_
        exact inner 5 0 rfl
    exact key (shO (crO t)).length 0 _ _ (by omega)
set_option maxRecDepth 20000 in
theorem c_tell {σ : aH} {t : St} (hI : IM t σ) (hwf : WF t) {a : Nat} (hia : a < (mnO (crO t)).length) {w : Nat} (hw : w < 8) : MX12_tell 5 0 0 [.ref 25, .int (nI a), .int (nI w)] σ (fun v σ' => v = some (.int (oTell t a w)) ∧ IM t σ' ∧ FrM σ σ') := by
  refine sX12_tell (Nat.le_of_ble_eq_true rfl) ?_
  have hI' := hI
  have hwf' := hwf
  have hSs := hwf.hS
  obtain ⟨pg, rn, rs, nr, sh, rw, ro, he, hs, th, dr, ks, kr, kh, x2, x3, x4, sd, kc, kl, ka, kg, kd, ha, e25, e26, e27, e28, e29, e30, e31, e32, e33, e34, e35, e36, e37, e38, e39, lpg, lrn, lrs, lnr, lro, lhe, lth, ldr, lks, lkr, lkh, hpg, hnr, ⟨lsh, lrw, lhs, hsh, hrw, hhs⟩, hk0, hk1⟩ := hI
  obtain ⟨w1, w2, w3, w4, w5, ⟨w6, w7, w8, w9, w10, w11, w12⟩, w13, w14, w15, w16, w17⟩ := hwf
  have hr := hrw a hia
  have hm := w10 a
  have hlt := manM_lt t a (shW (shO (crO t))) w6
  rcases (show w = 0 ∨ w = 1 ∨ w = 2 ∨ w = 3 ∨ w = 4 ∨ w = 5 ∨ w = 6 ∨ w = 7 by omega) with rfl | rfl | rfl | rfl | rfl | rfl | rfl | rfl
  · refine g_iload eX12_tell_0 rfl ?_
    refine g_tswIn (off := 47) (tgt := 48) eX12_tell_1 (by decide +kernel) (by decide +kernel) (by decide +kernel) (by decide) ?_
    refine g_aload eX12_tell_48 rfl ?_
    refine g_get eX12_tell_49 fX12_25_X12 e25 (by rfl) ?_
    refine g_push eX12_tell_52 ?_
    refine g_iload eX12_tell_53 rfl ?_
    refine g_imulN eX12_tell_54 ?_
    refine g_iload eX12_tell_55 rfl ?_
    refine g_iaddN eX12_tell_56 ?_
    refine g_ialdN eX12_tell_57 e31 (by omega) (by omega) ?_
    rw [Nat.add_zero, hr.1]
    exact g_ret (eX12_tell_58 _) (Nat.le_refl _) (Nat.le_refl _) ⟨rfl, hI', EqO.rf⟩
  · refine g_iload eX12_tell_0 rfl ?_
    refine g_tswIn (off := 47) (tgt := 48) eX12_tell_1 (by decide +kernel) (by decide +kernel) (by decide +kernel) (by decide) ?_
    refine g_aload eX12_tell_48 rfl ?_
    refine g_get eX12_tell_49 fX12_25_X12 e25 (by rfl) ?_
    refine g_push eX12_tell_52 ?_
    refine g_iload eX12_tell_53 rfl ?_
    refine g_imulN eX12_tell_54 ?_
    refine g_iload eX12_tell_55 rfl ?_
    refine g_iaddN eX12_tell_56 ?_
    refine g_ialdN eX12_tell_57 e31 (by omega) (by omega) ?_
    rw [hr.2.1]
    exact g_ret (eX12_tell_58 _) (Nat.le_refl _) (Nat.le_refl _) ⟨rfl, hI', EqO.rf⟩
  · refine g_iload eX12_tell_0 rfl ?_
    refine g_tswIn (off := 58) (tgt := 59) eX12_tell_1 (by decide +kernel) (by decide +kernel) (by decide +kernel) (by decide) ?_
    refine g_aload eX12_tell_59 rfl ?_
    refine g_iload eX12_tell_60 rfl ?_
    refine g_callVp (r := (RX12, TX12, 32)) eX12_tell_61 kX12_133 e25 (by rfl) (c_altersOf hI' hwf' hia) (by rfl) (by rfl) (by exact Nat.le_of_ble_eq_true rfl) (by exact Nat.le_of_ble_eq_true rfl) (by exact Nat.le_of_ble_eq_true rfl) (Nat.le_refl _) (Nat.le_refl _) ?_
    exact g_ret (eX12_tell_64 _) (Nat.le_refl _) (Nat.le_refl _) ⟨rfl, hI', EqO.rf⟩
  · refine g_iload eX12_tell_0 rfl ?_
    refine g_tswIn (off := 64) (tgt := 65) eX12_tell_1 (by decide +kernel) (by decide +kernel) (by decide +kernel) (by decide) ?_
    refine g_aload eX12_tell_65 rfl ?_
    refine g_iload eX12_tell_66 rfl ?_
    refine g_callVp (r := (RX12, TX12, 32)) eX12_tell_67 kX12_133 e25 (by rfl) (c_altersOf hI' hwf' hia) (by rfl) (by rfl) (by exact Nat.le_of_ble_eq_true rfl) (by exact Nat.le_of_ble_eq_true rfl) (by exact Nat.le_of_ble_eq_true rfl) (Nat.le_refl _) (Nat.le_refl _) ?_
    refine g_callSp eX12_tell_70 kX12_137 (c_ones (Nat.lt_trans hlt (by decide))) (by rfl) (by rfl) (by exact Nat.le_of_ble_eq_true rfl) (by exact Nat.le_of_ble_eq_true rfl) (by exact Nat.le_of_ble_eq_true rfl) (Nat.le_refl _) (Nat.le_refl _) ?_
    exact g_ret (eX12_tell_73 _) (Nat.le_refl _) (Nat.le_refl _) ⟨rfl, hI', EqO.rf⟩
  · refine g_iload eX12_tell_0 rfl ?_
    refine g_tswIn (off := 73) (tgt := 74) eX12_tell_1 (by decide +kernel) (by decide +kernel) (by decide +kernel) (by decide) ?_
    refine g_aload eX12_tell_74 rfl ?_
    refine g_iload eX12_tell_75 rfl ?_
    refine g_callVp (r := (RX12, TX12, 32)) eX12_tell_76 kX12_140 e25 (by rfl) (c_hangs hI' hwf' hia) (by rfl) (by rfl) (by exact Nat.le_of_ble_eq_true rfl) (by exact Nat.le_of_ble_eq_true rfl) (by exact Nat.le_of_ble_eq_true rfl) (Nat.le_refl _) (Nat.le_refl _) ?_
    refine g_if_eqN eX12_tell_79 (bt_lt _) (fun c79 => ?_) (fun c79 => ?_)
    · refine g_push eX12_tell_86 ?_
      exact g_ret (eX12_tell_87 _) (Nat.le_refl _) (Nat.le_refl _) (by first | (refine ⟨?_, hI', EqO.rf⟩; show _ = some (Value.int (nI (decide (lmO (crO t) ≤ popc (altM t a))).toNat)); rw [b_n0 c79]; rfl) | (refine ⟨?_, hI', EqO.rf⟩; show _ = some (Value.int (nI (decide (lmO (crO t) ≤ popc (altM t a))).toNat)); rw [b_0 c79]; rfl))
    · refine g_push eX12_tell_82 ?_
      refine g_goto eX12_tell_83 ?_
      exact g_ret (eX12_tell_87 _) (Nat.le_refl _) (Nat.le_refl _) (by first | (refine ⟨?_, hI', EqO.rf⟩; show _ = some (Value.int (nI (decide (lmO (crO t) ≤ popc (altM t a))).toNat)); rw [b_n0 c79]; rfl) | (refine ⟨?_, hI', EqO.rf⟩; show _ = some (Value.int (nI (decide (lmO (crO t) ≤ popc (altM t a))).toNat)); rw [b_0 c79]; rfl))
  · refine g_iload eX12_tell_0 rfl ?_
    refine g_tswIn (off := 87) (tgt := 88) eX12_tell_1 (by decide +kernel) (by decide +kernel) (by decide +kernel) (by decide) ?_
    refine g_aload eX12_tell_88 rfl ?_
    refine g_get eX12_tell_89 fX12_25_X12 e25 (by rfl) ?_
    refine g_push eX12_tell_92 ?_
    refine g_iload eX12_tell_93 rfl ?_
    refine g_imulN eX12_tell_94 ?_
    refine g_push eX12_tell_95 ?_
    refine g_iaddN eX12_tell_96 ?_
    refine g_ialdN eX12_tell_97 e31 (by omega) (by omega) ?_
    rw [hr.2.2]
    exact g_ret (eX12_tell_98 _) (Nat.le_refl _) (Nat.le_refl _) ⟨rfl, hI', EqO.rf⟩
  · refine g_iload eX12_tell_0 rfl ?_
    refine g_tswIn (off := 98) (tgt := 99) eX12_tell_1 (by decide +kernel) (by decide +kernel) (by decide +kernel) (by decide) ?_
    refine g_aload eX12_tell_99 rfl ?_
    refine g_iload eX12_tell_100 rfl ?_
    refine g_callV0 (r := (RX12, TX12, 32)) eX12_tell_101 kX12_143 e25 (by rfl) (c_whichOf hI' hwf' hia) (by rfl) (by rfl) (by exact Nat.le_of_ble_eq_true rfl) (by exact Nat.le_of_ble_eq_true rfl) (by exact Nat.le_of_ble_eq_true rfl) (Nat.le_refl _) (Nat.le_refl _) (fun v101 σ101 hp101 hn101 => ?_)
    obtain ⟨rfl, hE, th2, hl2, q35⟩ := hp101
    exact g_ret (eX12_tell_104 _) (Nat.le_refl _) (Nat.le_refl _) ⟨rfl, ⟨_, _, _, _, _, _, _, _, _, _, _, _, _, _, _, _, _, _, _, _, _, _, _, _, hE.at (by decide) e25, hE.at (by decide) e26, hE.at (by decide) e27, hE.at (by decide) e28, hE.at (by decide) e29, hE.at (by decide) e30, hE.at (by decide) e31, hE.at (by decide) e32, hE.at (by decide) e33, hE.at (by decide) e34, q35, hE.at (by decide) e36, hE.at (by decide) e37, hE.at (by decide) e38, hE.at (by decide) e39, lpg, lrn, lrs, lnr, lro, lhe, hl2, ldr, lks, lkr, lkh, hpg, hnr, ⟨lsh, lrw, lhs, hsh, hrw, hhs⟩, hk0, hk1⟩, hE.mono (by decide)⟩
  · refine g_iload eX12_tell_0 rfl ?_
    refine g_tswIn (off := 104) (tgt := 105) eX12_tell_1 (by decide +kernel) (by decide +kernel) (by decide +kernel) (by decide) ?_
    refine g_aload eX12_tell_105 rfl ?_
    refine g_iload eX12_tell_106 rfl ?_
    refine g_callV0 (r := (RX12, TX12, 32)) eX12_tell_107 kX12_146 e25 (by rfl) (c_listenOf hI' hwf' hia) (by rfl) (by rfl) (by exact Nat.le_of_ble_eq_true rfl) (by exact Nat.le_of_ble_eq_true rfl) (by exact Nat.le_of_ble_eq_true rfl) (Nat.le_refl _) (Nat.le_refl _) (fun v107 σ107 hp107 hn107 => ?_)
    obtain ⟨rfl, hE, th2, hl2, q35⟩ := hp107
    exact g_ret (eX12_tell_110 _) (Nat.le_refl _) (Nat.le_refl _) ⟨rfl, ⟨_, _, _, _, _, _, _, _, _, _, _, _, _, _, _, _, _, _, _, _, _, _, _, _, hE.at (by decide) e25, hE.at (by decide) e26, hE.at (by decide) e27, hE.at (by decide) e28, hE.at (by decide) e29, hE.at (by decide) e30, hE.at (by decide) e31, hE.at (by decide) e32, hE.at (by decide) e33, hE.at (by decide) e34, q35, hE.at (by decide) e36, hE.at (by decide) e37, hE.at (by decide) e38, hE.at (by decide) e39, lpg, lrn, lrs, lnr, lro, lhe, hl2, ldr, lks, lkr, lkh, hpg, hnr, ⟨lsh, lrw, lhs, hsh, hrw, hhs⟩, hk0, hk1⟩, hE.mono (by decide)⟩
set_option maxRecDepth 20000 in
theorem c_tellN {σ : aH} {t : St} (hI : IM t σ) (hwf : WF t) {a : Nat} (hia : a < (mnO (crO t)).length) {y : Int32} (f : rg y 0 8 = none) : MX12_tell 5 0 0 [.ref 25, .int (nI a), .int y] σ (fun v σ' => v = some (.int (-102)) ∧ IM t σ' ∧ FrM σ σ') := by
  refine sX12_tell (Nat.le_of_ble_eq_true rfl) ?_
  have hI' := hI
  have hwf' := hwf
  have hSs := hwf.hS
  obtain ⟨pg, rn, rs, nr, sh, rw, ro, he, hs, th, dr, ks, kr, kh, x2, x3, x4, sd, kc, kl, ka, kg, kd, ha, e25, e26, e27, e28, e29, e30, e31, e32, e33, e34, e35, e36, e37, e38, e39, lpg, lrn, lrs, lnr, lro, lhe, lth, ldr, lks, lkr, lkh, hpg, hnr, ⟨lsh, lrw, lhs, hsh, hrw, hhs⟩, hk0, hk1⟩ := hI
  obtain ⟨w1, w2, w3, w4, w5, ⟨w6, w7, w8, w9, w10, w11, w12⟩, w13, w14, w15, w16, w17⟩ := hwf
  have hr8 := rg_none f
  refine g_iload eX12_tell_0 rfl ?_
  refine g_tswOut (tgt := 111) eX12_tell_1 (by omega) (by decide) ?_
  refine g_push eX12_tell_111 ?_
  exact g_ret (eX12_tell_113 _) (Nat.le_refl _) (Nat.le_refl _) ⟨rfl, hI', EqO.rf⟩
set_option maxRecDepth 20000 in
theorem m_about {σ : aH} {t : St} (hI : IM t σ) (hwf : WF t) {x y : Int32} : MX12_about 6 0 0 [.ref 25, .int x, .int y] σ (fun v σ' => v = some (.int (oAbout t x y)) ∧ IM t σ' ∧ FrM σ σ') := by
  refine sX12_about (Nat.le_of_ble_eq_true rfl) ?_
  have hI' := hI
  have hwf' := hwf
  have hSs := hwf.hS
  obtain ⟨pg, rn, rs, nr, sh, rw, ro, he, hs, th, dr, ks, kr, kh, x2, x3, x4, sd, kc, kl, ka, kg, kd, ha, e25, e26, e27, e28, e29, e30, e31, e32, e33, e34, e35, e36, e37, e38, e39, lpg, lrn, lrs, lnr, lro, lhe, lth, ldr, lks, lkr, lkh, hpg, hnr, ⟨lsh, lrw, lhs, hsh, hrw, hhs⟩, hk0, hk1⟩ := hI
  obtain ⟨w1, w2, w3, w4, w5, ⟨w6, w7, w8, w9, w10, w11, w12⟩, w13, w14, w15, w16, w17⟩ := hwf
  unfold oAbout
  cases e : rg x 0 (mnO (crO t)).length with
  | none =>
    dsimp only
    refine g_aload eX12_about_0 rfl ?_
    refine g_iload eX12_about_1 rfl ?_
    refine g_callVp (r := (RX12, TX12, 32)) eX12_about_2 kX12_149 e25 (by rfl) (c_isAccN e25 (by omega) e) (by rfl) (by rfl) (by exact Nat.le_of_ble_eq_true rfl) (by exact Nat.le_of_ble_eq_true rfl) (by exact Nat.le_of_ble_eq_true rfl) (Nat.le_refl _) (Nat.le_refl _) ?_
    refine g_if_eqN eX12_about_5 (by omega) (fun c5 => ?_) (fun c5 => absurd rfl c5)
    refine g_push eX12_about_17 ?_
    exact g_ret (eX12_about_19 _) (Nat.le_refl _) (Nat.le_refl _) ⟨rfl, hI', EqO.rf⟩
  | some a =>
    dsimp only
    have e' := e
    obtain ⟨rfl, -, ha⟩ := rg_some e (by omega)
    cases f : rg y 0 8 with
    | none =>
      dsimp only
      refine g_aload eX12_about_0 rfl ?_
      refine g_iload eX12_about_1 rfl ?_
      refine g_callVp (r := (RX12, TX12, 32)) eX12_about_2 kX12_149 e25 (by rfl) (c_isAccT e25 (by omega) e') (by rfl) (by rfl) (by exact Nat.le_of_ble_eq_true rfl) (by exact Nat.le_of_ble_eq_true rfl) (by exact Nat.le_of_ble_eq_true rfl) (Nat.le_refl _) (Nat.le_refl _) ?_
      refine g_if_eqN eX12_about_5 (by omega) (fun c5 => absurd c5 (by decide)) (fun c5 => ?_)
      refine g_aload eX12_about_8 rfl ?_
      refine g_iload eX12_about_9 rfl ?_
      refine g_iload eX12_about_10 rfl ?_
      refine g_callV0 (r := (RX12, TX12, 32)) eX12_about_11 kX12_152 e25 (by rfl) (c_tellN hI' hwf' ha f) (by rfl) (by rfl) (by exact Nat.le_of_ble_eq_true rfl) (by exact Nat.le_of_ble_eq_true rfl) (by exact Nat.le_of_ble_eq_true rfl) (Nat.le_refl _) (Nat.le_refl _) (fun v11 σ11 hp11 hn11 => ?_)
      obtain ⟨rfl, hM2, hF2⟩ := hp11
      refine g_goto eX12_about_14 ?_
      exact g_ret (eX12_about_19 _) (Nat.le_refl _) (Nat.le_refl _) ⟨rfl, hM2, hF2⟩
    | some w =>
      dsimp only
      obtain ⟨rfl, -, hw⟩ := rg_some f
      refine g_aload eX12_about_0 rfl ?_
      refine g_iload eX12_about_1 rfl ?_
      refine g_callVp (r := (RX12, TX12, 32)) eX12_about_2 kX12_149 e25 (by rfl) (c_isAccT e25 (by omega) e') (by rfl) (by rfl) (by exact Nat.le_of_ble_eq_true rfl) (by exact Nat.le_of_ble_eq_true rfl) (by exact Nat.le_of_ble_eq_true rfl) (Nat.le_refl _) (Nat.le_refl _) ?_
      refine g_if_eqN eX12_about_5 (by omega) (fun c5 => absurd c5 (by decide)) (fun c5 => ?_)
      refine g_aload eX12_about_8 rfl ?_
      refine g_iload eX12_about_9 rfl ?_
      refine g_iload eX12_about_10 rfl ?_
      refine g_callV0 (r := (RX12, TX12, 32)) eX12_about_11 kX12_152 e25 (by rfl) (c_tell hI' hwf' ha hw) (by rfl) (by rfl) (by exact Nat.le_of_ble_eq_true rfl) (by exact Nat.le_of_ble_eq_true rfl) (by exact Nat.le_of_ble_eq_true rfl) (Nat.le_refl _) (Nat.le_refl _) (fun v11 σ11 hp11 hn11 => ?_)
      obtain ⟨rfl, hM2, hF2⟩ := hp11
      refine g_goto eX12_about_14 ?_
      exact g_ret (eX12_about_19 _) (Nat.le_refl _) (Nat.le_refl _) ⟨rfl, hM2, hF2⟩
set_option maxRecDepth 20000 in
theorem c_countOf {σ : aH} {t : St} (hI : IM t σ) (hwf : WF t) {w : Nat} (hw : w < 10) : MX12_countOf 6 0 0 [.ref 25, .int (nI w)] σ (aPu (some (.int (oCnt t w))) σ) := by
  refine sX12_countOf (Nat.le_of_ble_eq_true rfl) ?_
  have hI' := hI
  have hwf' := hwf
  have hSs := hwf.hS
  obtain ⟨pg, rn, rs, nr, sh, rw, ro, he, hs, th, dr, ks, kr, kh, x2, x3, x4, sd, kc, kl, ka, kg, kd, ha, e25, e26, e27, e28, e29, e30, e31, e32, e33, e34, e35, e36, e37, e38, e39, lpg, lrn, lrs, lnr, lro, lhe, lth, ldr, lks, lkr, lkh, hpg, hnr, ⟨lsh, lrw, lhs, hsh, hrw, hhs⟩, hk0, hk1⟩ := hI
  obtain ⟨w1, w2, w3, w4, w5, ⟨w6, w7, w8, w9, w10, w11, w12⟩, w13, w14, w15, w16, w17⟩ := hwf
  rcases (show w = 0 ∨ w = 1 ∨ w = 2 ∨ w = 3 ∨ w = 4 ∨ w = 5 ∨ w = 6 ∨ w = 7 ∨ w = 8 ∨ w = 9 by omega) with rfl | rfl | rfl | rfl | rfl | rfl | rfl | rfl | rfl | rfl
  · refine g_iload eX12_countOf_0 rfl ?_
    refine g_tswIn (off := 55) (tgt := 56) eX12_countOf_1 (by decide +kernel) (by decide +kernel) (by decide +kernel) (by decide) ?_
    refine g_aload eX12_countOf_56 rfl ?_
    refine g_get eX12_countOf_57 fX12_84_X12 e25 (by rfl) ?_
    exact g_ret (eX12_countOf_60 _) (Nat.le_refl _) (Nat.le_refl _) ⟨rfl, rfl⟩
  · refine g_iload eX12_countOf_0 rfl ?_
    refine g_tswIn (off := 60) (tgt := 61) eX12_countOf_1 (by decide +kernel) (by decide +kernel) (by decide +kernel) (by decide) ?_
    refine g_aload eX12_countOf_61 rfl ?_
    refine g_get eX12_countOf_62 fX12_91_X12 e25 (by rfl) ?_
    exact g_ret (eX12_countOf_65 _) (Nat.le_refl _) (Nat.le_refl _) ⟨rfl, rfl⟩
  · refine g_iload eX12_countOf_0 rfl ?_
    refine g_tswIn (off := 65) (tgt := 66) eX12_countOf_1 (by decide +kernel) (by decide +kernel) (by decide +kernel) (by decide) ?_
    refine g_aload eX12_countOf_66 rfl ?_
    refine g_get eX12_countOf_67 fX12_97_X12 e25 (by rfl) ?_
    exact g_ret (eX12_countOf_70 _) (Nat.le_refl _) (Nat.le_refl _) ⟨rfl, rfl⟩
  · refine g_iload eX12_countOf_0 rfl ?_
    refine g_tswIn (off := 70) (tgt := 71) eX12_countOf_1 (by decide +kernel) (by decide +kernel) (by decide +kernel) (by decide) ?_
    refine g_aload eX12_countOf_71 rfl ?_
    refine g_callVp (r := (RX12, TX12, 32)) eX12_countOf_72 kX12_206 e25 (by rfl) (c_hangMany hI' hwf') (by rfl) (by rfl) (by exact Nat.le_of_ble_eq_true rfl) (by exact Nat.le_of_ble_eq_true rfl) (by exact Nat.le_of_ble_eq_true rfl) (Nat.le_refl _) (Nat.le_refl _) ?_
    exact g_ret (eX12_countOf_75 _) (Nat.le_refl _) (Nat.le_refl _) ⟨rfl, rfl⟩
  · refine g_iload eX12_countOf_0 rfl ?_
    refine g_tswIn (off := 75) (tgt := 76) eX12_countOf_1 (by decide +kernel) (by decide +kernel) (by decide +kernel) (by decide) ?_
    refine g_aload eX12_countOf_76 rfl ?_
    refine g_callVp (r := (RX12, TX12, 32)) eX12_countOf_77 kX12_209 e25 (by rfl) (c_unlike hI' hwf') (by rfl) (by rfl) (by exact Nat.le_of_ble_eq_true rfl) (by exact Nat.le_of_ble_eq_true rfl) (by exact Nat.le_of_ble_eq_true rfl) (Nat.le_refl _) (Nat.le_refl _) ?_
    exact g_ret (eX12_countOf_80 _) (Nat.le_refl _) (Nat.le_refl _) ⟨rfl, rfl⟩
  · refine g_iload eX12_countOf_0 rfl ?_
    refine g_tswIn (off := 80) (tgt := 81) eX12_countOf_1 (by decide +kernel) (by decide +kernel) (by decide +kernel) (by decide) ?_
    refine g_aload eX12_countOf_81 rfl ?_
    refine g_get eX12_countOf_82 fX12_94_X12 e25 (by rfl) ?_
    exact g_ret (eX12_countOf_85 _) (Nat.le_refl _) (Nat.le_refl _) ⟨rfl, rfl⟩
  · refine g_iload eX12_countOf_0 rfl ?_
    refine g_tswIn (off := 85) (tgt := 86) eX12_countOf_1 (by decide +kernel) (by decide +kernel) (by decide +kernel) (by decide) ?_
    refine g_aload eX12_countOf_86 rfl ?_
    refine g_get eX12_countOf_87 fX12_100_X12 e25 (by rfl) ?_
    exact g_ret (eX12_countOf_90 _) (Nat.le_refl _) (Nat.le_refl _) ⟨rfl, rfl⟩
  · refine g_iload eX12_countOf_0 rfl ?_
    refine g_tswIn (off := 90) (tgt := 91) eX12_countOf_1 (by decide +kernel) (by decide +kernel) (by decide +kernel) (by decide) ?_
    refine g_aload eX12_countOf_91 rfl ?_
    refine g_get eX12_countOf_92 fX12_62_X12 e25 (by rfl) ?_
    exact g_ret (eX12_countOf_95 _) (Nat.le_refl _) (Nat.le_refl _) ⟨rfl, rfl⟩
  · refine g_iload eX12_countOf_0 rfl ?_
    refine g_tswIn (off := 95) (tgt := 96) eX12_countOf_1 (by decide +kernel) (by decide +kernel) (by decide +kernel) (by decide) ?_
    refine g_aload eX12_countOf_96 rfl ?_
    refine g_get eX12_countOf_97 fX12_103_X12 e25 (by rfl) ?_
    exact g_ret (eX12_countOf_100 _) (Nat.le_refl _) (Nat.le_refl _) ⟨rfl, rfl⟩
  · refine g_iload eX12_countOf_0 rfl ?_
    refine g_tswIn (off := 100) (tgt := 101) eX12_countOf_1 (by decide +kernel) (by decide +kernel) (by decide +kernel) (by decide) ?_
    refine g_aload eX12_countOf_101 rfl ?_
    refine g_get eX12_countOf_102 fX12_161_X12 e25 (by rfl) ?_
    exact g_ret (eX12_countOf_105 _) (Nat.le_refl _) (Nat.le_refl _) ⟨rfl, rfl⟩
set_option maxRecDepth 20000 in
theorem c_countOfN {σ : aH} {t : St} (hI : IM t σ) (hwf : WF t) {y : Int32} (f : rg y 0 10 = none) : MX12_countOf 6 0 0 [.ref 25, .int y] σ (aPu (some (.int (-102))) σ) := by
  refine sX12_countOf (Nat.le_of_ble_eq_true rfl) ?_
  have hI' := hI
  have hwf' := hwf
  have hSs := hwf.hS
  obtain ⟨pg, rn, rs, nr, sh, rw, ro, he, hs, th, dr, ks, kr, kh, x2, x3, x4, sd, kc, kl, ka, kg, kd, ha, e25, e26, e27, e28, e29, e30, e31, e32, e33, e34, e35, e36, e37, e38, e39, lpg, lrn, lrs, lnr, lro, lhe, lth, ldr, lks, lkr, lkh, hpg, hnr, ⟨lsh, lrw, lhs, hsh, hrw, hhs⟩, hk0, hk1⟩ := hI
  obtain ⟨w1, w2, w3, w4, w5, ⟨w6, w7, w8, w9, w10, w11, w12⟩, w13, w14, w15, w16, w17⟩ := hwf
  have hr8 := rg_none f
  refine g_iload eX12_countOf_0 rfl ?_
  refine g_tswOut (tgt := 106) eX12_countOf_1 (by omega) (by decide) ?_
  refine g_push eX12_countOf_106 ?_
  exact g_ret (eX12_countOf_108 _) (Nat.le_refl _) (Nat.le_refl _) ⟨rfl, rfl⟩
set_option maxRecDepth 20000 in
theorem m_count {σ : aH} {t : St} (hI : IM t σ) (hwf : WF t) {x : Int32} : MX12_count 7 0 0 [.ref 25, .int x] σ (aPu (some (.int (oCount t x))) σ) := by
  refine sX12_count (Nat.le_of_ble_eq_true rfl) ?_
  have hI' := hI
  have hwf' := hwf
  have hSs := hwf.hS
  obtain ⟨pg, rn, rs, nr, sh, rw, ro, he, hs, th, dr, ks, kr, kh, x2, x3, x4, sd, kc, kl, ka, kg, kd, ha, e25, e26, e27, e28, e29, e30, e31, e32, e33, e34, e35, e36, e37, e38, e39, lpg, lrn, lrs, lnr, lro, lhe, lth, ldr, lks, lkr, lkh, hpg, hnr, ⟨lsh, lrw, lhs, hsh, hrw, hhs⟩, hk0, hk1⟩ := hI
  obtain ⟨w1, w2, w3, w4, w5, ⟨w6, w7, w8, w9, w10, w11, w12⟩, w13, w14, w15, w16, w17⟩ := hwf
  unfold oCount
  cases e : rg x 0 10 with
  | none =>
    dsimp only
    refine g_aload eX12_count_0 rfl ?_
    refine g_iload eX12_count_1 rfl ?_
    refine g_callVp (r := (RX12, TX12, 32)) eX12_count_2 kX12_212 e25 (by rfl) (c_countOfN hI' hwf' e) (by rfl) (by rfl) (by exact Nat.le_of_ble_eq_true rfl) (by exact Nat.le_of_ble_eq_true rfl) (by exact Nat.le_of_ble_eq_true rfl) (Nat.le_refl _) (Nat.le_refl _) ?_
    exact g_ret (eX12_count_5 _) (Nat.le_refl _) (Nat.le_refl _) ⟨rfl, rfl⟩
  | some w =>
    dsimp only
    obtain ⟨rfl, -, hw⟩ := rg_some e
    refine g_aload eX12_count_0 rfl ?_
    refine g_iload eX12_count_1 rfl ?_
    refine g_callVp (r := (RX12, TX12, 32)) eX12_count_2 kX12_212 e25 (by rfl) (c_countOf hI' hwf' hw) (by rfl) (by rfl) (by exact Nat.le_of_ble_eq_true rfl) (by exact Nat.le_of_ble_eq_true rfl) (by exact Nat.le_of_ble_eq_true rfl) (Nat.le_refl _) (Nat.le_refl _) ?_
    exact g_ret (eX12_count_5 _) (Nat.le_refl _) (Nat.le_refl _) ⟨rfl, rfl⟩
