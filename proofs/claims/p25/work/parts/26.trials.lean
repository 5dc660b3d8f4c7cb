/-! the law's trials -/
theorem DM_set {t : St} {ws : List Nat} (hM : DM t ws) (h10 : (shO (crO t)).length ≤ 10) (h4 : (mnO (crO t)).length ≤ 4) {k : Nat} (w : Nat) (hk : k < (shO (crO t)).length) : DM t (ws.set (1 + k) w) := by
  obtain ⟨d1, d2, d3, d4, d5⟩ := hM
  have h : ∀ j, j ≠ 1 + k → (ws.set (1 + k) w).getD j 0 = ws.getD j 0 := fun j a => by rw [getD_setI (by omega), if_neg a]
  exact ⟨by rw [List.length_set]; exact d1, (h 0 (by omega)).trans d2, (h 11 (by omega)).trans d3, (h 12 (by omega)).trans d4, fun i hi => ⟨(h _ (by omega)).trans (d5 i hi).1, (h _ (by omega)).trans (d5 i hi).2.1, (h _ (by omega)).trans (d5 i hi).2.2⟩⟩
theorem lg_same (x : Int64) : lg_cmp x x = nI 0 := by
  unfold lg_cmp
  rw [if_neg (Int64.lt_irrefl : ¬ x < x), if_pos rfl]
  rfl
theorem oTrials_eq {t : St} (hC : 0 < ctO t) {m sd w : Nat} (h1 : 1 ≤ m) (h2 : m ≤ 40) (h3 : sd < 2147483648) (hw : w < 3) : oTrials t (nI m) (nI sd) (nI w) = trW w (trl t sd m) := by
  unfold oTrials
  rw [rg_nI h1 (by omega)]
  dsimp only
  rw [rg_nI (Nat.zero_le _) h3 (by decide)]
  dsimp only
  rw [rg_nI (Nat.zero_le _) hw]
  dsimp only
  rw [if_pos hC]
set_option maxRecDepth 20000 in
theorem l_tr_87 {t : St} (hwf : WF t) (hC : 0 < ctO t) {q : Nat} (hq : 28 ≤ q) {τ : aH} (hI : ∀ c, IX t (τ.set q c)) (hl : τ.length = q + 1) (e25 : τ[25]? = some (aA (nrO t))) {ds : List Nat} (e26 : τ[26]? = some (aA ds)) (hD : DX t ds) {m sd : Nat} (hm1 : 1 ≤ m) (hm2 : m ≤ 40) (hs : sd < 2147483648) {ws : List Nat} {x H P i : Nat} (hM : DM t ws) (hx : ∀ k, k < (shO (crO t)).length → shD ws k = drw x k) (ih : ∀ o1 o2, GL_trials 6 1 26 (fun v σ' => v = some (.int (nI 1)) ∧ LI t σ') 1 26 26 [some (.ref 0), some (.ref 25), some (.ref 26), some (.int (nI m)), some (.int (nI sd)), some (.ref q), some (.long (lN (sdN x (shO (crO t)).length))), none, some (.int (nI (H + hangN t (drw x) (shO (crO t)).length))), some (.int (nI (P + allN t (drw x) (shO (crO t)).length))), some (.int (nI (i + 1))), o1, o2] [] (τ.set q (aA ws))) : ∀ d a, a + d = (mnO (crO t)).length → ∀ o, GL_trials 6 1 26 (fun v σ' => v = some (.int (nI 1)) ∧ LI t σ') 1 26 87 [some (.ref 0), some (.ref 25), some (.ref 26), some (.int (nI m)), some (.int (nI sd)), some (.ref q), some (.long (lN (sdN x (shO (crO t)).length))), none, some (.int (nI (H + cnt (hangB t (drw x) (shO (crO t)).length) (a)))), some (.int (nI (P + sumN (fun i => popc (manM t i (drw x) (shO (crO t)).length)) (a)))), some (.int (nI (i))), some (.int (nI (a))), o] [] (τ.set q (aA ws)) := by
  have eq' : (τ.set q (aA ws))[q]? = some (aA ws) := List.getElem?_set_self (by omega)
  have e25' : (τ.set q (aA ws))[25]? = some (aA (nrO t)) := at_ne (by omega) e25
  have e26' : (τ.set q (aA ws))[26]? = some (aA ds) := at_ne (by omega) e26
  have hM' := hM
  obtain ⟨d1, d2, d3, d4, d5⟩ := hM
  have h10 := hwf.ten
  have h4 := hwf.four
  have hlm := hwf.lm
  intro d
  induction d with
  | zero =>
    intro a ha o
    obtain rfl : a = (mnO (crO t)).length := by omega
    refine g_iload eL_trials_87 rfl ?_
    refine g_aload eL_trials_89 rfl ?_
    refine g_push eL_trials_91 ?_
    refine g_ialdN eL_trials_93 eq' (by omega) (by omega) ?_
    refine g_icmp_geN eL_trials_94 (by omega) (by omega) (fun c94 => ?_) (fun c94 => by exfalso; omega)
    refine g_iincN eL_trials_136 rfl rfl ?_
    refine g_goto eL_trials_139 ?_
    exact ih _ _
  | succ d ih =>
    intro a ha o
    have ih2 := ih (a + 1) (by omega)
    have hp := popc_le (manM t a (drw x) (shO (crO t)).length)
    have hc1 : hangB t (drw x) (shO (crO t)).length a = true → H + cnt (hangB t (drw x) (shO (crO t)).length) (a + 1) = H + cnt (hangB t (drw x) (shO (crO t)).length) a + 1 := fun h => by
      show H + (cnt (hangB t (drw x) (shO (crO t)).length) a + (hangB t (drw x) (shO (crO t)).length a).toNat) = _
      rw [h]
      rfl
    have hc0 : hangB t (drw x) (shO (crO t)).length a = false → H + cnt (hangB t (drw x) (shO (crO t)).length) (a + 1) = H + cnt (hangB t (drw x) (shO (crO t)).length) a := fun h => by
      show H + (cnt (hangB t (drw x) (shO (crO t)).length) a + (hangB t (drw x) (shO (crO t)).length a).toNat) = _
      rw [h]
      rfl
    have hP : P + sumN (fun i => popc (manM t i (drw x) (shO (crO t)).length)) (a + 1) = P + sumN (fun i => popc (manM t i (drw x) (shO (crO t)).length)) a + popc (manM t a (drw x) (shO (crO t)).length) := (Nat.add_assoc _ _ _).symm
    rw [hP] at ih2
    refine g_iload eL_trials_87 rfl ?_
    refine g_aload eL_trials_89 rfl ?_
    refine g_push eL_trials_91 ?_
    refine g_ialdN eL_trials_93 eq' (by omega) (by omega) ?_
    refine g_icmp_geN eL_trials_94 (by omega) (by omega) (fun c94 => by exfalso; omega) (fun c94 => ?_)
    refine g_aload eL_trials_97 rfl ?_
    refine g_aload eL_trials_98 rfl ?_
    refine g_iload eL_trials_100 rfl ?_
    refine g_callSp eL_trials_102 kL_41 (l_nowM (i := a) hwf eq' e25' hM' hx (fun k _ => drw_lt x k) (by omega)) (by rfl) (by rfl) (by exact Nat.le_of_ble_eq_true rfl) (by exact Nat.le_of_ble_eq_true rfl) (by exact Nat.le_of_ble_eq_true rfl) (Nat.le_refl _) (Nat.le_refl _) ?_
    refine g_callSp eL_trials_105 kL_45 (l_size (m := manM t a (drw x) (shO (crO t)).length) (manM_lt t a _ h10)) (by rfl) (by rfl) (by exact Nat.le_of_ble_eq_true rfl) (by exact Nat.le_of_ble_eq_true rfl) (by exact Nat.le_of_ble_eq_true rfl) (Nat.le_refl _) (Nat.le_refl _) ?_
    refine g_istore eL_trials_108 rfl ?_
    refine g_iload eL_trials_110 rfl ?_
    refine g_iload eL_trials_112 rfl ?_
    refine g_iaddN eL_trials_114 ?_
    refine g_istore eL_trials_115 rfl ?_
    refine g_iload eL_trials_117 rfl ?_
    refine g_aload eL_trials_119 rfl ?_
    refine g_push eL_trials_121 ?_
    refine g_ialdN eL_trials_123 eq' (by omega) (by omega) ?_
    refine g_icmp_ltN eL_trials_124 (by omega) (by omega) (fun c124 => ?_) (fun c124 => ?_)
    · refine g_iincN eL_trials_130 rfl rfl ?_
      refine g_goto eL_trials_133 ?_
      first
        | (rw [hc1 (decide_eq_true (by omega))] at ih2; exact ih2 _)
        | (rw [hc0 (decide_eq_false (by omega))] at ih2; exact ih2 _)
    · refine g_iincN eL_trials_127 rfl rfl ?_
      refine g_iincN eL_trials_130 rfl rfl ?_
      refine g_goto eL_trials_133 ?_
      first
        | (rw [hc1 (decide_eq_true (by omega))] at ih2; exact ih2 _)
        | (rw [hc0 (decide_eq_false (by omega))] at ih2; exact ih2 _)
set_option maxRecDepth 20000 in
theorem l_tr_35 {t : St} (hwf : WF t) (hC : 0 < ctO t) {q : Nat} (hq : 28 ≤ q) {τ : aH} (hI : ∀ c, IX t (τ.set q c)) (hl : τ.length = q + 1) (e25 : τ[25]? = some (aA (nrO t))) {ds : List Nat} (e26 : τ[26]? = some (aA ds)) (hD : DX t ds) {m sd : Nat} (hm1 : 1 ≤ m) (hm2 : m ≤ 40) (hs : sd < 2147483648) {x H P i : Nat} (hx0 : x < 2147483648) (ih : ∀ ws2, DM t ws2 → ∀ o1 o2, GL_trials 6 1 26 (fun v σ' => v = some (.int (nI 1)) ∧ LI t σ') 1 26 26 [some (.ref 0), some (.ref 25), some (.ref 26), some (.int (nI m)), some (.int (nI sd)), some (.ref q), some (.long (lN (sdN x (shO (crO t)).length))), none, some (.int (nI (H + hangN t (drw x) (shO (crO t)).length))), some (.int (nI (P + allN t (drw x) (shO (crO t)).length))), some (.int (nI (i + 1))), o1, o2] [] (τ.set q (aA ws2))) : ∀ d k ws, k + d = (shO (crO t)).length → DM t ws → (∀ j, j < k → shD ws j = drw x j) → ∀ o, GL_trials 6 1 26 (fun v σ' => v = some (.int (nI 1)) ∧ LI t σ') 1 26 35 [some (.ref 0), some (.ref 25), some (.ref 26), some (.int (nI m)), some (.int (nI sd)), some (.ref q), some (.long (lN (sdN x (k)))), none, some (.int (nI (H))), some (.int (nI (P))), some (.int (nI (i))), some (.int (nI (k))), o] [] (τ.set q (aA ws)) := by
  have h10 := hwf.ten
  have h4 := hwf.four
  intro d
  induction d with
  | zero =>
    intro k ws hk hM hx o
    have eq' : (τ.set q (aA ws))[q]? = some (aA ws) := List.getElem?_set_self (by omega)
    have e25' : (τ.set q (aA ws))[25]? = some (aA (nrO t)) := at_ne (by omega) e25
    have e26' : (τ.set q (aA ws))[26]? = some (aA ds) := at_ne (by omega) e26
    obtain ⟨d1, d2, d3, d4, d5⟩ := id hM
    obtain rfl : k = (shO (crO t)).length := by omega
    refine g_iload eL_trials_35 rfl ?_
    refine g_aload eL_trials_37 rfl ?_
    refine g_push eL_trials_39 ?_
    refine g_ialdN eL_trials_40 eq' (by omega) (by omega) ?_
    refine g_icmp_geN eL_trials_41 (by omega) (by omega) (fun c41 => ?_) (fun c41 => by exfalso; omega)
    refine g_push eL_trials_84 ?_
    refine g_istore eL_trials_85 rfl ?_
    exact l_tr_87 hwf hC hq hI hl e25 e26 hD hm1 hm2 hs hM hx (ih ws hM) _ 0 (Nat.zero_add _) _
  | succ d ih2 =>
    intro k ws hk hM hx o
    have eq' : (τ.set q (aA ws))[q]? = some (aA ws) := List.getElem?_set_self (by omega)
    have e25' : (τ.set q (aA ws))[25]? = some (aA (nrO t)) := at_ne (by omega) e25
    have e26' : (τ.set q (aA ws))[26]? = some (aA ds) := at_ne (by omega) e26
    obtain ⟨d1, d2, d3, d4, d5⟩ := id hM
    have hlt := sdN_lt hx0 k
    have hlt2 := sdN_lt hx0 (k + 1)
    have hL : (sdN x k * 1103515245 + 12345) % 2147483648 = sdN x (k + 1) := by
      show _ = (1103515245 * sdN x k + 12345) % 2147483648
      rw [Nat.mul_comm]
    have ih3 := ih2 (k + 1) (ws.set (1 + k) (drw x k)) (by omega) (DM_set hM h10 h4 _ (by omega)) (fun j hj => by
      show (ws.set (1 + k) (drw x k)).getD (1 + j) 0 = drw x j
      rw [getD_setI (by omega)]
      by_cases z : j = k
      · rw [if_pos (by omega), z]
      · rw [if_neg (by omega)]
        exact hx j (by omega))
    refine g_iload eL_trials_35 rfl ?_
    refine g_aload eL_trials_37 rfl ?_
    refine g_push eL_trials_39 ?_
    refine g_ialdN eL_trials_40 eq' (by omega) (by omega) ?_
    refine g_icmp_geN eL_trials_41 (by omega) (by omega) (fun c41 => by exfalso; omega) (fun c41 => ?_)
    refine g_lload eL_trials_44 rfl ?_
    refine g_ldc2 eL_trials_46 lL_108 ?_
    rw [show (1103515245 : Int64) = lN 1103515245 from rfl]
    refine g_lmulN eL_trials_49 ?_
    refine g_ldc2 eL_trials_50 lL_110 ?_
    rw [show (12345 : Int64) = lN 12345 from rfl]
    refine g_laddN eL_trials_53 ?_
    refine g_ldc2 eL_trials_54 lL_112 ?_
    rw [show (2147483648 : Int64) = lN 2147483648 from rfl]
    refine g_lremN eL_trials_57 (by omega) (by omega) (by omega) ?_
    rw [hL]
    refine g_lstore eL_trials_58 rfl ?_
    refine g_aload eL_trials_60 rfl ?_
    refine g_push eL_trials_62 ?_
    refine g_iload eL_trials_63 rfl ?_
    refine g_iaddN eL_trials_65 ?_
    refine g_lload eL_trials_66 rfl ?_
    refine g_ldc2 eL_trials_68 lL_114 ?_
    rw [show (65536 : Int64) = lN 65536 from rfl]
    refine g_ldivN eL_trials_71 (by omega) (by omega) (by omega) ?_
    refine g_ldc2 eL_trials_72 lL_116 ?_
    rw [show (8 : Int64) = lN 8 from rfl]
    refine g_lremN eL_trials_75 (by omega) (by omega) (by omega) ?_
    refine g_l2iN eL_trials_76 ?_
    refine g_iastN eL_trials_77 eq' (by omega) (by omega) ?_
    rw [List.set_set]
    refine g_iincN eL_trials_78 rfl rfl ?_
    refine g_goto eL_trials_81 ?_
    exact ih3 _
set_option maxRecDepth 20000 in
theorem l_tr_26 {t : St} (hwf : WF t) (hC : 0 < ctO t) {q : Nat} (hq : 28 ≤ q) {τ : aH} (hI : ∀ c, IX t (τ.set q c)) (hl : τ.length = q + 1) (e25 : τ[25]? = some (aA (nrO t))) {ds : List Nat} (e26 : τ[26]? = some (aA ds)) (hD : DX t ds) {m sd : Nat} (hm1 : 1 ≤ m) (hm2 : m ≤ 40) (hs : sd < 2147483648) : ∀ d i ws, i + d = m → DM t ws → ∀ o1 o2, GL_trials 6 1 26 (fun v σ' => v = some (.int (nI 1)) ∧ LI t σ') 1 26 26 [some (.ref 0), some (.ref 25), some (.ref 26), some (.int (nI m)), some (.int (nI sd)), some (.ref q), some (.long (lN ((trl t sd (i)).2.2))), none, some (.int (nI ((trl t sd (i)).1))), some (.int (nI ((trl t sd (i)).2.1))), some (.int (nI (i))), o1, o2] [] (τ.set q (aA ws)) := by
  intro d
  induction d with
  | zero =>
    intro i ws hi hM o1 o2
    have eq' : (τ.set q (aA ws))[q]? = some (aA ws) := List.getElem?_set_self (by omega)
    have e25' : (τ.set q (aA ws))[25]? = some (aA (nrO t)) := at_ne (by omega) e25
    have e26' : (τ.set q (aA ws))[26]? = some (aA ds) := at_ne (by omega) e26
    obtain rfl : i = m := by omega
    have hI1 : IX t (τ.set q (aA ws)) := hI _
    have h28 : 28 ≤ (τ.set q (aA ws)).length := by rw [List.length_set]; omega
    obtain ⟨fs, e0⟩ := hI1.e0
    have hsd := trl_sd t sd hs i
    refine g_iload eL_trials_26 rfl ?_
    refine g_iload eL_trials_28 rfl ?_
    refine g_icmp_geN eL_trials_29 (by omega) (by omega) (fun c29 => ?_) (fun c29 => by exfalso; omega)
    refine g_aload eL_trials_142 rfl ?_
    refine g_iload eL_trials_143 rfl ?_
    refine g_iload eL_trials_144 rfl ?_
    refine g_push eL_trials_146 ?_
    refine g_callV0 (r := (RX11, TX11, 10)) eL_trials_147 kL_101 e0 (by rfl) (x_trials hI1 hwf (x := nI i) (y := nI sd) (z := nI 0)) (by rfl) (by rfl) (by exact Nat.le_of_ble_eq_true rfl) (by exact Nat.le_of_ble_eq_true rfl) (by exact Nat.le_of_ble_eq_true rfl) (Nat.le_refl _) (Nat.le_refl _) (fun v147 σ147 hp147 hn147 => ?_)
    rw [oTrials_eq hC hm1 hm2 hs (by decide)] at hp147
    obtain ⟨rfl, hI2, hF2⟩ := hp147
    obtain ⟨fs2, e02⟩ := hI2.e0
    refine g_iload eL_trials_150 rfl ?_
    refine g_icmp_ne eL_trials_152 (fun c152 => absurd rfl c152) (fun c152 => ?_)
    refine g_aload eL_trials_155 rfl ?_
    refine g_iload eL_trials_156 rfl ?_
    refine g_iload eL_trials_157 rfl ?_
    refine g_push eL_trials_159 ?_
    refine g_callV0 (r := (RX11, TX11, 10)) eL_trials_160 kL_101 e02 (by rfl) (x_trials hI2 hwf (x := nI i) (y := nI sd) (z := nI 1)) (by rfl) (by rfl) (by exact Nat.le_of_ble_eq_true rfl) (by exact Nat.le_of_ble_eq_true rfl) (by exact Nat.le_of_ble_eq_true rfl) (Nat.le_refl _) (Nat.le_refl _) (fun v160 σ160 hp160 hn160 => ?_)
    rw [oTrials_eq hC hm1 hm2 hs (by decide)] at hp160
    obtain ⟨rfl, hI3, hF3⟩ := hp160
    obtain ⟨fs3, e03⟩ := hI3.e0
    refine g_iload eL_trials_163 rfl ?_
    refine g_icmp_ne eL_trials_165 (fun c165 => absurd rfl c165) (fun c165 => ?_)
    refine g_aload eL_trials_168 rfl ?_
    refine g_iload eL_trials_169 rfl ?_
    refine g_iload eL_trials_170 rfl ?_
    refine g_push eL_trials_172 ?_
    refine g_callV0 (r := (RX11, TX11, 10)) eL_trials_173 kL_101 e03 (by rfl) (x_trials hI3 hwf (x := nI i) (y := nI sd) (z := nI 2)) (by rfl) (by rfl) (by exact Nat.le_of_ble_eq_true rfl) (by exact Nat.le_of_ble_eq_true rfl) (by exact Nat.le_of_ble_eq_true rfl) (Nat.le_refl _) (Nat.le_refl _) (fun v173 σ173 hp173 hn173 => ?_)
    rw [oTrials_eq hC hm1 hm2 hs (by decide)] at hp173
    obtain ⟨rfl, hI4, hF4⟩ := hp173
    show GL_trials 6 1 26 (fun v σ' => v = some (.int (nI 1)) ∧ LI t σ') 1 26 176 [some (.ref 0), some (.ref 25), some (.ref 26), some (.int (nI i)), some (.int (nI sd)), some (.ref q), some (.long (lN ((trl t sd (i)).2.2))), none, some (.int (nI ((trl t sd (i)).1))), some (.int (nI ((trl t sd (i)).2.1))), some (.int (nI (i))), o1, o2] ([.int (nI (trl t sd i).2.2)]) σ173
    refine g_i2lN eL_trials_176 (by omega) ?_
    refine g_lload eL_trials_177 rfl ?_
    refine g_lcmp eL_trials_179 ?_
    rw [lg_same]
    refine g_if_neN eL_trials_180 (by omega) (fun c180 => by exfalso; omega) (fun c180 => ?_)
    refine g_push eL_trials_183 ?_
    refine g_goto eL_trials_184 ?_
    exact g_ret (eL_trials_188 _ (Or.inr rfl)) (Nat.le_refl _) (Nat.le_refl _) ⟨rfl, LI.mk (t := t) hI4 ((hF2.tr hF3).tr hF4) hwf hC rfl h28 e25' e26' hD⟩
  | succ d ih =>
    intro i ws hi hM o1 o2
    have ih2 : ∀ ws2, DM t ws2 → ∀ o1 o2, GL_trials 6 1 26 (fun v σ' => v = some (.int (nI 1)) ∧ LI t σ') 1 26 26 [some (.ref 0), some (.ref 25), some (.ref 26), some (.int (nI m)), some (.int (nI sd)), some (.ref q), some (.long (lN (sdN (trl t sd i).2.2 (shO (crO t)).length))), none, some (.int (nI ((trl t sd i).1 + hangN t (drw (trl t sd i).2.2) (shO (crO t)).length))), some (.int (nI ((trl t sd i).2.1 + allN t (drw (trl t sd i).2.2) (shO (crO t)).length))), some (.int (nI (i + 1))), o1, o2] [] (τ.set q (aA ws2)) := fun ws2 hM2 o1 o2 => ih (i + 1) ws2 (by omega) hM2 o1 o2
    refine g_iload eL_trials_26 rfl ?_
    refine g_iload eL_trials_28 rfl ?_
    refine g_icmp_geN eL_trials_29 (by omega) (by omega) (fun c29 => by exfalso; omega) (fun c29 => ?_)
    refine g_push eL_trials_32 ?_
    refine g_istore eL_trials_33 rfl ?_
    exact l_tr_35 hwf hC hq hI hl e25 e26 hD hm1 hm2 hs (trl_sd t sd hs i) ih2 _ 0 ws (Nat.zero_add _) hM (fun j hj => absurd hj (Nat.not_lt_zero j)) _
set_option maxRecDepth 20000 in
theorem l_trials {t : St} {σ : aH} (h : LI t σ) {m sd : Nat} (hm1 : 1 ≤ m) (hm2 : m ≤ 40) (hs : sd < 2147483648) : ML_trials 6 1 26 [.ref 0, .ref 25, .ref 26, .int (nI m), .int (nI sd)] σ (fun v σ' => v = some (.int (nI 1)) ∧ LI t σ') := by
  obtain ⟨hI, hwf, hC, h28, e25, ds, e26, hD⟩ := h
  refine sL_trials (Nat.le_of_ble_eq_true rfl) ?_
  have hq : (σ ++ [(.inl (List.replicate 26 0) : aT)])[σ.length]? = some (aA (List.replicate 26 0)) := repA at_pn
  refine g_push eL_trials_0 ?_
  refine g_newa (N := 26) eL_trials_2 rfl (by exact Nat.le_of_ble_eq_true rfl) (by omega) (by omega) ?_
  refine g_astore eL_trials_4 rfl ?_
  refine g_aload eL_trials_6 rfl ?_
  refine g_aload eL_trials_8 rfl ?_
  refine g_callSp eL_trials_9 kL_104 (l_over (a := σ.length) (b := 26) (by omega) hq (at_pl e26) (by simp) hD.1.1) (by rfl) (by rfl) (by exact Nat.le_of_ble_eq_true rfl) (by exact Nat.le_of_ble_eq_true rfl) (by exact Nat.le_of_ble_eq_true rfl) (by omega) (by omega) ?_
  refine g_iload eL_trials_12 rfl ?_
  refine g_i2lN eL_trials_14 (by omega) ?_
  refine g_lstore eL_trials_15 rfl ?_
  refine g_push eL_trials_17 ?_
  refine g_istore eL_trials_18 rfl ?_
  refine g_push eL_trials_20 ?_
  refine g_istore eL_trials_21 rfl ?_
  refine g_push eL_trials_23 ?_
  refine g_istore eL_trials_24 rfl ?_
  have hl : (σ ++ [(.inl (List.replicate 26 0) : aT)]).length = σ.length + 1 := by simp
  exact l_tr_26 hwf hC h28 (fun c => hI.keep (fun j hj => by rw [List.getElem?_set_ne (by omega), List.getElem?_append_left (by omega)]) (fun j hj hl' => by rw [List.getElem?_set_ne (by omega), List.getElem?_append_left hl'])) hl (at_pl e25) (at_pl e26) hD hm1 hm2 hs m 0 ds (Nat.zero_add _) hD.1 _ _
