/-! the class's court -/
set_option maxRecDepth 20000 in
theorem c_stBegin {σ : aH} (h : ISh 6 σ) : MX8_begin 1 0 0 [.ref 6] σ (fun v σ' => v = none ∧ EqO [6, 7, 9] σ σ' ∧ ∃ (ws wm dm hid : List Nat), σ'[6]? = some (aO 8 [.ref 7, .ref 9, .ref 12, .int (nI 2), .int (nI 0), .int (nI 0)]) ∧ σ'[7]? = some (aO 6 [.ref 8, .int (nI 0)]) ∧ σ'[8]? = some (aA ws) ∧ σ'[9]? = some (aO 3 [.ref 10, .ref 11, .int (nI 0)]) ∧ σ'[10]? = some (aA wm) ∧ σ'[11]? = some (aA dm) ∧ σ'[12]? = some (aA hid) ∧ ws.length = 10 ∧ wm.length = 8 ∧ dm.length = 8 ∧ hid.length = 4) := by
  refine sX8_begin (Nat.le_of_ble_eq_true rfl) ?_
  obtain ⟨ws, wm, dm, hid, y0, y1, y2, y3, y4, e6, e7, e8, e9, e10, e11, e12, l1, l2, l3, l4⟩ := h
  refine g_aload eX8_begin_0 rfl ?_
  refine g_get eX8_begin_1 fX8_12_X8 e6 (by rfl) ?_
  refine g_callVp (r := (RX6, TX6, 2)) eX8_begin_4 kX8_29 e7 (by rfl) (c_clear e7) (by rfl) (by rfl) (by exact Nat.le_of_ble_eq_true rfl) (by exact Nat.le_of_ble_eq_true rfl) (by exact Nat.le_of_ble_eq_true rfl) (Nat.le_refl _) (Nat.le_refl _) ?_
  refine g_aload eX8_begin_7 rfl ?_
  refine g_get eX8_begin_8 fX8_21_X8 (at_ne (by decide) e6) (by rfl) ?_
  refine g_callVp (r := (RX3, TX3, 3)) eX8_begin_11 kX8_32 (at_ne (by decide) e9) (by rfl) (c_hclear (at_ne (by decide) e9)) (by rfl) (by rfl) (by exact Nat.le_of_ble_eq_true rfl) (by exact Nat.le_of_ble_eq_true rfl) (by exact Nat.le_of_ble_eq_true rfl) (Nat.le_refl _) (Nat.le_refl _) ?_
  refine g_aload eX8_begin_14 rfl ?_
  refine g_push eX8_begin_15 ?_
  refine g_putI eX8_begin_16 fX8_33_X8 pX8_3 (at_ne (by decide) (at_ne (by decide) e6)) (by exact Nat.le_of_ble_eq_true rfl) ?_
  refine g_aload eX8_begin_19 rfl ?_
  refine g_push eX8_begin_20 ?_
  refine g_putI eX8_begin_21 fX8_37_X8 pX8_4 (at_eq (at_ne (by decide) (at_ne (by decide) e6))) (by exact Nat.le_of_ble_eq_true rfl) ?_
  refine g_aload eX8_begin_24 rfl ?_
  refine g_push eX8_begin_25 ?_
  refine g_putI eX8_begin_26 fX8_40_X8 pX8_5 (at_eq (at_eq (at_ne (by decide) (at_ne (by decide) e6)))) (by exact Nat.le_of_ble_eq_true rfl) ?_
  exact g_ret eX8_begin_29 (Nat.le_refl _) (Nat.le_refl _) ⟨rfl, ((((EqO.rf.st (by decide)).st (by decide)).st (by decide)).st (by decide)).st (by decide), ws, wm, dm, hid, at_eq (at_eq (at_eq (at_ne (by decide) (at_ne (by decide) e6)))), at_ne (by decide) (at_ne (by decide) (at_ne (by decide) (at_ne (by decide) (at_eq e7)))), at_ne (by decide) (at_ne (by decide) (at_ne (by decide) (at_ne (by decide) (at_ne (by decide) e8)))), at_ne (by decide) (at_ne (by decide) (at_ne (by decide) (at_eq (at_ne (by decide) e9)))), at_ne (by decide) (at_ne (by decide) (at_ne (by decide) (at_ne (by decide) (at_ne (by decide) e10)))), at_ne (by decide) (at_ne (by decide) (at_ne (by decide) (at_ne (by decide) (at_ne (by decide) e11)))), at_ne (by decide) (at_ne (by decide) (at_ne (by decide) (at_ne (by decide) (at_ne (by decide) e12)))), l1, l2, l3, l4⟩
/-- the walk's state when the first letters pass -/
def wpre (pg : Nat → Nat) : Nat → Option (Nat × Nat × Nat)
  | 0 => some (0, 0, 0)
  | k + 1 => match wpre pg k with
    | none => none
    | some s => wstep s (pg k)
theorem wpre_s {pg : Nat → Nat} {k : Nat} {s : Nat × Nat × Nat} (h : wpre pg k = some s) : wpre pg (k + 1) = wstep s (pg k) := by
  show (match wpre pg k with
    | none => none
    | some s => wstep s (pg k)) = _
  rw [h]
theorem wpre_n {pg : Nat → Nat} {k : Nat} (h : wpre pg k = none) : wpre pg (k + 1) = none := by
  show (match wpre pg k with
    | none => none
    | some s => wstep s (pg k)) = _
  rw [h]
theorem wfa_pre {pg : Nat → Nat} : ∀ d k s, wpre pg k = some s → (wfa pg d k s).1 = k + d → wpre pg (k + d) = some (wfa pg d k s).2
  | 0, k, s, h, _ => h
  | d + 1, k, s, h, e => by
    cases w : wstep s (pg k) with
    | none =>
      rw [wfa_none w] at e
      exfalso
      simp only at e
      omega
    | some s' =>
      rw [wfa_some w] at e ⊢
      have := wfa_pre d (k + 1) s' ((wpre_s h).trans w) (by omega)
      rw [show k + (d + 1) = k + 1 + d by omega]
      exact this
theorem wpre_le {pg : Nat → Nat} {k : Nat} : ∀ {d s}, wpre pg (k + d) = some s → ∃ s', wpre pg k = some s'
  | 0, s, h => ⟨s, h⟩
  | d + 1, s, h => by
    cases e : wpre pg (k + d) with
    | none =>
      have := wpre_n e
      rw [show k + (d + 1) = k + d + 1 from rfl, this] at h
      cases h
    | some s' => exact wpre_le e
/-- what the read letters are, by the walk's state -/
def RV (pg : Nat → Nat) (k : Nat) (s : Nat × Nat × Nat) : Prop := wok s ∧ (rdc pg k).1 = s.1 ∧ (rdc pg k).2.2.length = (if s.1 = 4 then s.2.1 else 0) ∧ (rdc pg k).2.1.length = 5 ∧ (∀ d, (rdc pg k).2.1.getD d 0 < 256) ∧ (rdc pg k).2.1.getD 4 0 = 0 ∧ ∀ j, (rdc pg k).2.2.getD j 0 < 8
theorem rdc_l {pg : Nat → Nat} {k : Nat} (h : 97 ≤ pg k ∧ pg k < 105) (h4 : (rdc pg k).1 < 4) : rdc pg (k + 1) = ((rdc pg k).1, (rdc pg k).2.1.set (rdc pg k).1 ((rdc pg k).2.1.getD (rdc pg k).1 0 ||| 2 ^ (pg k - 97)), (rdc pg k).2.2) := by
  show (if _ then (if _ then _ else _) else _) = _
  rw [if_pos h, if_pos h4]
theorem rdc_r {pg : Nat → Nat} {k : Nat} (h : 97 ≤ pg k ∧ pg k < 105) (h4 : ¬ (rdc pg k).1 < 4) : rdc pg (k + 1) = ((rdc pg k).1, (rdc pg k).2.1, (rdc pg k).2.2 ++ [pg k - 97]) := by
  show (if _ then (if _ then _ else _) else _) = _
  rw [if_pos h, if_neg h4]
theorem rdc_o {pg : Nat → Nat} {k : Nat} (h : ¬ (97 ≤ pg k ∧ pg k < 105)) : rdc pg (k + 1) = ((rdc pg k).1 + 1, (rdc pg k).2.1, (rdc pg k).2.2) := by
  show (if _ then (if _ then _ else _) else _) = _
  rw [if_neg h]
theorem wstep_l {s s' : Nat × Nat × Nat} {c : Nat} (e : wstep s c = some s') (h : 97 ≤ c ∧ c < 105) : pword s.1 s.2.1 s.2.2 (c - 97) = true ∧ s' = (s.1, s.2.1 + 1, c - 97 + 1) := by
  unfold wstep at e
  rw [if_pos h] at e
  by_cases hp : pword s.1 s.2.1 s.2.2 (c - 97) = true
  · rw [if_pos hp] at e
    exact ⟨hp, (Option.some.inj e).symm⟩
  · rw [if_neg hp] at e
    cases e
theorem wstep_o {s s' : Nat × Nat × Nat} {c : Nat} (e : wstep s c = some s') (h : ¬ (97 ≤ c ∧ c < 105)) : s.1 < 4 ∧ 0 < s.2.1 ∧ c = (if s.1 = 3 then 59 else 44) ∧ s' = (s.1 + 1, 0, 0) := by
  unfold wstep at e
  rw [if_neg h] at e
  by_cases hp : s.1 < 4 ∧ 0 < s.2.1 ∧ c = (if s.1 = 3 then 59 else 44)
  · rw [if_pos hp] at e
    exact ⟨hp.1, hp.2.1, hp.2.2, (Option.some.inj e).symm⟩
  · rw [if_neg hp] at e
    cases e
theorem pw_4 {p m l v : Nat} (h : pword p m l v = true) (hp : ¬ p < 4) : m < 10 := by
  unfold pword at h
  rw [if_neg hp] at h
  exact of_decide_eq_true h
theorem pow_lt8 {v : Nat} (h : v < 8) : 2 ^ v < 2 ^ 8 := Nat.pow_lt_pow_right (by decide) h
theorem RV_of {pg : Nat → Nat} : ∀ k s, wpre pg k = some s → RV pg k s
  | 0, s, h => by
    obtain rfl : (0, 0, 0) = s := Option.some.inj h
    refine ⟨⟨by decide, by decide, by decide⟩, rfl, rfl, rfl, fun d => ?_, rfl, fun j => ?_⟩
    · show [0, 0, 0, 0, 0].getD d 0 < 256
      rw [List.getD_eq_getElem?_getD]
      rcases d with _ | _ | _ | _ | _ | d <;> simp
    · show ([] : List Nat).getD j 0 < 8
      rw [List.getD_eq_getElem?_getD]
      simp
  | k + 1, s', h => by
    cases e : wpre pg k with
    | none =>
      rw [wpre_n e] at h
      cases h
    | some s =>
      rw [wpre_s e] at h
      obtain ⟨o, r1, r2, r3, r4, r5, r6⟩ := RV_of k s e
      have o' := wstep_ok o h
      by_cases hl : 97 ≤ pg k ∧ pg k < 105
      · obtain ⟨hp, rfl⟩ := wstep_l h hl
        by_cases h4 : (rdc pg k).1 < 4
        · unfold RV
          rw [rdc_l hl h4]
          refine ⟨o', r1, ?_, by simp only [List.length_set]; exact r3, fun d => ?_, ?_, r6⟩
          · have : ¬ s.1 = 4 := by omega
            simp only [if_neg this] at r2 ⊢
            exact r2
          · simp only [getD_set]
            split
            · exact Nat.or_lt_two_pow (n := 8) (r4 _) (pow_lt8 (by omega))
            · exact r4 d
          · simp only [getD_set]
            rw [if_neg (by omega)]
            exact r5
        · unfold RV
          rw [rdc_r hl h4]
          have h5 : s.1 = 4 := by have := o.1; omega
          refine ⟨o', r1, ?_, r3, r4, r5, fun j => ?_⟩
          · simp only [List.length_append, List.length_singleton]
            rw [if_pos h5] at r2 ⊢
            omega
          · simp only [getD_app]
            split
            · exact r6 j
            · split
              · omega
              · decide
      · obtain ⟨h4, hm, hc, rfl⟩ := wstep_o h hl
        unfold RV
        rw [rdc_o hl]
        refine ⟨o', by simp only; omega, ?_, r3, r4, r5, r6⟩
        have : ¬ s.1 = 4 := by omega
        rw [if_neg this] at r2
        simp only [r2]
        split <;> rfl
theorem wcourt_pre {pg : Nat → Nat} {n : Nat} (h : wcourt pg n = true) : ∃ s, wpre pg n = some s ∧ s.1 = 4 ∧ 0 < s.2.1 := by
  unfold wcourt at h
  obtain ⟨h1, h2, h3⟩ := of_decide_eq_true h
  have := wfa_pre (pg := pg) n 0 (0, 0, 0) rfl (by omega)
  rw [Nat.zero_add] at this
  exact ⟨_, this, h2, h3⟩
theorem list5 {l : List Nat} (h : l.length = 5) (h2 : ∀ i, i < 5 → l.getD i 0 = 0) : l = [0, 0, 0, 0, 0] := by
  apply List.ext_getElem?
  intro i
  by_cases hi : i < 5
  · have h3 := h2 i hi
    rw [List.getD_eq_getElem?_getD, List.getElem?_eq_getElem (by omega)] at h3
    rw [List.getElem?_eq_getElem (by omega)]
    have h4 : l[i] = 0 := h3
    rw [h4]
    rcases i with _ | _ | _ | _ | _ | i
    · rfl
    · rfl
    · rfl
    · rfl
    · rfl
    · omega
  · rw [List.getElem?_eq_none (by omega), List.getElem?_eq_none (by simp; omega)]
theorem s3_ {σ : aH} {a b c : aT} {j : Nat} (h : 2 ≤ j) : (((σ.set 1 a).set 0 b).set 0 c)[j]? = σ[j]? := by
  rw [List.getElem?_set_ne (by omega), List.getElem?_set_ne (by omega), List.getElem?_set_ne (by omega)]
theorem nm_ {l : List Nat} {b j : Nat} (hj : b ≤ j) (h : ∀ i ∈ l, i < b) : j ∉ l := fun z => by have := h j z; omega
set_option maxRecDepth 20000 in
theorem c_readCourt {σ : aH} {t : St} (hI : IX t σ) (hwf : WF t) {s : Nat × Nat × Nat} (hpre : wpre (shW (pgO t)) (pgO t).length = some s) : MX11_readCourt 2 0 0 [.ref 0] σ (fun v σ' => v = none ∧ EqO [4, 6, 7, 8, 9] σ σ' ∧ σ'[4]? = some (aA (rdc (shW (pgO t)) (pgO t).length).2.1) ∧ IS 6 (shW (rdc (shW (pgO t)) (pgO t).length).2.1) ((rdc (shW (pgO t)) (pgO t).length).2.2, 2, [], 0, []) σ') := by
  refine sX11_readCourt (Nat.le_of_ble_eq_true rfl) ?_
  have hI' := hI
  have hwf' := hwf
  obtain ⟨cd, x0, x1, x2, mr, dws, dsz, bp, bw, bs, e0, e1, e2, e3, e4, e5, e20, e21, e22, e23, e24, ⟨ws, wm, dm, hid, e6, e7, e8, e9, e10, e11, e12, lws, hws, lwm, ldm, bwm, lhid, hhid, hhd⟩, hk, hki, lcd, hcd, bcd, lmr, ldws, lbp, lbw, hmen⟩ := hI
  obtain ⟨w1, w2, w3, w4, w5, ⟨w6, w7, w8, w9, w10, w11, w12⟩, w13, w14, w15, w16, w17⟩ := hwf
  refine g_aload eX11_readCourt_0 rfl ?_
  refine g_get eX11_readCourt_1 fX11_29_X11 e0 (by rfl) ?_
  refine g_callV0 (r := (RX8, TX8, 6)) eX11_readCourt_4 kX11_241 e6 (by rfl) (c_stBegin ⟨ws, wm, dm, hid, _, _, _, _, _, e6, e7, e8, e9, e10, e11, e12, lws, lwm, ldm, lhid⟩) (by rfl) (by rfl) (by exact Nat.le_of_ble_eq_true rfl) (by exact Nat.le_of_ble_eq_true rfl) (by exact Nat.le_of_ble_eq_true rfl) (Nat.le_refl _) (Nat.le_refl _) (fun v4 σ4 hp4 hn4 => ?_)
  obtain ⟨rfl, hE1, ws0, _, _, _, k6, k7, k8, k9, -, -, -, lws0, -, -, -⟩ := hp4
  have e0 := hE1.at (by decide) e0
  have e1 := hE1.at (by decide) e1
  have e2 := hE1.at (by decide) e2
  have e4 := hE1.at (by decide) e4
  have e10 := hE1.at (by decide) e10
  have e11 := hE1.at (by decide) e11
  have e12 := hE1.at (by decide) e12
  have key1 : ∀ d k τ ws o, k + d = (pgO t).length → EqO [4, 7, 8] σ4 τ → τ[4]? = some (aA (rdc (shW (pgO t)) k).2.1) → τ[7]? = some (aO 6 [.ref 8, .int (nI (rdc (shW (pgO t)) k).2.2.length)]) → τ[8]? = some (aA ws) → ws.length = 10 → (∀ j, j < (rdc (shW (pgO t)) k).2.2.length → ws.getD j 0 = (rdc (shW (pgO t)) k).2.2.getD j 0) → GX11_readCourt 2 0 0 (fun v σ' => v = none ∧ EqO [4, 6, 7, 8, 9] σ σ' ∧ σ'[4]? = some (aA (rdc (shW (pgO t)) (pgO t).length).2.1) ∧ IS 6 (shW (rdc (shW (pgO t)) (pgO t).length).2.1) ((rdc (shW (pgO t)) (pgO t).length).2.2, 2, [], 0, []) σ') 0 0 31 [some (.ref 0), some (.int (nI (rdc (shW (pgO t)) k).1)), some (.int (nI k)), o] [] τ := by
    intro d
    induction d with
    | zero =>
      intro k τ ws o hk hE2 q4 q7 q8 lws hws
      obtain rfl : k = (pgO t).length := by omega
      have e0 := hE2.at (by decide) e0
      have e1 := hE2.at (by decide) e1
      refine g_iload eX11_readCourt_31 rfl ?_
      refine g_aload eX11_readCourt_32 rfl ?_
      refine g_get eX11_readCourt_33 fX11_10_X11 e0 (by rfl) ?_
      refine g_callVp (r := (RX5, TX5, 3)) eX11_readCourt_36 kX11_54 e1 (by rfl) (c_psize e1) (by rfl) (by rfl) (by exact Nat.le_of_ble_eq_true rfl) (by exact Nat.le_of_ble_eq_true rfl) (by exact Nat.le_of_ble_eq_true rfl) (Nat.le_refl _) (Nat.le_refl _) ?_
      refine g_icmp_geN eX11_readCourt_39 (by omega) (by omega) (fun c39 => ?_) (fun c39 => by exfalso; omega)
      exact g_ret eX11_readCourt_104 (Nat.le_refl _) (Nat.le_refl _) ⟨rfl, (hE1.mono (by decide)).tr (hE2.mono (by decide)), q4, ws, wm, dm, hid, hE2.at (by decide) k6, q7, q8, hE2.at (by decide) k9, hE2.at (by decide) e10, hE2.at (by decide) e11, hE2.at (by decide) e12, lws, hws, lwm, ldm, bwm, lhid, fun i hi => absurd hi (Nat.not_lt_zero i), fun i hi => absurd hi (Nat.not_lt_zero i)⟩
    | succ d ih =>
      intro k τ ws o hk hE2 q4 q7 q8 lws hws
      have e0 := hE2.at (by decide) e0
      have e1 := hE2.at (by decide) e1
      have e2 := hE2.at (by decide) e2
      have k6 := hE2.at (by decide) k6
      obtain ⟨s', hs'⟩ := wpre_le (k := k + 1) (d := d) (by rw [show k + 1 + d = (pgO t).length by omega]; exact hpre)
      obtain ⟨s0, hs0⟩ := wpre_le (k := k) (d := 1) hs'
      obtain ⟨o1, r1, r2, r3, r4, r5, r6⟩ := RV_of k s0 hs0
      have hst := (wpre_s hs0).symm.trans hs'
      have hck : (shW (pgO t)) k < 127 := w2 k
      have hcdk : cd.getD k 0 = (shW (pgO t)) k := hcd k (by omega)
      by_cases hl : 97 ≤ (shW (pgO t)) k ∧ (shW (pgO t)) k < 105
      · obtain ⟨hp, -⟩ := wstep_l hst hl
        by_cases h4 : (rdc (shW (pgO t)) k).1 < 4
        · have hnx := rdc_l hl h4
          have ih := ih (k + 1) (τ.set 4 (aA ((rdc (shW (pgO t)) k).2.1.set (rdc (shW (pgO t)) k).1 ((rdc (shW (pgO t)) k).2.1.getD (rdc (shW (pgO t)) k).1 0 ||| 2 ^ ((shW (pgO t)) k - 97))))) ws
          rw [hnx] at ih
          refine g_iload eX11_readCourt_31 rfl ?_
          refine g_aload eX11_readCourt_32 rfl ?_
          refine g_get eX11_readCourt_33 fX11_10_X11 e0 (by rfl) ?_
          refine g_callVp (r := (RX5, TX5, 3)) eX11_readCourt_36 kX11_54 e1 (by rfl) (c_psize e1) (by rfl) (by rfl) (by exact Nat.le_of_ble_eq_true rfl) (by exact Nat.le_of_ble_eq_true rfl) (by exact Nat.le_of_ble_eq_true rfl) (Nat.le_refl _) (Nat.le_refl _) ?_
          refine g_icmp_geN eX11_readCourt_39 (by omega) (by omega) (fun c39 => by exfalso; omega) (fun c39 => ?_)
          refine g_aload eX11_readCourt_42 rfl ?_
          refine g_get eX11_readCourt_43 fX11_10_X11 e0 (by rfl) ?_
          refine g_iload eX11_readCourt_46 rfl ?_
          refine g_callVp (r := (RX5, TX5, 3)) eX11_readCourt_47 kX11_220 e1 (by rfl) (c_codeAt e1 e2 lcd w1 (k := k) (by omega)) (by rfl) (by rfl) (by exact Nat.le_of_ble_eq_true rfl) (by exact Nat.le_of_ble_eq_true rfl) (by exact Nat.le_of_ble_eq_true rfl) (Nat.le_refl _) (Nat.le_refl _) ?_
          rw [hcdk]
          refine g_push eX11_readCourt_50 ?_
          refine g_isubN eX11_readCourt_52 (by omega) ?_
          refine g_istore eX11_readCourt_53 rfl ?_
          refine g_iload eX11_readCourt_54 rfl ?_
          refine g_callSp eX11_readCourt_55 kX11_93 (c_isWordT (j := (shW (pgO t)) k - 97) (by omega)) (by rfl) (by rfl) (by exact Nat.le_of_ble_eq_true rfl) (by exact Nat.le_of_ble_eq_true rfl) (by exact Nat.le_of_ble_eq_true rfl) (Nat.le_refl _) (Nat.le_refl _) ?_
          refine g_if_neN eX11_readCourt_58 (by omega) (fun c58 => ?_) (fun c58 => by exfalso; omega)
          refine g_iload eX11_readCourt_67 rfl ?_
          refine g_push eX11_readCourt_68 ?_
          refine g_icmp_geN eX11_readCourt_69 (by omega) (by omega) (fun c69 => by exfalso; omega) (fun c69 => ?_)
          refine g_aload eX11_readCourt_72 rfl ?_
          refine g_get eX11_readCourt_73 fX11_16_X11 e0 (by rfl) ?_
          refine g_iload eX11_readCourt_76 rfl ?_
          refine g_dup2 eX11_readCourt_77 rfl rfl ?_
          refine g_ialdN eX11_readCourt_78 q4 (by omega) (by omega) ?_
          refine g_push eX11_readCourt_79 ?_
          refine g_iload eX11_readCourt_80 rfl ?_
          refine g_ishlN eX11_readCourt_81 (by omega) (one_shl _ (by omega)) ?_
          refine g_iorN eX11_readCourt_82 ?_
          refine g_iastN eX11_readCourt_83 q4 (by omega) (by omega) ?_
          refine g_goto eX11_readCourt_84 ?_
          refine g_iincN eX11_readCourt_98 rfl rfl ?_
          refine g_goto eX11_readCourt_101 ?_
          rw [Nat.one_mul]
          exact ih _ (by omega) (hE2.st (by decide)) (at_eq q4) (at_ne (by decide) q7) (at_ne (by decide) q8) lws hws
        · have hnx := rdc_r hl h4
          have hm := pw_4 hp (by omega)
          have h5 : s0.1 = 4 := by have := o1.1; omega
          rw [if_pos h5] at r2
          have ih := ih (k + 1) ((τ.set 8 (aA (ws.set (rdc (shW (pgO t)) k).2.2.length ((shW (pgO t)) k - 97)))).set 7 (aO 6 [.ref 8, .int (nI ((rdc (shW (pgO t)) k).2.2.length + 1))])) (ws.set (rdc (shW (pgO t)) k).2.2.length ((shW (pgO t)) k - 97))
          rw [hnx] at ih
          refine g_iload eX11_readCourt_31 rfl ?_
          refine g_aload eX11_readCourt_32 rfl ?_
          refine g_get eX11_readCourt_33 fX11_10_X11 e0 (by rfl) ?_
          refine g_callVp (r := (RX5, TX5, 3)) eX11_readCourt_36 kX11_54 e1 (by rfl) (c_psize e1) (by rfl) (by rfl) (by exact Nat.le_of_ble_eq_true rfl) (by exact Nat.le_of_ble_eq_true rfl) (by exact Nat.le_of_ble_eq_true rfl) (Nat.le_refl _) (Nat.le_refl _) ?_
          refine g_icmp_geN eX11_readCourt_39 (by omega) (by omega) (fun c39 => by exfalso; omega) (fun c39 => ?_)
          refine g_aload eX11_readCourt_42 rfl ?_
          refine g_get eX11_readCourt_43 fX11_10_X11 e0 (by rfl) ?_
          refine g_iload eX11_readCourt_46 rfl ?_
          refine g_callVp (r := (RX5, TX5, 3)) eX11_readCourt_47 kX11_220 e1 (by rfl) (c_codeAt e1 e2 lcd w1 (k := k) (by omega)) (by rfl) (by rfl) (by exact Nat.le_of_ble_eq_true rfl) (by exact Nat.le_of_ble_eq_true rfl) (by exact Nat.le_of_ble_eq_true rfl) (Nat.le_refl _) (Nat.le_refl _) ?_
          rw [hcdk]
          refine g_push eX11_readCourt_50 ?_
          refine g_isubN eX11_readCourt_52 (by omega) ?_
          refine g_istore eX11_readCourt_53 rfl ?_
          refine g_iload eX11_readCourt_54 rfl ?_
          refine g_callSp eX11_readCourt_55 kX11_93 (c_isWordT (j := (shW (pgO t)) k - 97) (by omega)) (by rfl) (by rfl) (by exact Nat.le_of_ble_eq_true rfl) (by exact Nat.le_of_ble_eq_true rfl) (by exact Nat.le_of_ble_eq_true rfl) (Nat.le_refl _) (Nat.le_refl _) ?_
          refine g_if_neN eX11_readCourt_58 (by omega) (fun c58 => ?_) (fun c58 => by exfalso; omega)
          refine g_iload eX11_readCourt_67 rfl ?_
          refine g_push eX11_readCourt_68 ?_
          refine g_icmp_geN eX11_readCourt_69 (by omega) (by omega) (fun c69 => ?_) (fun c69 => by exfalso; omega)
          refine g_aload eX11_readCourt_87 rfl ?_
          refine g_get eX11_readCourt_88 fX11_29_X11 e0 (by rfl) ?_
          refine g_get eX11_readCourt_91 fX11_79_X8 k6 (by rfl) ?_
          refine g_iload eX11_readCourt_94 rfl ?_
          refine g_callVp (r := (RX6, TX6, 2)) eX11_readCourt_95 kX11_244 q7 (by rfl) (c_add (x := (shW (pgO t)) k - 97) q7 q8 lws (by omega) (by decide) (by omega)) (by rfl) (by rfl) (by exact Nat.le_of_ble_eq_true rfl) (by exact Nat.le_of_ble_eq_true rfl) (by exact Nat.le_of_ble_eq_true rfl) (Nat.le_refl _) (Nat.le_refl _) ?_
          refine g_iincN eX11_readCourt_98 rfl rfl ?_
          refine g_goto eX11_readCourt_101 ?_
          refine ih _ (by omega) ((hE2.st (by decide)).st (by decide)) (at_ne (by decide) (at_ne (by decide) q4)) (by simp only [List.length_append, List.length_singleton]; exact at_eq (at_ne (by decide) q7)) (at_ne (by decide) (at_eq q8)) (by rw [List.length_set]; exact lws) (fun j hj => ?_)
          simp only [List.length_append, List.length_singleton] at hj
          simp only [getD_app, getD_set, lws]
          by_cases hj2 : j < (rdc (shW (pgO t)) k).2.2.length
          · rw [if_neg (by omega), if_pos hj2]
            exact hws j hj2
          · rw [if_pos (by omega), if_neg hj2, if_pos (by omega)]
      · obtain ⟨h4, hm, hc, -⟩ := wstep_o hst hl
        have hnx := rdc_o hl
        have ih := ih (k + 1) τ ws
        rw [hnx] at ih
        have hcc : (shW (pgO t)) k = 59 ∨ (shW (pgO t)) k = 44 := by
          rw [hc]
          split
          · exact Or.inl rfl
          · exact Or.inr rfl
        have hng : (nI ((shW (pgO t)) k) - nI 97).toInt < 0 ∨ ((8 : Nat) : Int) ≤ (nI ((shW (pgO t)) k) - nI 97).toInt := by
          rcases hcc with z | z <;> rw [z] <;> decide
        refine g_iload eX11_readCourt_31 rfl ?_
        refine g_aload eX11_readCourt_32 rfl ?_
        refine g_get eX11_readCourt_33 fX11_10_X11 e0 (by rfl) ?_
        refine g_callVp (r := (RX5, TX5, 3)) eX11_readCourt_36 kX11_54 e1 (by rfl) (c_psize e1) (by rfl) (by rfl) (by exact Nat.le_of_ble_eq_true rfl) (by exact Nat.le_of_ble_eq_true rfl) (by exact Nat.le_of_ble_eq_true rfl) (Nat.le_refl _) (Nat.le_refl _) ?_
        refine g_icmp_geN eX11_readCourt_39 (by omega) (by omega) (fun c39 => by exfalso; omega) (fun c39 => ?_)
        refine g_aload eX11_readCourt_42 rfl ?_
        refine g_get eX11_readCourt_43 fX11_10_X11 e0 (by rfl) ?_
        refine g_iload eX11_readCourt_46 rfl ?_
        refine g_callVp (r := (RX5, TX5, 3)) eX11_readCourt_47 kX11_220 e1 (by rfl) (c_codeAt e1 e2 lcd w1 (k := k) (by omega)) (by rfl) (by rfl) (by exact Nat.le_of_ble_eq_true rfl) (by exact Nat.le_of_ble_eq_true rfl) (by exact Nat.le_of_ble_eq_true rfl) (Nat.le_refl _) (Nat.le_refl _) ?_
        rw [hcdk]
        refine g_push eX11_readCourt_50 ?_
        refine g_isub eX11_readCourt_52 ?_
        refine g_istore eX11_readCourt_53 rfl ?_
        refine g_iload eX11_readCourt_54 rfl ?_
        refine g_callSp eX11_readCourt_55 kX11_93 (c_isWordN hng) (by rfl) (by rfl) (by exact Nat.le_of_ble_eq_true rfl) (by exact Nat.le_of_ble_eq_true rfl) (by exact Nat.le_of_ble_eq_true rfl) (Nat.le_refl _) (Nat.le_refl _) ?_
        refine g_if_neN eX11_readCourt_58 (by omega) (fun c58 => absurd rfl c58) (fun c58 => ?_)
        refine g_iincN eX11_readCourt_61 rfl rfl ?_
        refine g_goto eX11_readCourt_64 ?_
        refine g_iincN eX11_readCourt_98 rfl rfl ?_
        refine g_goto eX11_readCourt_101 ?_
        exact ih _ (by omega) hE2 q4 q7 q8 lws hws
  have key0 : ∀ d j τ nr', j + d = 5 → EqO [4] σ4 τ → τ[4]? = some (aA nr') → nr'.length = 5 → (∀ i, i < j → nr'.getD i 0 = 0) → GX11_readCourt 2 0 0 (fun v σ' => v = none ∧ EqO [4, 6, 7, 8, 9] σ σ' ∧ σ'[4]? = some (aA (rdc (shW (pgO t)) (pgO t).length).2.1) ∧ IS 6 (shW (rdc (shW (pgO t)) (pgO t).length).2.1) ((rdc (shW (pgO t)) (pgO t).length).2.2, 2, [], 0, []) σ') 0 0 9 [some (.ref 0), some (.int (nI j)), none, none] [] τ := by
    intro d
    induction d with
    | zero =>
      intro j τ nr' hj hE2 q4 lnr hz
      obtain rfl : j = 5 := by omega
      obtain rfl := list5 lnr hz
      refine g_iload eX11_readCourt_9 rfl ?_
      refine g_push eX11_readCourt_10 ?_
      refine g_icmp_geN eX11_readCourt_11 (by omega) (by omega) (fun c11 => ?_) (fun c11 => by exfalso; omega)
      refine g_push eX11_readCourt_27 ?_
      refine g_istore eX11_readCourt_28 rfl ?_
      refine g_push eX11_readCourt_29 ?_
      refine g_istore eX11_readCourt_30 rfl ?_
      exact key1 (pgO t).length 0 τ ws0 _ (by omega) (hE2.mono (by decide)) q4 (hE2.at (by decide) k7) (hE2.at (by decide) k8) lws0 (fun j hj => absurd hj (Nat.not_lt_zero j))
    | succ d ih =>
      intro j τ nr' hj hE2 q4 lnr hz
      have e0 := hE2.at (by decide) e0
      refine g_iload eX11_readCourt_9 rfl ?_
      refine g_push eX11_readCourt_10 ?_
      refine g_icmp_geN eX11_readCourt_11 (by omega) (by omega) (fun c11 => by exfalso; omega) (fun c11 => ?_)
      refine g_aload eX11_readCourt_14 rfl ?_
      refine g_get eX11_readCourt_15 fX11_16_X11 e0 (by rfl) ?_
      refine g_iload eX11_readCourt_18 rfl ?_
      refine g_push eX11_readCourt_19 ?_
      refine g_iastN eX11_readCourt_20 q4 (by omega) (by omega) ?_
      refine g_iincN eX11_readCourt_21 rfl rfl ?_
      refine g_goto eX11_readCourt_24 ?_
      refine ih (j + 1) _ _ (by omega) (hE2.st (by decide)) (at_eq q4) (by rw [List.length_set]; exact lnr) (fun i hi => ?_)
      rw [getD_set]
      split
      · rfl
      · exact hz i (by omega)
  
  refine g_push eX11_readCourt_7 ?_
  refine g_istore eX11_readCourt_8 rfl ?_
  exact key0 5 0 σ4 (nrO t) rfl EqO.rf e4 w3 (fun i hi => absurd hi (Nat.not_lt_zero i))
set_option maxRecDepth 20000 in
theorem x_court {σ : aH} {t : St} (hI : IX t σ) (hwf : WF t)  : MX11_court 4 0 0 [.ref 0] σ (fun v σ' => v = some (.int (oCourt t).1) ∧ IX (oCourt t).2 σ' ∧ FrX σ σ') := by
  refine sX11_court (Nat.le_of_ble_eq_true rfl) ?_
  have hI' := hI
  have hwf' := hwf
  obtain ⟨cd, x0, x1, x2, mr, dws, dsz, bp, bw, bs, e0, e1, e2, e3, e4, e5, e20, e21, e22, e23, e24, ⟨ws, wm, dm, hid, e6, e7, e8, e9, e10, e11, e12, lws, hws, lwm, ldm, bwm, lhid, hhid, hhd⟩, hk, hki, lcd, hcd, bcd, lmr, ldws, lbp, lbw, hmen⟩ := hI
  obtain ⟨w1, w2, w3, w4, w5, ⟨w6, w7, w8, w9, w10, w11, w12⟩, w13, w14, w15, w16, w17⟩ := hwf
  have hcc : wcourt (shW cd) (pgO t).length = wcourt (shW (pgO t)) (pgO t).length := wcourt_congr (fun j hj => hcd j hj)
  unfold oCourt
  by_cases hf : wcourt (shW (pgO t)) (pgO t).length = false
  · rw [if_neg (show ¬ wcourt (shW (pgO t)) (pgO t).length = true from Bool.eq_false_iff.mp hf)]
    refine g_aload eX11_court_0 rfl ?_
    refine g_get eX11_court_1 fX11_10_X11 e0 (by rfl) ?_
    refine g_callVp (r := (RX5, TX5, 3)) eX11_court_4 kX11_64 e1 (by rfl) (c_isCourt e1 e2 lcd w1 e3 (by decide) (by decide) bcd) (by rfl) (by rfl) (by exact Nat.le_of_ble_eq_true rfl) (by exact Nat.le_of_ble_eq_true rfl) (by exact Nat.le_of_ble_eq_true rfl) (Nat.le_refl _) (Nat.le_refl _) ?_
    rw [hcc, hf]
    refine g_if_neN eX11_court_7 (bt_lt _) (fun c7 => absurd rfl c7) (fun c7 => ?_)
    refine g_push eX11_court_10 ?_
    exact g_ret (eX11_court_12 _) (Nat.le_refl _) (Nat.le_refl _) ⟨rfl, hI'.junk (EqO.rf.st (by decide)) (at_eq e3) (at_ne (by decide) e20) (at_ne (by decide) e21) (at_ne (by decide) e22) (at_ne (by decide) e23) (at_ne (by decide) e24) ldws lbp lbw, FrX.rf.st (by decide)⟩
  · have hw : wcourt (shW (pgO t)) (pgO t).length = true := Bool.not_eq_false _ ▸ hf
    rw [if_pos hw]
    refine g_aload eX11_court_0 rfl ?_
    refine g_get eX11_court_1 fX11_10_X11 e0 (by rfl) ?_
    refine g_callVp (r := (RX5, TX5, 3)) eX11_court_4 kX11_64 e1 (by rfl) (c_isCourt e1 e2 lcd w1 e3 (by decide) (by decide) bcd) (by rfl) (by rfl) (by exact Nat.le_of_ble_eq_true rfl) (by exact Nat.le_of_ble_eq_true rfl) (by exact Nat.le_of_ble_eq_true rfl) (Nat.le_refl _) (Nat.le_refl _) ?_
    rw [hcc, hw]
    have hJ : IX t (σ.set 3 (wO (wfa (shW cd) (pgO t).length 0 (0, 0, 0)).2)) := hI'.junk (EqO.rf.st (by decide)) (at_eq e3) (at_ne (by decide) e20) (at_ne (by decide) e21) (at_ne (by decide) e22) (at_ne (by decide) e23) (at_ne (by decide) e24) ldws lbp lbw
    have hJ' := hJ
    obtain ⟨s, hpre, hs4, hs0⟩ := wcourt_pre hw
    have hF0 : FrX σ (σ.set 3 (wO (wfa (shW cd) (pgO t).length 0 (0, 0, 0)).2)) := FrX.rf.st (by decide)
    generalize σ.set 3 (wO (wfa (shW cd) (pgO t).length 0 (0, 0, 0)).2) = τ at *
    refine g_if_neN eX11_court_7 (bt_lt _) (fun c7 => ?_) (fun c7 => absurd c7 (by decide))
    obtain ⟨cd, x0, x1, x2, mr, dws, dsz, bp, bw, bs, e0, e1, e2, e3, e4, e5, e20, e21, e22, e23, e24, hn, hk, hki, lcd, hcd, bcd, lmr, ldws, lbp, lbw, hmen⟩ := hJ'
    refine g_aload eX11_court_13 rfl ?_
    refine g_callV0 (r := (RX11, TX11, 10)) eX11_court_14 kX11_68 e0 (by rfl) (c_readCourt hJ hwf' hpre) (by rfl) (by rfl) (by exact Nat.le_of_ble_eq_true rfl) (by exact Nat.le_of_ble_eq_true rfl) (by exact Nat.le_of_ble_eq_true rfl) (Nat.le_refl _) (Nat.le_refl _) (fun v14 σ14 hp14 hn14 => ?_)
    obtain ⟨rfl, hE, g4, hIS⟩ := hp14
    have e0 := hE.at (by decide) e0
    have e1 := hE.at (by decide) e1
    have e2 := hE.at (by decide) e2
    have e3 := hE.at (by decide) e3
    have e5 := hE.at (by decide) e5
    have e20 := hE.at (by decide) e20
    have e21 := hE.at (by decide) e21
    have e22 := hE.at (by decide) e22
    have e23 := hE.at (by decide) e23
    have e24 := hE.at (by decide) e24
    have hIS' := hIS
    obtain ⟨vs, wm, dm, hid, f6, f7, f8, f9, f10, f11, f12, -⟩ := hIS
    refine g_aload eX11_court_17 rfl ?_
    refine g_get eX11_court_18 fX11_10_X11 e0 (by rfl) ?_
    refine g_callVp (r := (RX5, TX5, 3)) eX11_court_21 kX11_58 e1 (by rfl) (c_pclear e1) (by rfl) (by rfl) (by exact Nat.le_of_ble_eq_true rfl) (by exact Nat.le_of_ble_eq_true rfl) (by exact Nat.le_of_ble_eq_true rfl) (Nat.le_refl _) (Nat.le_refl _) ?_
    refine g_aload eX11_court_24 rfl ?_
    refine g_push eX11_court_25 ?_
    refine g_putZ eX11_court_26 fX11_71_X11 pX11_7 (Or.inl rfl) (at_ne (by decide) e0) (by exact Nat.le_of_ble_eq_true rfl) ?_
    refine g_aload eX11_court_29 rfl ?_
    refine g_dup eX11_court_30 rfl ?_
    refine g_get eX11_court_31 fX11_75_X11 (at_eq (at_ne (by decide) e0)) (by rfl) ?_
    refine g_push eX11_court_34 ?_
    refine g_iaddN eX11_court_35 ?_
    refine g_putI eX11_court_36 fX11_75_X11 pX11_8 (at_eq (at_ne (by decide) e0)) (by exact Nat.le_of_ble_eq_true rfl) ?_
    refine g_aload eX11_court_39 rfl ?_
    refine g_get eX11_court_40 fX11_29_X11 (at_eq (at_eq (at_ne (by decide) e0))) (by rfl) ?_
    refine g_get eX11_court_43 fX11_79_X8 (at_ne (by decide) (at_ne (by decide) (at_ne (by decide) f6))) (by rfl) ?_
    refine g_callVp (r := (RX6, TX6, 2)) eX11_court_46 kX11_82 (at_ne (by decide) (at_ne (by decide) (at_ne (by decide) f7))) (by rfl) (c_size (at_ne (by decide) (at_ne (by decide) (at_ne (by decide) f7)))) (by rfl) (by rfl) (by exact Nat.le_of_ble_eq_true rfl) (by exact Nat.le_of_ble_eq_true rfl) (by exact Nat.le_of_ble_eq_true rfl) (Nat.le_refl _) (Nat.le_refl _) ?_
    exact g_ret (eX11_court_49 _) (Nat.le_refl _) (Nat.le_refl _) ⟨rfl, ⟨cd, x0, x1, x2, mr, dws, dsz, bp, bw, bs, at_eq (at_eq (at_ne (by decide) e0)), at_ne (by decide) (at_ne (by decide) (at_eq e1)), (at_ne (by decide) (at_ne (by decide) (at_ne (by decide) e2))), (at_ne (by decide) (at_ne (by decide) (at_ne (by decide) e3))), (at_ne (by decide) (at_ne (by decide) (at_ne (by decide) g4))), (at_ne (by decide) (at_ne (by decide) (at_ne (by decide) e5))), (at_ne (by decide) (at_ne (by decide) (at_ne (by decide) e20))), (at_ne (by decide) (at_ne (by decide) (at_ne (by decide) e21))), (at_ne (by decide) (at_ne (by decide) (at_ne (by decide) e22))), (at_ne (by decide) (at_ne (by decide) (at_ne (by decide) e23))), (at_ne (by decide) (at_ne (by decide) (at_ne (by decide) e24))), hIS'.at (fun j a b => s3_ (by omega)), (hk.at (fun j a b => hE.2 j (nm_ a (by decide)))).at (fun j a b => s3_ (by omega)), (fun c hc => nomatch (show (none : Option Cr) = some c from hc)), lcd, fun k hk => absurd hk (Nat.not_lt_zero k), bcd, lmr, ldws, lbp, lbw, fun i hi => absurd hi (Nat.not_lt_zero i)⟩, ((((hF0.tr (hE.fr (by decide))).st (by decide)).st (by decide)).st (by decide))⟩

