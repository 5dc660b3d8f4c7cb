/-! SHORT, as the class seeks it; a state begun, a state copied -/
def prT (near : Nat → Nat) (w : Nat) : Nat := msk (fun p => ((near ([0, 0, 0, 0, 1, 1, 1, 2, 2, 3].getD p 0) ^^^ near ([1, 2, 3, 4, 2, 3, 4, 3, 4, 4].getD p 0)) : Nat).testBit w) 10
theorem prT_lt (near : Nat → Nat) (w : Nat) : prT near w < 1024 := msk_lt _ _
def fshL (F : Nat → Option Nat) : Nat → Nat → Option Nat
  | 0, _ => none
  | d + 1, w => match F w with
    | some c => some c
    | none => fshL F d (w + 1)
theorem fshL_some {F : Nat → Option Nat} {d w c : Nat} (e : F w = some c) : fshL F (d + 1) w = some c := by simp only [fshL, e]
theorem fshL_none {F : Nat → Option Nat} {d w : Nat} (e : F w = none) : fshL F (d + 1) w = fshL F d (w + 1) := by simp only [fshL, e]
def fsh (pt : Nat → Nat) : Nat → Nat → Nat → Nat → Option Nat
  | 0, _, told, code => if told = 1023 then some code else none
  | m + 1, least, told, code => fshL (fun w => fsh pt m (w + 1) (told ||| pt w) (code * 2 ^ 3 ||| w)) (8 - least) least
def brfL (pt : Nat → Nat) : Nat → Nat → Option (Nat × Nat)
  | 0, _ => none
  | d + 1, l => match fsh pt l 0 0 0 with
    | some c => some (l, c)
    | none => brfL pt d (l + 1)
theorem brfL_some {pt : Nat → Nat} {d l c : Nat} (e : fsh pt l 0 0 0 = some c) : brfL pt (d + 1) l = some (l, c) := by simp only [brfL, e]
theorem brfL_none {pt : Nat → Nat} {d l : Nat} (e : fsh pt l 0 0 0 = none) : brfL pt (d + 1) l = brfL pt d (l + 1) := by simp only [brfL, e]
def brf (near : Nat → Nat) : Option (Nat × Nat) := brfL (prT near) 4 1
theorem oI_none2 {o : Option Nat} {n : Nat} (h : ∀ k, o = some k → k < n) (hn : n ≤ 100000) (he : oI o = -1) : o = none := by
  cases o with
  | none => rfl
  | some k =>
    have h1 := h k rfl
    have h2 := congrArg Int32.toInt he
    have h3 : (oI (some k)).toInt = (k : Int) := nI_toInt (by omega)
    rw [h3, show (-1 : Int32).toInt = -1 from rfl] at h2
    omega
theorem oI_some2 {o : Option Nat} {n : Nat} (h : ∀ k, o = some k → k < n) (hne : ¬ oI o = -1) : ∃ k, o = some k ∧ k < n := by
  cases o with
  | none => exact absurd rfl hne
  | some k => exact ⟨k, rfl, h k rfl⟩
theorem fshL_lt {F : Nat → Option Nat} {b : Nat} : ∀ d w, w + d ≤ 8 → (∀ w c, w < 8 → F w = some c → c < b) → ∀ c, fshL F d w = some c → c < b
  | 0, w, _, _, c, h => by cases h
  | d + 1, w, hw, hF, c, h => by
    cases e : F w with
    | some c' => rw [fshL_some e] at h; cases h; exact hF w c (by omega) e
    | none => rw [fshL_none e] at h; exact fshL_lt d (w + 1) (by omega) hF c h
theorem fsh_lt (pt : Nat → Nat) : ∀ m least told code b, m + b ≤ 4 → least ≤ 8 → code < 8 ^ b → ∀ c, fsh pt m least told code = some c → c < 8 ^ (m + b)
  | 0, least, told, code, b, hb, hl, hc, c, h => by
    unfold fsh at h
    split at h
    · cases h; rw [Nat.zero_add]; exact hc
    · cases h
  | m + 1, least, told, code, b, hb, hl, hc, c, h => by
    unfold fsh at h
    refine fshL_lt (8 - least) least (by omega) (fun w c hw e => ?_) c h
    have h2 := fsh_lt pt m (w + 1) (told ||| pt w) (code * 2 ^ 3 ||| w) (b + 1) (by omega) (by omega) ?_ c e
    · rw [show m + 1 + b = m + (b + 1) by omega]
      exact h2
    · rw [show (8 : Nat) ^ (b + 1) = 2 ^ (3 * (b + 1)) by rw [Nat.pow_mul]]
      refine Nat.or_lt_two_pow ?_ ?_
      · have h3 : (8 : Nat) ^ b = 2 ^ (3 * b) := by rw [Nat.pow_mul]
        rw [h3] at hc
        rw [show 3 * (b + 1) = 3 * b + 3 by omega, Nat.pow_add]
        exact Nat.mul_lt_mul_of_pos_right hc (by decide)
      · exact Nat.lt_of_lt_of_le hw (show 2 ^ 3 ≤ 2 ^ (3 * (b + 1)) from Nat.pow_le_pow_right (by omega) (by omega))
def bsP (i : Nat) : Nat := [0, 4, 7, 9, 10, 10].getD i 0
def prB (near : Nat → Nat) (w p : Nat) : Bool := ((near ([0, 0, 0, 0, 1, 1, 1, 2, 2, 3].getD p 0) ^^^ near ([1, 2, 3, 4, 2, 3, 4, 3, 4, 4].getD p 0)) : Nat).testBit w
theorem bsP_s : ∀ i, i < 5 → bsP i + 4 - i = bsP (i + 1) := by decide
theorem bsP_lt : ∀ i, i < 6 → bsP i ≤ 10 := by decide
theorem bsP_p : ∀ i, i < 5 → ∀ j, j < 5 → i < j → [0, 0, 0, 0, 1, 1, 1, 2, 2, 3].getD (bsP i + j - i - 1) 0 = i ∧ [1, 2, 3, 4, 2, 3, 4, 3, 4, 4].getD (bsP i + j - i - 1) 0 = j ∧ bsP i + j - i - 1 < 10 := by decide
theorem prB_ij {near : Nat → Nat} {w i j : Nat} (hi : i < 5) (hj : j < 5) (h : i < j) : prB near w (bsP i + j - i - 1) = (near i ^^^ near j : Nat).testBit w := by
  obtain ⟨a, b, -⟩ := bsP_p i hi j hj h
  unfold prB
  rw [a, b]
set_option maxRecDepth 20000 in
theorem c_pairsToldBy {σ : aH} {a w : Nat} {near : List Nat} (h1 : σ[a]? = some (aA near)) (hln : near.length = 5) (hnb : ∀ d, near.getD d 0 < 2 ^ 31) (hw : w < 8) : MX2_pairsToldBy 0 0 0 [.int (nI w), .ref a] σ (aPu (some (.int (nI (prT (shW near) w)))) σ) := by
  refine sX2_pairsToldBy (Nat.le_of_ble_eq_true rfl) ?_
  have key : ∀ d i, i + d = 5 → ∀ z, GX2_pairsToldBy 0 0 0 (aPu (some (.int (nI (prT (shW near) w)))) σ) 0 0 7 [some (.int (nI w)), some (.ref a), some (.int (nI (msk (prB (shW near) w) (bsP i)))), some (.int (nI (bsP i))), some (.int (nI i)), z] [] σ := by
    intro d
    induction d with
    | zero =>
      intro i hi z
      obtain rfl : i = 5 := by omega
      refine g_iload eX2_pairsToldBy_7 rfl ?_
      refine g_aload eX2_pairsToldBy_9 rfl ?_
      refine g_ilenN eX2_pairsToldBy_10 (by assumption) ?_
      refine g_icmp_geN eX2_pairsToldBy_11 (by omega) (by omega) (fun c11 => ?_) (fun c11 => by exfalso; omega)
      refine g_iload eX2_pairsToldBy_60 rfl ?_
      exact g_ret (eX2_pairsToldBy_61 _) (Nat.le_refl _) (Nat.le_refl _) ⟨rfl, rfl⟩
    | succ d ih =>
      intro i hi z
      have hi5 : i < 5 := by omega
      have inner : ∀ e j, j + e = 5 → i < j → GX2_pairsToldBy 0 0 0 (aPu (some (.int (nI (prT (shW near) w)))) σ) 0 0 20 [some (.int (nI w)), some (.ref a), some (.int (nI (msk (prB (shW near) w) (bsP i + j - i - 1)))), some (.int (nI (bsP i + j - i - 1))), some (.int (nI i)), some (.int (nI j))] [] σ := by
        intro e
        induction e with
        | zero =>
          intro j hj hij
          obtain rfl : j = 5 := by omega
          have hs := bsP_s i hi5
          rw [show bsP i + 5 - i - 1 = bsP (i + 1) by omega]
          refine g_iload eX2_pairsToldBy_20 rfl ?_
          refine g_aload eX2_pairsToldBy_22 rfl ?_
          refine g_ilenN eX2_pairsToldBy_23 (by assumption) ?_
          refine g_icmp_geN eX2_pairsToldBy_24 (by omega) (by omega) (fun c24 => ?_) (fun c24 => by exfalso; omega)
          refine g_iincN eX2_pairsToldBy_54 rfl rfl ?_
          refine g_goto eX2_pairsToldBy_57 ?_
          exact ih (i + 1) (by omega) _
        | succ e ihe =>
          intro j hj hij
          have hb := bsP_lt i (by omega)
          have hj5 : j < 5 := by omega
          have hpp := (bsP_p i hi5 j hj5 hij).2.2
          refine g_iload eX2_pairsToldBy_20 rfl ?_
          refine g_aload eX2_pairsToldBy_22 rfl ?_
          refine g_ilenN eX2_pairsToldBy_23 (by assumption) ?_
          refine g_icmp_geN eX2_pairsToldBy_24 (by omega) (by omega) (fun c24 => by exfalso; omega) (fun c24 => ?_)
          refine g_iload eX2_pairsToldBy_27 rfl ?_
          refine g_aload eX2_pairsToldBy_28 rfl ?_
          refine g_iload eX2_pairsToldBy_29 rfl ?_
          refine g_ialdN eX2_pairsToldBy_31 (by assumption) (by omega) (by omega) ?_
          refine g_aload eX2_pairsToldBy_32 rfl ?_
          refine g_iload eX2_pairsToldBy_33 rfl ?_
          refine g_ialdN eX2_pairsToldBy_35 (by assumption) (by omega) (by omega) ?_
          refine g_ixorN eX2_pairsToldBy_36 ?_
          refine g_iload eX2_pairsToldBy_37 rfl ?_
          refine g_ishrN eX2_pairsToldBy_38 (Nat.xor_lt_two_pow (n := 31) (hnb _) (hnb _)) (by omega) ?_
          refine g_push eX2_pairsToldBy_39 ?_
          refine g_iandN eX2_pairsToldBy_40 ?_
          refine g_iload eX2_pairsToldBy_41 rfl ?_
          refine g_ishlN eX2_pairsToldBy_42 (by omega) (bit_shl _ _ (by omega)) ?_
          refine g_iorN eX2_pairsToldBy_43 ?_
          refine g_istore eX2_pairsToldBy_44 rfl ?_
          refine g_iincN eX2_pairsToldBy_45 rfl rfl ?_
          refine g_iincN eX2_pairsToldBy_48 rfl rfl ?_
          refine g_goto eX2_pairsToldBy_51 ?_
          rw [nbit, ← prB_ij (near := shW near) hi5 hj5 hij, show bsP i + j - i - 1 + 1 = bsP i + (j + 1) - i - 1 by omega]
          have h2 := ihe (j + 1) (by omega) (by omega)
          rw [show bsP i + (j + 1) - i - 1 = bsP i + j - i - 1 + 1 by omega] at h2 ⊢
          exact h2
      refine g_iload eX2_pairsToldBy_7 rfl ?_
      refine g_aload eX2_pairsToldBy_9 rfl ?_
      refine g_ilenN eX2_pairsToldBy_10 (by assumption) ?_
      refine g_icmp_geN eX2_pairsToldBy_11 (by omega) (by omega) (fun c11 => by exfalso; omega) (fun c11 => ?_)
      refine g_iload eX2_pairsToldBy_14 rfl ?_
      refine g_push eX2_pairsToldBy_16 ?_
      refine g_iaddN eX2_pairsToldBy_17 ?_
      refine g_istore eX2_pairsToldBy_18 rfl ?_
      have h2 := inner (4 - i) (i + 1) (by omega) (by omega)
      rw [show bsP i + (i + 1) - i - 1 = bsP i by omega] at h2
      exact h2
  refine g_push eX2_pairsToldBy_0 ?_
  refine g_istore eX2_pairsToldBy_1 rfl ?_
  refine g_push eX2_pairsToldBy_2 ?_
  refine g_istore eX2_pairsToldBy_3 rfl ?_
  refine g_push eX2_pairsToldBy_4 ?_
  refine g_istore eX2_pairsToldBy_5 rfl ?_
  exact key 5 0 rfl _
set_option maxRecDepth 20000 in
theorem c_firstSheet {σ : aH} {a : Nat} {pt : List Nat} (h1 : σ[a]? = some (aA pt)) (hlp : pt.length = 8) (hpb : ∀ w, pt.getD w 0 < 1024) : ∀ (m least told code b : Nat), m + b ≤ 4 → least ≤ 8 → told < 1024 → code < 8 ^ b → MX2_firstSheet m 0 0 [.ref a, .int (nI m), .int (nI least), .int (nI told), .int (nI code)] σ (aPu (some (.int (oI (fsh (shW pt) m least told code)))) σ) := by
  intro m
  induction m with
  | zero =>
    intro least told code b hb hl ht hc
    refine sX2_firstSheet (Nat.le_of_ble_eq_true rfl) ?_
    have hc4 : code < 4096 := Nat.lt_of_lt_of_le hc (show 8 ^ b ≤ 8 ^ 4 from Nat.pow_le_pow_right (by omega) (by omega))
    refine g_iload eX2_firstSheet_0 rfl ?_
    refine g_if_gtN eX2_firstSheet_1 (by omega) (fun c1 => by exfalso; omega) (fun c1 => ?_)
    refine g_iload eX2_firstSheet_4 rfl ?_
    refine g_push eX2_firstSheet_5 ?_
    refine g_icmp_neN eX2_firstSheet_8 (by omega) (by omega) (fun c8 => ?_) (fun c8 => ?_)
    · refine g_push (v := -1) eX2_firstSheet_16 ?_
      exact g_ret (eX2_firstSheet_17 _) (Nat.le_refl _) (Nat.le_refl _) ⟨by unfold fsh; first | (rw [if_pos c8]; rfl) | (rw [if_neg c8]; rfl), rfl⟩
    · refine g_iload eX2_firstSheet_11 rfl ?_
      refine g_goto eX2_firstSheet_13 ?_
      exact g_ret (eX2_firstSheet_17 _) (Nat.le_refl _) (Nat.le_refl _) ⟨by unfold fsh; first | (rw [if_pos c8]; rfl) | (rw [if_neg c8]; rfl), rfl⟩
  | succ m ihm =>
    intro least told code b hb hl ht hc
    refine sX2_firstSheet (Nat.le_of_ble_eq_true rfl) ?_
    have hc4 : code < 8 ^ 3 := Nat.lt_of_lt_of_le hc (show 8 ^ b ≤ 8 ^ 3 from Nat.pow_le_pow_right (by omega) (by omega))
    have key : ∀ d w, w + d = 8 → fshL (fun w => fsh (shW pt) m (w + 1) (told ||| shW pt w) (code * 2 ^ 3 ||| w)) d w = fsh (shW pt) (m + 1) least told code → ∀ z, GX2_firstSheet (m + 1) 0 0 (aPu (some (.int (oI (fsh (shW pt) (m + 1) least told code)))) σ) 0 0 21 [some (.ref a), some (.int (nI (m + 1))), some (.int (nI least)), some (.int (nI told)), some (.int (nI code)), some (.int (nI w)), z] [] σ := by
      intro d
      induction d with
      | zero =>
        intro w hw he z
        refine g_iload eX2_firstSheet_21 rfl ?_
        refine g_aload eX2_firstSheet_23 rfl ?_
        refine g_ilenN eX2_firstSheet_24 (by assumption) ?_
        refine g_icmp_geN eX2_firstSheet_25 (by omega) (by omega) (fun c25 => ?_) (fun c25 => by exfalso; omega)
        refine g_push (v := -1) eX2_firstSheet_69 ?_
        exact g_ret (eX2_firstSheet_70 _) (Nat.le_refl _) (Nat.le_refl _) ⟨by rw [← he]; rfl, rfl⟩
      | succ d ihd =>
        intro w hw he z
        have hcode : code * 2 ^ 3 ||| w < 8 ^ (b + 1) := by
          rw [show (8 : Nat) ^ (b + 1) = 2 ^ (3 * (b + 1)) by rw [Nat.pow_mul]]
          refine Nat.or_lt_two_pow ?_ ?_
          · have h3 : (8 : Nat) ^ b = 2 ^ (3 * b) := by rw [Nat.pow_mul]
            rw [h3] at hc
            rw [show 3 * (b + 1) = 3 * b + 3 by omega, Nat.pow_add]
            exact Nat.mul_lt_mul_of_pos_right hc (by decide)
          · exact Nat.lt_of_lt_of_le (show w < 2 ^ 3 by omega) (Nat.pow_le_pow_right (by omega) (by omega))
        have hF := fsh_lt (shW pt) m (w + 1) (told ||| shW pt w) (code * 2 ^ 3 ||| w) (b + 1) (by omega) (by omega) hcode
        have hF2 : (8 : Nat) ^ (m + (b + 1)) ≤ 4096 := show 8 ^ (m + (b + 1)) ≤ 8 ^ 4 from Nat.pow_le_pow_right (by omega) (by omega)
        refine g_iload eX2_firstSheet_21 rfl ?_
        refine g_aload eX2_firstSheet_23 rfl ?_
        refine g_ilenN eX2_firstSheet_24 (by assumption) ?_
        refine g_icmp_geN eX2_firstSheet_25 (by omega) (by omega) (fun c25 => by exfalso; omega) (fun c25 => ?_)
        refine g_aload eX2_firstSheet_28 rfl ?_
        refine g_iload eX2_firstSheet_29 rfl ?_
        refine g_push eX2_firstSheet_30 ?_
        refine g_isubN eX2_firstSheet_31 (by omega) ?_
        rw [Nat.add_sub_cancel]
        refine g_iload eX2_firstSheet_32 rfl ?_
        refine g_push eX2_firstSheet_34 ?_
        refine g_iaddN eX2_firstSheet_35 ?_
        refine g_iload eX2_firstSheet_36 rfl ?_
        refine g_aload eX2_firstSheet_37 rfl ?_
        refine g_iload eX2_firstSheet_38 rfl ?_
        refine g_ialdN eX2_firstSheet_40 (by assumption) (by omega) (by omega) ?_
        refine g_iorN eX2_firstSheet_41 ?_
        refine g_iload eX2_firstSheet_42 rfl ?_
        refine g_push eX2_firstSheet_44 ?_
        refine g_ishlN eX2_firstSheet_45 (by decide) (by omega) ?_
        refine g_iload eX2_firstSheet_46 rfl ?_
        refine g_iorN eX2_firstSheet_48 ?_
        refine g_callSp eX2_firstSheet_49 kX2_26 (ihm (w + 1) (told ||| shW pt w) (code * 2 ^ 3 ||| w) (b + 1) (by omega) (by omega) (Nat.or_lt_two_pow (n := 10) ht (hpb w)) hcode) (by rfl) (by rfl) (Nat.le_refl _) (by exact Nat.le_of_ble_eq_true rfl) (by exact Nat.le_of_ble_eq_true rfl) (Nat.le_refl _) (Nat.le_refl _) ?_
        refine g_istore eX2_firstSheet_52 rfl ?_
        refine g_iload eX2_firstSheet_54 rfl ?_
        refine g_push (v := -1) eX2_firstSheet_56 ?_
        refine g_icmp_eq eX2_firstSheet_57 (fun c57 => ?_) (fun c57 => ?_)
        · have ew := oI_none2 hF (by omega) c57
          refine g_iincN eX2_firstSheet_63 rfl rfl ?_
          refine g_goto eX2_firstSheet_66 ?_
          exact ihd (w + 1) (by omega) ((fshL_none (F := fun w => fsh (shW pt) m (w + 1) (told ||| shW pt w) (code * 2 ^ 3 ||| w)) (w := w) ew).symm.trans he) _
        · obtain ⟨c, ew, -⟩ := oI_some2 hF c57
          refine g_iload eX2_firstSheet_60 rfl ?_
          exact g_ret (eX2_firstSheet_62 _) (Nat.le_refl _) (Nat.le_refl _) ⟨by rw [← he, fshL_some (F := fun w => fsh (shW pt) m (w + 1) (told ||| shW pt w) (code * 2 ^ 3 ||| w)) (w := w) ew, ew], rfl⟩
    refine g_iload eX2_firstSheet_0 rfl ?_
    refine g_if_gtN eX2_firstSheet_1 (by omega) (fun c1 => ?_) (fun c1 => by exfalso; omega)
    refine g_iload eX2_firstSheet_18 rfl ?_
    refine g_istore eX2_firstSheet_19 rfl ?_
    exact key (8 - least) least (by omega) rfl _
set_option maxRecDepth 20000 in
theorem c_bsize {σ : aH} {a b c n : Nat} (h1 : σ[a]? = some (aO 2 [.ref b, .ref c, .int (nI n)])) : MX2_size 0 0 0 [.ref a] σ (aPu (some (.int (nI n))) σ) := by
  refine sX2_size (Nat.le_of_ble_eq_true rfl) ?_
  refine g_aload eX2_size_0 rfl ?_
  refine g_get eX2_size_1 fX2_18_X2 (by assumption) (by rfl) ?_
  exact g_ret (eX2_size_4 _) (Nat.le_refl _) (Nat.le_refl _) ⟨rfl, rfl⟩
set_option maxRecDepth 20000 in
theorem c_bat {σ : aH} {a b c n k : Nat} {bw : List Nat} (h1 : σ[a]? = some (aO 2 [.ref b, .ref c, .int (nI n)])) (h2 : σ[c]? = some (aA bw)) (hl : bw.length = 4) (hn : n ≤ 4) (hk : k < 1000) : MX2_at 0 0 0 [.ref a, .int (nI k)] σ (aPu (some (.int (oI (if k < n then some (bw.getD k 0) else none)))) σ) := by
  refine sX2_at (Nat.le_of_ble_eq_true rfl) ?_
  refine g_iload eX2_at_0 rfl ?_
  refine g_if_ltN eX2_at_1 (by omega) ?_
  refine g_iload eX2_at_4 rfl ?_
  refine g_aload eX2_at_5 rfl ?_
  refine g_get eX2_at_6 fX2_18_X2 (by assumption) (by rfl) ?_
  refine g_icmp_geN eX2_at_9 (by omega) (by omega) (fun c9 => ?_) (fun c9 => ?_)
  · refine g_push (v := -1) eX2_at_21 ?_
    exact g_ret (eX2_at_22 _) (Nat.le_refl _) (Nat.le_refl _) ⟨by first | (rw [if_pos c9]; rfl) | (rw [if_neg (Nat.not_lt.mpr c9)]; rfl), rfl⟩
  · refine g_aload eX2_at_12 rfl ?_
    refine g_get eX2_at_13 fX2_15_X2 (by assumption) (by rfl) ?_
    refine g_iload eX2_at_16 rfl ?_
    refine g_ialdN eX2_at_17 (by assumption) (by omega) (by omega) ?_
    refine g_goto eX2_at_18 ?_
    exact g_ret (eX2_at_22 _) (Nat.le_refl _) (Nat.le_refl _) ⟨by first | (rw [if_pos c9]; rfl) | (rw [if_neg (Nat.not_lt.mpr c9)]; rfl), rfl⟩
theorem fshL_congr {F K : Nat → Option Nat} : ∀ d w, w + d ≤ 8 → (∀ w, w < 8 → F w = K w) → fshL F d w = fshL K d w
  | 0, _, _, _ => rfl
  | d + 1, w, hw, h => by
    unfold fshL
    rw [h w (by omega), fshL_congr d (w + 1) (by omega) h]
theorem fsh_congr {p q : Nat → Nat} (h : ∀ w, w < 8 → p w = q w) : ∀ m least told code, least ≤ 8 → fsh p m least told code = fsh q m least told code
  | 0, _, _, _, _ => rfl
  | m + 1, least, told, code, hl => by
    unfold fsh
    refine fshL_congr _ _ (by omega) (fun w hw => ?_)
    rw [h w hw, fsh_congr h m _ _ _ (by omega)]
def brN : Option (Nat × Nat) → Nat
  | none => 0
  | some q => q.1
def brC : Option (Nat × Nat) → Nat
  | none => 0
  | some q => q.2
theorem brfL_lt (pt : Nat → Nat) : ∀ d l q, l + d = 5 → 1 ≤ l → brfL pt d l = some q → q.1 ≤ 4 ∧ 1 ≤ q.1 ∧ q.2 < 8 ^ q.1
  | 0, l, q, _, _, h => by cases h
  | d + 1, l, q, hl, h1, h => by
    cases e : fsh pt l 0 0 0 with
    | some c =>
      rw [brfL_some e] at h
      cases h
      exact ⟨by omega, h1, fsh_lt pt l 0 0 0 0 (by omega) (by omega) (by decide) c e⟩
    | none =>
      rw [brfL_none e] at h
      exact brfL_lt pt d (l + 1) q (by omega) (by omega) h
theorem brf_lt {near : Nat → Nat} {q : Nat × Nat} (h : brf near = some q) : q.1 ≤ 4 ∧ 1 ≤ q.1 ∧ q.2 < 8 ^ q.1 := brfL_lt _ 4 1 q rfl (by omega) h
set_option maxRecDepth 20000 in
theorem c_seek {σ : aH} {near : List Nat} {z : Int32} {bp bw : List Nat} (h22 : σ[22]? = some (aO 2 [.ref 23, .ref 24, .int z])) (h23 : σ[23]? = some (aA bp)) (h24 : σ[24]? = some (aA bw)) (l1 : bp.length = 8) (l2 : bw.length = 4) (h4 : σ[4]? = some (aA near)) (hln : near.length = 5) (hnb : ∀ d, near.getD d 0 < 2 ^ 31) : MX2_seek 7 0 0 [.ref 22, .ref 4] σ (fun v σ' => v = none ∧ EqO [22, 23, 24] σ σ' ∧ ∃ bp' bw', bp'.length = 8 ∧ bw'.length = 4 ∧ σ'[22]? = some (aO 2 [.ref 23, .ref 24, .int (nI (brN (brf (shW near))))]) ∧ σ'[23]? = some (aA bp') ∧ σ'[24]? = some (aA bw') ∧ ∀ k, k < brN (brf (shW near)) → bw'.getD k 0 = brC (brf (shW near)) / 2 ^ (3 * (brN (brf (shW near)) - 1 - k)) &&& 7) := by
  refine sX2_seek (Nat.le_of_ble_eq_true rfl) ?_
  have hN := @brf_lt (shW near)
  have key3 : ∀ d k τ bp' bw', k + d = brN (brf (shW near)) → bp'.length = 8 → bw'.length = 4 → EqO [22, 23, 24] σ τ → τ[22]? = some (aO 2 [.ref 23, .ref 24, .int (nI (brN (brf (shW near))))]) → τ[23]? = some (aA bp') → τ[24]? = some (aA bw') → (∀ j, j < k → bw'.getD j 0 = brC (brf (shW near)) / 2 ^ (3 * (brN (brf (shW near)) - 1 - j)) &&& 7) → brN (brf (shW near)) ≤ 4 → brC (brf (shW near)) < 4096 → (brN (brf (shW near)) = 0 ∨ brf (shW near) = some (brN (brf (shW near)), brC (brf (shW near)))) → GX2_seek 7 0 0 (fun v σ' => v = none ∧ EqO [22, 23, 24] σ σ' ∧ ∃ bp' bw', bp'.length = 8 ∧ bw'.length = 4 ∧ σ'[22]? = some (aO 2 [.ref 23, .ref 24, .int (nI (brN (brf (shW near))))]) ∧ σ'[23]? = some (aA bp') ∧ σ'[24]? = some (aA bw') ∧ ∀ k, k < brN (brf (shW near)) → bw'.getD k 0 = brC (brf (shW near)) / 2 ^ (3 * (brN (brf (shW near)) - 1 - k)) &&& 7) 0 0 78 [some (.ref 22), some (.ref 4), some (.int (oI ((brf (shW near)).map Prod.snd))), some (.int (nI k))] [] τ := by
    intro d
    induction d with
    | zero =>
      intro k τ bp' bw' hk hl1 hl2 hE g22 g23 g24 hbw hn4 hc4 hsm
      refine g_iload eX2_seek_78 rfl ?_
      refine g_aload eX2_seek_79 rfl ?_
      refine g_get eX2_seek_80 fX2_18_X2 g22 (by rfl) ?_
      refine g_icmp_geN eX2_seek_83 (by omega) (by omega) (fun c83 => ?_) (fun c83 => by exfalso; omega)
      exact g_ret eX2_seek_113 (Nat.le_refl _) (Nat.le_refl _) ⟨rfl, hE, bp', bw', hl1, hl2, g22, g23, g24, fun j hj => hbw j (by omega)⟩
    | succ d ih =>
      intro k τ bp' bw' hk hl1 hl2 hE g22 g23 g24 hbw hn4 hc4 hsm
      have hs2 := hsm.resolve_left (by omega)
      have hoI : oI ((brf (shW near)).map Prod.snd) = nI (brC (brf (shW near))) := by rw [hs2]; rfl
      refine g_iload eX2_seek_78 rfl ?_
      refine g_aload eX2_seek_79 rfl ?_
      refine g_get eX2_seek_80 fX2_18_X2 g22 (by rfl) ?_
      refine g_icmp_geN eX2_seek_83 (by omega) (by omega) (fun c83 => by exfalso; omega) (fun c83 => ?_)
      refine g_aload eX2_seek_86 rfl ?_
      refine g_get eX2_seek_87 fX2_15_X2 g22 (by rfl) ?_
      refine g_iload eX2_seek_90 rfl ?_
      refine g_iload (x := nI (brC (brf (shW near)))) eX2_seek_91 (by rw [← hoI]; rfl) ?_
      refine g_push eX2_seek_92 ?_
      refine g_aload eX2_seek_93 rfl ?_
      refine g_get eX2_seek_94 fX2_18_X2 g22 (by rfl) ?_
      refine g_push eX2_seek_97 ?_
      refine g_isubN eX2_seek_98 (by omega) ?_
      refine g_iload eX2_seek_99 rfl ?_
      refine g_isubN eX2_seek_100 (by omega) ?_
      refine g_imulN eX2_seek_101 ?_
      refine g_ishrN eX2_seek_102 (by omega) (by omega) ?_
      refine g_push eX2_seek_103 ?_
      refine g_iandN eX2_seek_105 ?_
      refine g_iastN eX2_seek_106 g24 (by omega) (by omega) ?_
      refine g_iincN eX2_seek_107 rfl rfl ?_
      refine g_goto eX2_seek_110 ?_
      refine ih (k + 1) _ bp' (bw'.set k (brC (brf (shW near)) / 2 ^ (3 * (brN (brf (shW near)) - 1 - k)) &&& 7)) (by omega) hl1 (by rw [List.length_set]; exact hl2) (hE.st (by decide)) (at_ne (by decide) g22) (at_ne (by decide) g23) (at_eq g24) (fun j hj => ?_) hn4 hc4 hsm
      rw [List.getD_eq_getElem?_getD, List.getElem?_set]
      by_cases hkj : k = j
      · subst hkj
        rw [if_pos rfl, if_pos (by omega)]
        rfl
      · rw [if_neg hkj, ← List.getD_eq_getElem?_getD]
        exact hbw j (by omega)
  have key2 : ∀ d l τ bp', l + d = 5 → 1 ≤ l → bp'.length = 8 → (∀ w, w < 8 → bp'.getD w 0 = prT (shW near) w) → EqO [22, 23, 24] σ τ → ∀ o : Option (Nat × Nat), τ[22]? = some (aO 2 [.ref 23, .ref 24, .int (nI (brN o))]) → τ[23]? = some (aA bp') → τ[24]? = some (aA bw) → (o = none ∧ brfL (prT (shW near)) d l = brf (shW near) ∨ (∃ q, o = some q) ∧ o = brf (shW near)) → GX2_seek 7 0 0 (fun v σ' => v = none ∧ EqO [22, 23, 24] σ σ' ∧ ∃ bp' bw', bp'.length = 8 ∧ bw'.length = 4 ∧ σ'[22]? = some (aO 2 [.ref 23, .ref 24, .int (nI (brN (brf (shW near))))]) ∧ σ'[23]? = some (aA bp') ∧ σ'[24]? = some (aA bw') ∧ ∀ k, k < brN (brf (shW near)) → bw'.getD k 0 = brC (brf (shW near)) / 2 ^ (3 * (brN (brf (shW near)) - 1 - k)) &&& 7) 0 0 34 [some (.ref 22), some (.ref 4), some (.int (oI (o.map Prod.snd))), some (.int (nI l))] [] τ := by
    intro d
    have fin : ∀ (l : Nat) (τ : aH) (bp' : List Nat) (o : Option (Nat × Nat)), bp'.length = 8 → EqO [22, 23, 24] σ τ → τ[22]? = some (aO 2 [.ref 23, .ref 24, .int (nI (brN o))]) → τ[23]? = some (aA bp') → τ[24]? = some (aA bw) → o = brf (shW near) → GX2_seek 7 0 0 (fun v σ' => v = none ∧ EqO [22, 23, 24] σ σ' ∧ ∃ bp' bw', bp'.length = 8 ∧ bw'.length = 4 ∧ σ'[22]? = some (aO 2 [.ref 23, .ref 24, .int (nI (brN (brf (shW near))))]) ∧ σ'[23]? = some (aA bp') ∧ σ'[24]? = some (aA bw') ∧ ∀ k, k < brN (brf (shW near)) → bw'.getD k 0 = brC (brf (shW near)) / 2 ^ (3 * (brN (brf (shW near)) - 1 - k)) &&& 7) 0 0 76 [some (.ref 22), some (.ref 4), some (.int (oI (o.map Prod.snd))), some (.int (nI l))] [] τ := by
      intro l τ bp' o hl1 hE g22 g23 g24 ho
      subst ho
      have hb : brN (brf (shW near)) ≤ 4 ∧ brC (brf (shW near)) < 4096 ∧ (brN (brf (shW near)) = 0 ∨ brf (shW near) = some (brN (brf (shW near)), brC (brf (shW near)))) := by
        cases e : brf (shW near) with
        | none => exact ⟨by decide, by decide, Or.inl rfl⟩
        | some q =>
          obtain ⟨a1, a2, a3⟩ := hN e
          exact ⟨a1, Nat.lt_of_lt_of_le a3 (show 8 ^ q.1 ≤ 8 ^ 4 from Nat.pow_le_pow_right (by omega) a1), Or.inr rfl⟩
      refine g_push eX2_seek_76 ?_
      refine g_istore eX2_seek_77 rfl ?_
      exact key3 _ 0 τ bp' bw (Nat.zero_add _) hl1 l2 hE g22 g23 g24 (fun j hj => by omega) hb.1 hb.2.1 hb.2.2
    induction d with
    | zero =>
      intro l τ bp' hl h1l hl1 hbp hE o g22 g23 g24 ho
      refine g_iload eX2_seek_34 rfl ?_
      refine g_push eX2_seek_35 ?_
      refine g_icmp_gtN eX2_seek_36 (by omega) (by omega) (fun c36 => ?_) (fun c36 => by exfalso; omega)
      exact fin l τ bp' o hl1 hE g22 g23 g24 (by rcases ho with ⟨rfl, ho⟩ | ⟨-, ho⟩; exact ho; exact ho)
    | succ d ih =>
      intro l τ bp' hl h1l hl1 hbp hE o g22 g23 g24 ho
      have hoc : ∀ k, o.map Prod.snd = some k → k < 4096 := by
        intro k hk
        rcases ho with ⟨rfl, -⟩ | ⟨-, ho⟩
        · cases hk
        · rw [ho] at hk
          cases e : brf (shW near) with
          | none => rw [e] at hk; cases hk
          | some q =>
            rw [e] at hk
            obtain ⟨a1, a2, a3⟩ := hN e
            cases hk
            exact Nat.lt_of_lt_of_le a3 (show 8 ^ q.1 ≤ 8 ^ 4 from Nat.pow_le_pow_right (by omega) a1)
      have hbpw : ∀ w, bp'.getD w 0 < 1024 := fun w => by
        by_cases hw : w < 8
        · rw [hbp w hw]; exact prT_lt _ _
        · rw [List.getD_eq_getElem?_getD, List.getElem?_eq_none (by omega)]; decide
      have hfl := fsh_lt (prT (shW near)) l 0 0 0 0 (by omega) (by omega) (by decide)
      have hfl2 : (8 : Nat) ^ (l + 0) ≤ 4096 := show 8 ^ (l + 0) ≤ 8 ^ 4 from Nat.pow_le_pow_right (by omega) (by omega)
      have hfe : fsh (shW bp') l 0 0 0 = fsh (prT (shW near)) l 0 0 0 := fsh_congr (fun w hw => hbp w hw) l 0 0 0 (by omega)
      refine g_iload eX2_seek_34 rfl ?_
      refine g_push eX2_seek_35 ?_
      refine g_icmp_gtN eX2_seek_36 (by omega) (by omega) (fun c36 => by exfalso; omega) (fun c36 => ?_)
      refine g_iload eX2_seek_39 rfl ?_
      refine g_push (v := -1) eX2_seek_40 ?_
      refine g_icmp_ne eX2_seek_41 (fun c41 => ?_) (fun c41 => ?_)
      · obtain ⟨k, hk, -⟩ := oI_some2 hoc c41
        have ho2 : o = brf (shW near) := by
          rcases ho with ⟨rfl, -⟩ | ⟨-, ho⟩
          · cases hk
          · exact ho
        exact fin l τ bp' o hl1 hE g22 g23 g24 ho2
      · have ho2 : o = none := by
          have := oI_none2 hoc (by omega) c41
          cases o with
          | none => rfl
          | some q => cases this
        subst ho2
        have ho3 : brfL (prT (shW near)) (d + 1) l = brf (shW near) := by
          rcases ho with ⟨-, ho⟩ | ⟨⟨q, hq⟩, -⟩
          · exact ho
          · cases hq
        refine g_aload eX2_seek_44 rfl ?_
        refine g_get eX2_seek_45 fX2_9_X2 g22 (by rfl) ?_
        refine g_iload eX2_seek_48 rfl ?_
        refine g_push eX2_seek_49 ?_
        refine g_push eX2_seek_50 ?_
        refine g_push eX2_seek_51 ?_
        refine g_callSp eX2_seek_52 kX2_26 (c_firstSheet g23 hl1 hbpw l 0 0 0 0 (by omega) (by omega) (by decide) (by decide)) (by rfl) (by rfl) (by omega) (by exact Nat.le_of_ble_eq_true rfl) (by exact Nat.le_of_ble_eq_true rfl) (Nat.le_refl _) (Nat.le_refl _) ?_
        rw [hfe]
        refine g_istore eX2_seek_55 rfl ?_
        refine g_aload eX2_seek_56 rfl ?_
        refine g_iload eX2_seek_57 rfl ?_
        refine g_push (v := -1) eX2_seek_58 ?_
        refine g_icmp_ne eX2_seek_59 (fun c59 => ?_) (fun c59 => ?_)
        · obtain ⟨c, ew, -⟩ := oI_some2 hfl c59
          rw [ew]
          refine g_iload eX2_seek_66 rfl ?_
          refine g_putI eX2_seek_67 fX2_18_X2 pX2_2 g22 (by exact Nat.le_of_ble_eq_true rfl) ?_
          refine g_iincN eX2_seek_70 rfl rfl ?_
          refine g_goto eX2_seek_73 ?_
          first
            | exact ih (l + 1) _ bp' (by omega) (by omega) hl1 hbp (hE.st (by decide)) none (at_eq g22) (at_ne (by decide) g23) (at_ne (by decide) g24) (Or.inl ⟨rfl, (brfL_none ew).symm.trans ho3⟩)
            | exact ih (l + 1) _ bp' (by omega) (by omega) hl1 hbp (hE.st (by decide)) (some (l, c)) (at_eq g22) (at_ne (by decide) g23) (at_ne (by decide) g24) (Or.inr ⟨⟨_, rfl⟩, (brfL_some ew).symm.trans ho3⟩)
        · have ew := oI_none2 hfl (by omega) c59
          rw [ew]
          refine g_push eX2_seek_62 ?_
          refine g_goto eX2_seek_63 ?_
          refine g_putI eX2_seek_67 fX2_18_X2 pX2_2 g22 (by exact Nat.le_of_ble_eq_true rfl) ?_
          refine g_iincN eX2_seek_70 rfl rfl ?_
          refine g_goto eX2_seek_73 ?_
          first
            | exact ih (l + 1) _ bp' (by omega) (by omega) hl1 hbp (hE.st (by decide)) none (at_eq g22) (at_ne (by decide) g23) (at_ne (by decide) g24) (Or.inl ⟨rfl, (brfL_none ew).symm.trans ho3⟩)
            | exact ih (l + 1) _ bp' (by omega) (by omega) hl1 hbp (hE.st (by decide)) (some (l, c)) (at_eq g22) (at_ne (by decide) g23) (at_ne (by decide) g24) (Or.inr ⟨⟨_, rfl⟩, (brfL_some ew).symm.trans ho3⟩)
  have key1 : ∀ d j τ bp', j + d = 8 → bp'.length = 8 → (∀ w, w < j → bp'.getD w 0 = prT (shW near) w) → EqO [22, 23, 24] σ τ → τ[22]? = some (aO 2 [.ref 23, .ref 24, .int z]) → τ[23]? = some (aA bp') → τ[24]? = some (aA bw) → GX2_seek 7 0 0 (fun v σ' => v = none ∧ EqO [22, 23, 24] σ σ' ∧ ∃ bp' bw', bp'.length = 8 ∧ bw'.length = 4 ∧ σ'[22]? = some (aO 2 [.ref 23, .ref 24, .int (nI (brN (brf (shW near))))]) ∧ σ'[23]? = some (aA bp') ∧ σ'[24]? = some (aA bw') ∧ ∀ k, k < brN (brf (shW near)) → bw'.getD k 0 = brC (brf (shW near)) / 2 ^ (3 * (brN (brf (shW near)) - 1 - k)) &&& 7) 0 0 2 [some (.ref 22), some (.ref 4), some (.int (nI j)), none] [] τ := by
    intro d
    induction d with
    | zero =>
      intro j τ bp' hj hl1 hbp hE g22 g23 g24
      obtain rfl : j = 8 := by omega
      refine g_iload eX2_seek_2 rfl ?_
      refine g_push eX2_seek_3 ?_
      refine g_icmp_geN eX2_seek_5 (by omega) (by omega) (fun c5 => ?_) (fun c5 => by exfalso; omega)
      refine g_aload eX2_seek_25 rfl ?_
      refine g_push eX2_seek_26 ?_
      refine g_putI eX2_seek_27 fX2_18_X2 pX2_2 g22 (by exact Nat.le_of_ble_eq_true rfl) ?_
      refine g_push (v := -1) eX2_seek_30 ?_
      refine g_istore eX2_seek_31 rfl ?_
      refine g_push eX2_seek_32 ?_
      refine g_istore eX2_seek_33 rfl ?_
      exact key2 4 1 _ bp' rfl (by omega) hl1 hbp (hE.st (by decide)) none (at_eq g22) (at_ne (by decide) g23) (at_ne (by decide) g24) (Or.inl ⟨rfl, rfl⟩)
    | succ d ih =>
      intro j τ bp' hj hl1 hbp hE g22 g23 g24
      refine g_iload eX2_seek_2 rfl ?_
      refine g_push eX2_seek_3 ?_
      refine g_icmp_geN eX2_seek_5 (by omega) (by omega) (fun c5 => by exfalso; omega) (fun c5 => ?_)
      refine g_aload eX2_seek_8 rfl ?_
      refine g_get eX2_seek_9 fX2_9_X2 g22 (by rfl) ?_
      refine g_iload eX2_seek_12 rfl ?_
      refine g_iload eX2_seek_13 rfl ?_
      refine g_aload eX2_seek_14 rfl ?_
      refine g_callSp eX2_seek_15 kX2_22 (c_pairsToldBy (w := j) (hE.at (by decide) h4) hln hnb (by omega)) (by rfl) (by rfl) (by exact Nat.le_of_ble_eq_true rfl) (by exact Nat.le_of_ble_eq_true rfl) (by exact Nat.le_of_ble_eq_true rfl) (Nat.le_refl _) (Nat.le_refl _) ?_
      refine g_iastN eX2_seek_18 g23 (by omega) (by omega) ?_
      refine g_iincN eX2_seek_19 rfl rfl ?_
      refine g_goto eX2_seek_22 ?_
      refine ih (j + 1) _ (bp'.set j (prT (shW near) j)) (by omega) (by rw [List.length_set]; exact hl1) (fun w hw => ?_) (hE.st (by decide)) (at_ne (by decide) g22) (at_eq g23) (at_ne (by decide) g24)
      rw [List.getD_eq_getElem?_getD, List.getElem?_set]
      by_cases hkj : j = w
      · subst hkj
        rw [if_pos rfl, if_pos (by omega)]
        rfl
      · rw [if_neg hkj, ← List.getD_eq_getElem?_getD]
        exact hbp w (by omega)
  refine g_push eX2_seek_0 ?_
  refine g_istore eX2_seek_1 rfl ?_
  exact key1 8 0 σ bp rfl l1 (fun w hw => by omega) EqO.rf h22 h23 h24
set_option maxRecDepth 20000 in
theorem c_stBegin {σ : aH} (h : ISh 6 σ) : MX8_begin 1 0 0 [.ref 6] σ (fun v σ' => v = none ∧ EqO [6, 7, 9] σ σ' ∧ ∃ (ws wm dm hid : List Nat), σ'[6]? = some (aO 8 [.ref 7, .ref 9, .ref 12, .int (nI 2), .int (nI 0), .int (nI 0)]) ∧ σ'[7]? = some (aO 6 [.ref 8, .int (nI 0)]) ∧ σ'[8]? = some (aA ws) ∧ σ'[9]? = some (aO 3 [.ref 10, .ref 11, .int (nI 0)]) ∧ σ'[10]? = some (aA wm) ∧ σ'[11]? = some (aA dm) ∧ σ'[12]? = some (aA hid) ∧ ws.length = 10 ∧ wm.length = 8 ∧ dm.length = 8 ∧ hid.length = 4) := by
  refine sX8_begin (Nat.le_of_ble_eq_true rfl) ?_
  obtain ⟨ws, wm, dm, hid, y0, y1, y2, y3, y4, e6, e7, e8, e9, e10, e11, e12, l1, l2, l3, l4⟩ := h
  refine g_aload eX8_begin_0 rfl ?_
  refine g_get eX8_begin_1 fX8_12_X8 e6 (by rfl) ?_
  refine g_callVp (r := (RX6, TX6, 2)) eX8_begin_4 kX8_29 e7 (by rfl) (c_clear e7) (by rfl) (by rfl) (by exact Nat.le_of_ble_eq_true rfl) (by exact Nat.le_of_ble_eq_true rfl) (by exact Nat.le_of_ble_eq_true rfl) (Nat.le_refl _) (Nat.le_refl _) ?_
  refine g_aload eX8_begin_7 rfl ?_
  refine g_get eX8_begin_8 fX8_21_X8 (at_ne (by decide) e6) (by rfl) ?_
  refine g_callVp (r := (RX3, TX3, 3)) eX8_begin_11 kX8_32 (at_ne (by decide) e9) (by rfl) (c_hclear (at_ne (by decide) e9)) (by rfl) (by rfl) (by exact Nat.le_of_ble_eq_true rfl) (by exact Nat.le_of_ble_eq_true rfl) (by exact Nat.le_of_ble_eq_true rfl) (Nat.le_refl _) (Nat.le_refl _) ?_
  refine g_aload eX8_begin_14 rfl ?_
  refine g_push eX8_begin_15 ?_
  refine g_putI eX8_begin_16 fX8_33_X8 pX8_3 (at_ne (by decide) (at_ne (by decide) e6)) (by exact Nat.le_of_ble_eq_true rfl) ?_
  refine g_aload eX8_begin_19 rfl ?_
  refine g_push eX8_begin_20 ?_
  refine g_putI eX8_begin_21 fX8_37_X8 pX8_4 (at_eq (at_ne (by decide) (at_ne (by decide) e6))) (by exact Nat.le_of_ble_eq_true rfl) ?_
  refine g_aload eX8_begin_24 rfl ?_
  refine g_push eX8_begin_25 ?_
  refine g_putI eX8_begin_26 fX8_40_X8 pX8_5 (at_eq (at_eq (at_ne (by decide) (at_ne (by decide) e6)))) (by exact Nat.le_of_ble_eq_true rfl) ?_
  exact g_ret eX8_begin_29 (Nat.le_refl _) (Nat.le_refl _) ⟨rfl, ((((EqO.rf.st (by decide)).st (by decide)).st (by decide)).st (by decide)).st (by decide), ws, wm, dm, hid, at_eq (at_eq (at_eq (at_ne (by decide) (at_ne (by decide) e6)))), at_ne (by decide) (at_ne (by decide) (at_ne (by decide) (at_ne (by decide) (at_eq e7)))), at_ne (by decide) (at_ne (by decide) (at_ne (by decide) (at_ne (by decide) (at_ne (by decide) e8)))), at_ne (by decide) (at_ne (by decide) (at_ne (by decide) (at_eq (at_ne (by decide) e9)))), at_ne (by decide) (at_ne (by decide) (at_ne (by decide) (at_ne (by decide) (at_ne (by decide) e10)))), at_ne (by decide) (at_ne (by decide) (at_ne (by decide) (at_ne (by decide) (at_ne (by decide) e11)))), at_ne (by decide) (at_ne (by decide) (at_ne (by decide) (at_ne (by decide) (at_ne (by decide) e12)))), l1, l2, l3, l4⟩
set_option maxRecDepth 20000 in
theorem c_stCopy13 {σ : aH} {near : Nat → Nat} {c : Cr} (h : ISh 13 σ) (g : IS 6 near c σ) : MX8_copyFrom 2 0 0 [.ref 13, .ref 6] σ (fun v σ' => v = none ∧ EqO [13, 14, 15, 16, 17, 18, 19] σ σ' ∧ IS 13 near c σ') := by
  refine sX8_copyFrom (Nat.le_of_ble_eq_true rfl) ?_
  obtain ⟨ws, wm, dm, hid, y0, y1, y2, y3, y4, e6, e7, e8, e9, e10, e11, e12, l1, l2, l3, l4⟩ := h
  obtain ⟨ws', wm', dm', hid', g6, g7, g8, g9, g10, g11, g12, k1, kw, k2, k3, kb, k4, kh, kd⟩ := g
  refine g_aload eX8_copyFrom_0 rfl ?_
  refine g_get eX8_copyFrom_1 fX8_12_X8 e6 (by rfl) ?_
  refine g_aload eX8_copyFrom_4 rfl ?_
  refine g_get eX8_copyFrom_5 fX8_12_X8 g6 (by rfl) ?_
  refine g_callVp (r := (RX6, TX6, 2)) eX8_copyFrom_8 kX8_43 e7 (by rfl) (c_copyFrom e7 e8 l1 g7 g8 k1 (by decide) (by decide)) (by rfl) (by rfl) (by exact Nat.le_of_ble_eq_true rfl) (by exact Nat.le_of_ble_eq_true rfl) (by exact Nat.le_of_ble_eq_true rfl) (Nat.le_refl _) (Nat.le_refl _) ?_
  refine g_aload eX8_copyFrom_11 rfl ?_
  refine g_get eX8_copyFrom_12 fX8_21_X8 (at_ne (by decide) (at_ne (by decide) e6)) (by rfl) ?_
  refine g_aload eX8_copyFrom_15 rfl ?_
  refine g_get eX8_copyFrom_16 fX8_21_X8 (at_ne (by decide) (at_ne (by decide) g6)) (by rfl) ?_
  refine g_callVp (r := (RX3, TX3, 3)) eX8_copyFrom_19 kX8_47 (at_ne (by decide) (at_ne (by decide) e9)) (by rfl) (c_hcopy (at_ne (by decide) (at_ne (by decide) e9)) (at_ne (by decide) (at_ne (by decide) e10)) (at_ne (by decide) (at_ne (by decide) e11)) l2 l3 (at_ne (by decide) (at_ne (by decide) g9)) (at_ne (by decide) (at_ne (by decide) g10)) (at_ne (by decide) (at_ne (by decide) g11)) k2 k3 (by decide) (by decide) (by decide) (by decide) (by decide) (by decide)) (by rfl) (by rfl) (by exact Nat.le_of_ble_eq_true rfl) (by exact Nat.le_of_ble_eq_true rfl) (by exact Nat.le_of_ble_eq_true rfl) (Nat.le_refl _) (Nat.le_refl _) ?_
  refine g_aload eX8_copyFrom_22 rfl ?_
  refine g_get eX8_copyFrom_23 fX8_25_X8 (at_ne (by decide) (at_ne (by decide) (at_ne (by decide) (at_ne (by decide) (at_ne (by decide) g6))))) (by rfl) ?_
  refine g_push eX8_copyFrom_26 ?_
  refine g_aload eX8_copyFrom_27 rfl ?_
  refine g_get eX8_copyFrom_28 fX8_25_X8 (at_ne (by decide) (at_ne (by decide) (at_ne (by decide) (at_ne (by decide) (at_ne (by decide) e6))))) (by rfl) ?_
  refine g_push eX8_copyFrom_31 ?_
  refine g_aload eX8_copyFrom_32 rfl ?_
  refine g_get eX8_copyFrom_33 fX8_25_X8 (at_ne (by decide) (at_ne (by decide) (at_ne (by decide) (at_ne (by decide) (at_ne (by decide) e6))))) (by rfl) ?_
  refine g_ilenN eX8_copyFrom_36 (at_ne (by decide) (at_ne (by decide) (at_ne (by decide) (at_ne (by decide) (at_ne (by decide) e12))))) ?_
  refine g_copy eX8_copyFrom_37 kX8_50 (by exact Nat.le_of_ble_eq_true rfl) (by exact Nat.le_of_ble_eq_true rfl) (at_ne (by decide) (at_ne (by decide) (at_ne (by decide) (at_ne (by decide) (at_ne (by decide) g12))))) (at_ne (by decide) (at_ne (by decide) (at_ne (by decide) (at_ne (by decide) (at_ne (by decide) e12))))) rfl (by rw [List.length_map]; omega) (by rw [List.length_map]) ?_
  refine g_aload eX8_copyFrom_40 rfl ?_
  refine g_aload eX8_copyFrom_41 rfl ?_
  refine g_get eX8_copyFrom_42 fX8_33_X8 (at_ne (by decide) (at_ne (by decide) (at_ne (by decide) (at_ne (by decide) (at_ne (by decide) (at_ne (by decide) g6)))))) (by rfl) ?_
  refine g_putI eX8_copyFrom_45 fX8_33_X8 pX8_3 (at_ne (by decide) (at_ne (by decide) (at_ne (by decide) (at_ne (by decide) (at_ne (by decide) (at_ne (by decide) e6)))))) (by exact Nat.le_of_ble_eq_true rfl) ?_
  refine g_aload eX8_copyFrom_48 rfl ?_
  refine g_aload eX8_copyFrom_49 rfl ?_
  refine g_get eX8_copyFrom_50 fX8_37_X8 (at_ne (by decide) (at_ne (by decide) (at_ne (by decide) (at_ne (by decide) (at_ne (by decide) (at_ne (by decide) (at_ne (by decide) g6))))))) (by rfl) ?_
  refine g_putI eX8_copyFrom_53 fX8_37_X8 pX8_4 (at_eq (at_ne (by decide) (at_ne (by decide) (at_ne (by decide) (at_ne (by decide) (at_ne (by decide) (at_ne (by decide) e6))))))) (by exact Nat.le_of_ble_eq_true rfl) ?_
  refine g_aload eX8_copyFrom_56 rfl ?_
  refine g_aload eX8_copyFrom_57 rfl ?_
  refine g_get eX8_copyFrom_58 fX8_40_X8 (at_ne (by decide) (at_ne (by decide) (at_ne (by decide) (at_ne (by decide) (at_ne (by decide) (at_ne (by decide) (at_ne (by decide) (at_ne (by decide) g6)))))))) (by rfl) ?_
  refine g_putI eX8_copyFrom_61 fX8_40_X8 pX8_5 (at_eq (at_eq (at_ne (by decide) (at_ne (by decide) (at_ne (by decide) (at_ne (by decide) (at_ne (by decide) (at_ne (by decide) e6)))))))) (by exact Nat.le_of_ble_eq_true rfl) ?_
  exact g_ret eX8_copyFrom_64 (Nat.le_refl _) (Nat.le_refl _) ⟨rfl, ((((((((EqO.rf.st (by decide)).st (by decide)).st (by decide)).st (by decide)).st (by decide)).st (by decide)).st (by decide)).st (by decide)).st (by decide), ws', wm', dm', hid', at_eq (at_eq (at_eq (at_ne (by decide) (at_ne (by decide) (at_ne (by decide) (at_ne (by decide) (at_ne (by decide) (at_ne (by decide) e6)))))))), (at_ne (by decide) (at_ne (by decide) (at_ne (by decide) (at_ne (by decide) (at_ne (by decide) (at_ne (by decide) (at_ne (by decide) (at_eq (at_ne (by decide) e7))))))))), (at_ne (by decide) (at_ne (by decide) (at_ne (by decide) (at_ne (by decide) (at_ne (by decide) (at_ne (by decide) (at_ne (by decide) (at_ne (by decide) (at_eq e8))))))))), (at_ne (by decide) (at_ne (by decide) (at_ne (by decide) (at_ne (by decide) (at_eq (at_ne (by decide) (at_ne (by decide) (at_ne (by decide) (at_ne (by decide) e9))))))))), (at_ne (by decide) (at_ne (by decide) (at_ne (by decide) (at_ne (by decide) (at_ne (by decide) (at_ne (by decide) (at_eq (at_ne (by decide) (at_ne (by decide) e10))))))))), (at_ne (by decide) (at_ne (by decide) (at_ne (by decide) (at_ne (by decide) (at_ne (by decide) (at_eq (at_ne (by decide) (at_ne (by decide) (at_ne (by decide) e11))))))))), (at_ne (by decide) (at_ne (by decide) (at_ne (by decide) (at_eq (at_ne (by decide) (at_ne (by decide) (at_ne (by decide) (at_ne (by decide) (at_ne (by decide) e12))))))))), k1, kw, k2, k3, kb, k4, kh, kd⟩
set_option maxRecDepth 20000 in
theorem c_stCopy6 {σ : aH} {near : Nat → Nat} {c : Cr} (h : ISh 6 σ) (g : IS 13 near c σ) : MX8_copyFrom 2 0 0 [.ref 6, .ref 13] σ (fun v σ' => v = none ∧ EqO [6, 7, 8, 9, 10, 11, 12] σ σ' ∧ IS 6 near c σ') := by
  refine sX8_copyFrom (Nat.le_of_ble_eq_true rfl) ?_
  obtain ⟨ws, wm, dm, hid, y0, y1, y2, y3, y4, e6, e7, e8, e9, e10, e11, e12, l1, l2, l3, l4⟩ := h
  obtain ⟨ws', wm', dm', hid', g6, g7, g8, g9, g10, g11, g12, k1, kw, k2, k3, kb, k4, kh, kd⟩ := g
  refine g_aload eX8_copyFrom_0 rfl ?_
  refine g_get eX8_copyFrom_1 fX8_12_X8 e6 (by rfl) ?_
  refine g_aload eX8_copyFrom_4 rfl ?_
  refine g_get eX8_copyFrom_5 fX8_12_X8 g6 (by rfl) ?_
  refine g_callVp (r := (RX6, TX6, 2)) eX8_copyFrom_8 kX8_43 e7 (by rfl) (c_copyFrom e7 e8 l1 g7 g8 k1 (by decide) (by decide)) (by rfl) (by rfl) (by exact Nat.le_of_ble_eq_true rfl) (by exact Nat.le_of_ble_eq_true rfl) (by exact Nat.le_of_ble_eq_true rfl) (Nat.le_refl _) (Nat.le_refl _) ?_
  refine g_aload eX8_copyFrom_11 rfl ?_
  refine g_get eX8_copyFrom_12 fX8_21_X8 (at_ne (by decide) (at_ne (by decide) e6)) (by rfl) ?_
  refine g_aload eX8_copyFrom_15 rfl ?_
  refine g_get eX8_copyFrom_16 fX8_21_X8 (at_ne (by decide) (at_ne (by decide) g6)) (by rfl) ?_
  refine g_callVp (r := (RX3, TX3, 3)) eX8_copyFrom_19 kX8_47 (at_ne (by decide) (at_ne (by decide) e9)) (by rfl) (c_hcopy (at_ne (by decide) (at_ne (by decide) e9)) (at_ne (by decide) (at_ne (by decide) e10)) (at_ne (by decide) (at_ne (by decide) e11)) l2 l3 (at_ne (by decide) (at_ne (by decide) g9)) (at_ne (by decide) (at_ne (by decide) g10)) (at_ne (by decide) (at_ne (by decide) g11)) k2 k3 (by decide) (by decide) (by decide) (by decide) (by decide) (by decide)) (by rfl) (by rfl) (by exact Nat.le_of_ble_eq_true rfl) (by exact Nat.le_of_ble_eq_true rfl) (by exact Nat.le_of_ble_eq_true rfl) (Nat.le_refl _) (Nat.le_refl _) ?_
  refine g_aload eX8_copyFrom_22 rfl ?_
  refine g_get eX8_copyFrom_23 fX8_25_X8 (at_ne (by decide) (at_ne (by decide) (at_ne (by decide) (at_ne (by decide) (at_ne (by decide) g6))))) (by rfl) ?_
  refine g_push eX8_copyFrom_26 ?_
  refine g_aload eX8_copyFrom_27 rfl ?_
  refine g_get eX8_copyFrom_28 fX8_25_X8 (at_ne (by decide) (at_ne (by decide) (at_ne (by decide) (at_ne (by decide) (at_ne (by decide) e6))))) (by rfl) ?_
  refine g_push eX8_copyFrom_31 ?_
  refine g_aload eX8_copyFrom_32 rfl ?_
  refine g_get eX8_copyFrom_33 fX8_25_X8 (at_ne (by decide) (at_ne (by decide) (at_ne (by decide) (at_ne (by decide) (at_ne (by decide) e6))))) (by rfl) ?_
  refine g_ilenN eX8_copyFrom_36 (at_ne (by decide) (at_ne (by decide) (at_ne (by decide) (at_ne (by decide) (at_ne (by decide) e12))))) ?_
  refine g_copy eX8_copyFrom_37 kX8_50 (by exact Nat.le_of_ble_eq_true rfl) (by exact Nat.le_of_ble_eq_true rfl) (at_ne (by decide) (at_ne (by decide) (at_ne (by decide) (at_ne (by decide) (at_ne (by decide) g12))))) (at_ne (by decide) (at_ne (by decide) (at_ne (by decide) (at_ne (by decide) (at_ne (by decide) e12))))) rfl (by rw [List.length_map]; omega) (by rw [List.length_map]) ?_
  refine g_aload eX8_copyFrom_40 rfl ?_
  refine g_aload eX8_copyFrom_41 rfl ?_
  refine g_get eX8_copyFrom_42 fX8_33_X8 (at_ne (by decide) (at_ne (by decide) (at_ne (by decide) (at_ne (by decide) (at_ne (by decide) (at_ne (by decide) g6)))))) (by rfl) ?_
  refine g_putI eX8_copyFrom_45 fX8_33_X8 pX8_3 (at_ne (by decide) (at_ne (by decide) (at_ne (by decide) (at_ne (by decide) (at_ne (by decide) (at_ne (by decide) e6)))))) (by exact Nat.le_of_ble_eq_true rfl) ?_
  refine g_aload eX8_copyFrom_48 rfl ?_
  refine g_aload eX8_copyFrom_49 rfl ?_
  refine g_get eX8_copyFrom_50 fX8_37_X8 (at_ne (by decide) (at_ne (by decide) (at_ne (by decide) (at_ne (by decide) (at_ne (by decide) (at_ne (by decide) (at_ne (by decide) g6))))))) (by rfl) ?_
  refine g_putI eX8_copyFrom_53 fX8_37_X8 pX8_4 (at_eq (at_ne (by decide) (at_ne (by decide) (at_ne (by decide) (at_ne (by decide) (at_ne (by decide) (at_ne (by decide) e6))))))) (by exact Nat.le_of_ble_eq_true rfl) ?_
  refine g_aload eX8_copyFrom_56 rfl ?_
  refine g_aload eX8_copyFrom_57 rfl ?_
  refine g_get eX8_copyFrom_58 fX8_40_X8 (at_ne (by decide) (at_ne (by decide) (at_ne (by decide) (at_ne (by decide) (at_ne (by decide) (at_ne (by decide) (at_ne (by decide) (at_ne (by decide) g6)))))))) (by rfl) ?_
  refine g_putI eX8_copyFrom_61 fX8_40_X8 pX8_5 (at_eq (at_eq (at_ne (by decide) (at_ne (by decide) (at_ne (by decide) (at_ne (by decide) (at_ne (by decide) (at_ne (by decide) e6)))))))) (by exact Nat.le_of_ble_eq_true rfl) ?_
  exact g_ret eX8_copyFrom_64 (Nat.le_refl _) (Nat.le_refl _) ⟨rfl, ((((((((EqO.rf.st (by decide)).st (by decide)).st (by decide)).st (by decide)).st (by decide)).st (by decide)).st (by decide)).st (by decide)).st (by decide), ws', wm', dm', hid', at_eq (at_eq (at_eq (at_ne (by decide) (at_ne (by decide) (at_ne (by decide) (at_ne (by decide) (at_ne (by decide) (at_ne (by decide) e6)))))))), (at_ne (by decide) (at_ne (by decide) (at_ne (by decide) (at_ne (by decide) (at_ne (by decide) (at_ne (by decide) (at_ne (by decide) (at_eq (at_ne (by decide) e7))))))))), (at_ne (by decide) (at_ne (by decide) (at_ne (by decide) (at_ne (by decide) (at_ne (by decide) (at_ne (by decide) (at_ne (by decide) (at_ne (by decide) (at_eq e8))))))))), (at_ne (by decide) (at_ne (by decide) (at_ne (by decide) (at_ne (by decide) (at_eq (at_ne (by decide) (at_ne (by decide) (at_ne (by decide) (at_ne (by decide) e9))))))))), (at_ne (by decide) (at_ne (by decide) (at_ne (by decide) (at_ne (by decide) (at_ne (by decide) (at_ne (by decide) (at_eq (at_ne (by decide) (at_ne (by decide) e10))))))))), (at_ne (by decide) (at_ne (by decide) (at_ne (by decide) (at_ne (by decide) (at_ne (by decide) (at_eq (at_ne (by decide) (at_ne (by decide) (at_ne (by decide) e11))))))))), (at_ne (by decide) (at_ne (by decide) (at_ne (by decide) (at_eq (at_ne (by decide) (at_ne (by decide) (at_ne (by decide) (at_ne (by decide) (at_ne (by decide) e12))))))))), k1, kw, k2, k3, kb, k4, kh, kd⟩
